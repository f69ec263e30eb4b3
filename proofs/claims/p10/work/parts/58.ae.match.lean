theorem zz_74adaa8047 {a1 a2 a3 a4 : Int32} (h0 : (0 ≤ a1) ∧ (a1 ≤ 1)) (h1 : (a2 = 0) ↔ ((a3 < 0) ∨ (a4 - 1 < a3))) (h2 : ¬ (a2 = 0)) (h3 : (0 ≤ a4) ∧ (a4 ≤ 40)) (h4 : (a2 = 0) ∨ (a2 = 1)) : 0 ≤ (40 * a1) + a3 := by simp only [Int32.le_iff_toInt_le, Int32.lt_iff_toInt_lt, ← Int32.toInt_inj, ne_eq] at *; have b0 := Int32.le_toInt a4; have c0 := Int32.toInt_lt a4; have b1 := Int32.le_toInt a1; have c1 := Int32.toInt_lt a1; have b2 := Int32.le_toInt a3; have c2 := Int32.toInt_lt a3; have l0 : (0 : Int32).toInt = 0 := (by decide); have l1 : (1 : Int32).toInt = 1 := (by decide); have l2 : (40 : Int32).toInt = 40 := (by decide); have s0 : (a4 - 1).toInt = a4.toInt - 1 := q_tS (by decide) (by omega) (by omega); have s1 : (40 * a1).toInt = 40 * a1.toInt := q_tM (by decide) (by omega) (by omega); have s2 : ((40 * a1) + a3).toInt = (40 * a1).toInt + a3.toInt := q_tA rfl (by omega) (by omega); omega
theorem zz_8b2cf0d6c2 {a1 a2 a3 a4 : Int32} (h0 : (0 ≤ a1) ∧ (a1 ≤ 1)) (h1 : (a2 = 0) ↔ ((a3 < 0) ∨ (a4 - 1 < a3))) (h2 : (0 ≤ a4) ∧ (a4 ≤ 40)) (h3 : ¬ (a2 = 0)) (h4 : (a2 = 0) ∨ (a2 = 1)) : (40 * a1) + a3 < 80 := by simp only [Int32.le_iff_toInt_le, Int32.lt_iff_toInt_lt, ← Int32.toInt_inj, ne_eq] at *; have b0 := Int32.le_toInt a4; have c0 := Int32.toInt_lt a4; have b1 := Int32.le_toInt a1; have c1 := Int32.toInt_lt a1; have b2 := Int32.le_toInt a3; have c2 := Int32.toInt_lt a3; have l0 : (0 : Int32).toInt = 0 := (by decide); have l1 : (1 : Int32).toInt = 1 := (by decide); have l2 : (40 : Int32).toInt = 40 := (by decide); have l3 : (80 : Int32).toInt = 80 := (by decide); have s0 : (a4 - 1).toInt = a4.toInt - 1 := q_tS (by decide) (by omega) (by omega); have s1 : (40 * a1).toInt = 40 * a1.toInt := q_tM (by decide) (by omega) (by omega); have s2 : ((40 * a1) + a3).toInt = (40 * a1).toInt + a3.toInt := q_tA rfl (by omega) (by omega); omega
theorem zz_d53aeae365 {a1 a2 a3 : Int32} (h0 : (a1 = 0) ↔ ((a2 < 0) ∨ (a3 - 1 < a2))) (h1 : ¬ (a1 = 0)) (h2 : (0 ≤ a3) ∧ (a3 ≤ 12)) : 0 ≤ a2 := by simp only [Int32.le_iff_toInt_le, Int32.lt_iff_toInt_lt, ← Int32.toInt_inj, ne_eq] at *; have b0 := Int32.le_toInt a3; have c0 := Int32.toInt_lt a3; have l0 : (0 : Int32).toInt = 0 := (by decide); have l1 : (1 : Int32).toInt = 1 := (by decide); have l2 : (12 : Int32).toInt = 12 := (by decide); have s0 : (a3 - 1).toInt = a3.toInt - 1 := q_tS (by decide) (by omega) (by omega); omega
theorem zz_9b6c00b77a {a1 a2 a3 : Int32} (h0 : (a1 = 0) ↔ ((a2 < 0) ∨ (a3 - 1 < a2))) (h1 : (0 ≤ a3) ∧ (a3 ≤ 12)) (h2 : ¬ (a1 = 0)) : a2 < 12 := by simp only [Int32.le_iff_toInt_le, Int32.lt_iff_toInt_lt, ← Int32.toInt_inj, ne_eq] at *; have b0 := Int32.le_toInt a3; have c0 := Int32.toInt_lt a3; have l0 : (0 : Int32).toInt = 0 := (by decide); have l1 : (1 : Int32).toInt = 1 := (by decide); have l2 : (12 : Int32).toInt = 12 := (by decide); have s0 : (a3 - 1).toInt = a3.toInt - 1 := q_tS (by decide) (by omega) (by omega); omega
theorem zz_36c4603e00 {a1 : Int32} (h0 : ¬ (a1 = 0)) : a1 ≠ 0 := by simp only [Int32.le_iff_toInt_le, Int32.lt_iff_toInt_lt, ← Int32.toInt_inj, ne_eq] at *; have l0 : (0 : Int32).toInt = 0 := (by decide); omega
theorem zz_27a988a28d {a1 a2 a3 : Int32} (h0 : (a1 = 0) ↔ ((a2 < 0) ∨ (a3 - 1 < a2))) (h1 : ¬ (a1 = 0)) (h2 : (0 ≤ a3) ∧ (a3 ≤ 40)) : 0 ≤ a2 := by simp only [Int32.le_iff_toInt_le, Int32.lt_iff_toInt_lt, ← Int32.toInt_inj, ne_eq] at *; have b0 := Int32.le_toInt a3; have c0 := Int32.toInt_lt a3; have l0 : (0 : Int32).toInt = 0 := (by decide); have l1 : (1 : Int32).toInt = 1 := (by decide); have l2 : (40 : Int32).toInt = 40 := (by decide); have s0 : (a3 - 1).toInt = a3.toInt - 1 := q_tS (by decide) (by omega) (by omega); omega
theorem zz_5ece4c0323 {a1 a2 a3 : Int32} (h0 : (a1 = 0) ↔ ((a2 < 0) ∨ (a3 - 1 < a2))) (h1 : ¬ (a1 = 0)) (h2 : (0 ≤ a3) ∧ (a3 ≤ 40)) : a2 < a3 := by simp only [Int32.le_iff_toInt_le, Int32.lt_iff_toInt_lt, ← Int32.toInt_inj, ne_eq] at *; have b0 := Int32.le_toInt a3; have c0 := Int32.toInt_lt a3; have l0 : (0 : Int32).toInt = 0 := (by decide); have l1 : (1 : Int32).toInt = 1 := (by decide); have l2 : (40 : Int32).toInt = 40 := (by decide); have s0 : (a3 - 1).toInt = a3.toInt - 1 := q_tS (by decide) (by omega) (by omega); omega
theorem zz_7be82e6cbe {a1 : Int32} (h0 : a1 = 115) : a1 = 115 := by simp only [Int32.le_iff_toInt_le, Int32.lt_iff_toInt_lt, ← Int32.toInt_inj, ne_eq] at *; have l0 : (115 : Int32).toInt = 115 := (by decide); omega
theorem zz_f1c43a7ab4 {a1 a2 a3 : Int32} (h0 : (2 ≤ a1) → ((a1 ≤ 7) → ((1 ≤ a2) ∧ (a2 ≤ 3)))) (h1 : (a3 = 0) ↔ ((a1 < 0) ∨ (7 < a1))) (h2 : 2 ≤ a1) (h3 : ¬ (a3 = 0)) : 0 ≤ a2 := by simp only [Int32.le_iff_toInt_le, Int32.lt_iff_toInt_lt, ← Int32.toInt_inj, ne_eq] at *; have l0 : (2 : Int32).toInt = 2 := (by decide); have l1 : (7 : Int32).toInt = 7 := (by decide); have l2 : (1 : Int32).toInt = 1 := (by decide); have l3 : (3 : Int32).toInt = 3 := (by decide); have l4 : (0 : Int32).toInt = 0 := (by decide); omega
theorem zz_fa94fb20c0 {a1 a2 a3 : Int32} (h0 : (2 ≤ a1) → ((a1 ≤ 7) → ((1 ≤ a2) ∧ (a2 ≤ 3)))) (h1 : (a3 = 0) ↔ ((a1 < 0) ∨ (7 < a1))) (h2 : 2 ≤ a1) (h3 : ¬ (a3 = 0)) : a2 < 4 := by simp only [Int32.le_iff_toInt_le, Int32.lt_iff_toInt_lt, ← Int32.toInt_inj, ne_eq] at *; have l0 : (2 : Int32).toInt = 2 := (by decide); have l1 : (7 : Int32).toInt = 7 := (by decide); have l2 : (1 : Int32).toInt = 1 := (by decide); have l3 : (3 : Int32).toInt = 3 := (by decide); have l4 : (0 : Int32).toInt = 0 := (by decide); have l5 : (4 : Int32).toInt = 4 := (by decide); omega
set_option maxHeartbeats 4000000 in
theorem p_Mod_match {L : q_L} {W : Nat → Prop} {h0 : z_H} {π : Nat → Nat → Option Nat} {N : Nat} {h : z_H} {v0 : Nat} {v1 : Int32} {v2 : Int32} {v3 : Int32} (T : q_U L W h0 π h) (kv0 : q_M L π v0) (wM : ∀ a, v0 ≤ a → a < v0 + 46 → W a) (LV : vI h v0 8 ≠ 0 → q_LV h v0 (vI h v0 7)) (hN : 100000 ≤ N) : qk (f_Mod_match N v0 v1 v2 v3 h) (fun r => q_U L W h0 π r.2 ∧ (∀ a k, ¬ (a = v0 ∧ (k = 6 ∨ k = 54 ∨ k = 55 ∨ k = 56 ∨ k = 57)) → vI r.2 a k = vI h a k) ∧ (∀ a j, 0 ≤ j → ¬ (a = v0 + 36 ∨ a = v0 + 37 ∨ a = v0 + 38) → vA r.2 a j = vA h a j)) := by
  have d2 : 2 ≤ v3 → v3 ≤ 7 → 1 ≤ v3 / 2 ∧ v3 / 2 ≤ 3 := q_d27
  unfold f_Mod_match
  refine c_Mod_in (v0 := v3) (v1 := 0) (v2 := 7) T ?_
  intro yr1 gr1_0 gr1_1
  dsimp only
  refine qk_if (fun cc1 => ?_) (fun cc1 => ?_)
  · skip
    refine r_Mo_o T kv0 ?_
    refine c_Mod_fail (v0 := v0) (v1 := 1) T kv0 wM ?_
    intro yr42 hr42 Tr42 gr42_0 gr42_1 gr42_2
    dsimp only
    refine qk_some ?_
    exact ⟨Tr42, (by show ∀ a k, ¬ (a = v0 ∧ (k = 6 ∨ k = 54 ∨ k = 55 ∨ k = 56 ∨ k = 57)) → vI hr42 a k = vI h a k; intro a k n0; rw [gr42_1 a k, if_neg (by omega)]), (by show ∀ a j, 0 ≤ j → ¬ (a = v0 + 36 ∨ a = v0 + 37 ∨ a = v0 + 38) → vA hr42 a j = vA h a j; intro a j j0 n0; rw [gr42_2 a j])⟩
  · skip
    refine r_Mo_8 T kv0 ?_
    intro x3 ex3
    subst ex3
    refine qk_if (fun cc2 => ?_) (fun cc2 => ?_)
    · skip
      refine r_Mo_o T kv0 ?_
      refine c_Mod_fail (v0 := v0) (v1 := 3) T kv0 wM ?_
      intro yr40 hr40 Tr40 gr40_0 gr40_1 gr40_2
      dsimp only
      refine qk_some ?_
      exact ⟨Tr40, (by show ∀ a k, ¬ (a = v0 ∧ (k = 6 ∨ k = 54 ∨ k = 55 ∨ k = 56 ∨ k = 57)) → vI hr40 a k = vI h a k; intro a k n0; rw [gr40_1 a k, if_neg (by omega)]), (by show ∀ a j, 0 ≤ j → ¬ (a = v0 + 36 ∨ a = v0 + 37 ∨ a = v0 + 38) → vA hr40 a j = vA h a j; intro a j j0 n0; rw [gr40_2 a j])⟩
    · skip
      refine r_Mo_24 T kv0 ?_
      refine r_Mo_7 T kv0 ?_
      intro x6 ex6 lx6 ux6
      subst ex6
      have o3 := g_Mo_7 T kv0
      refine r_Mo_e19 T kv0 lx6 (zz_e1f2e57bfa o3) ?_
      intro x7 ex7 lx7 ux7
      subst ex7
      refine c_Mod_in (v0 := v1) (v1 := 0) (v2 := ((vA h (v0 + 19) (vI h v0 7)) - 1)) T ?_
      intro yr8 gr8_0 gr8_1
      dsimp only
      refine qk_if (fun cc4 => ?_) (fun cc4 => ?_)
      · skip
        unfold f_Mod_match_62
        refine r_Mo_o T kv0 ?_
        refine c_Mod_fail (v0 := v0) (v1 := 2) T kv0 wM ?_
        intro yr2i5 hr2i5 Tr2i5 gr2i5_0 gr2i5_1 gr2i5_2
        dsimp only
        refine qk_some ?_
        exact ⟨Tr2i5, (by show ∀ a k, ¬ (a = v0 ∧ (k = 6 ∨ k = 54 ∨ k = 55 ∨ k = 56 ∨ k = 57)) → vI hr2i5 a k = vI h a k; intro a k n0; rw [gr2i5_1 a k, if_neg (by omega)]), (by show ∀ a j, 0 ≤ j → ¬ (a = v0 + 36 ∨ a = v0 + 37 ∨ a = v0 + 38) → vA hr2i5 a j = vA h a j; intro a j j0 n0; rw [gr2i5_2 a j])⟩
      · skip
        refine r_Mo_4 T kv0 ?_
        intro x10 ex10 lx10 ux10
        subst ex10
        refine c_Mod_in (v0 := v2) (v1 := 0) (v2 := ((vI h v0 4) - 1)) T ?_
        intro yr11 gr11_0 gr11_1
        dsimp only
        refine qk_if (fun cc6 => ?_) (fun cc6 => ?_)
        · skip
          unfold f_Mod_match_62
          refine r_Mo_o T kv0 ?_
          refine c_Mod_fail (v0 := v0) (v1 := 2) T kv0 wM ?_
          intro yr2i7 hr2i7 Tr2i7 gr2i7_0 gr2i7_1 gr2i7_2
          dsimp only
          refine qk_some ?_
          exact ⟨Tr2i7, (by show ∀ a k, ¬ (a = v0 ∧ (k = 6 ∨ k = 54 ∨ k = 55 ∨ k = 56 ∨ k = 57)) → vI hr2i7 a k = vI h a k; intro a k n0; rw [gr2i7_1 a k, if_neg (by omega)]), (by show ∀ a j, 0 ≤ j → ¬ (a = v0 + 36 ∨ a = v0 + 37 ∨ a = v0 + 38) → vA hr2i7 a j = vA h a j; intro a j j0 n0; rw [gr2i7_2 a j])⟩
        · skip
          refine r_Mo_7 T kv0 ?_
          intro x13 ex13 lx13 ux13
          subst ex13
          refine qk_bs ?_
          refine r_Mo_9 T kv0 ?_
          have o8 := g_Mo_e19 T kv0 (vI h v0 7)
          refine r_Mo_e4 T kv0 (zz_74adaa8047 o3 gr8_1 cc4 o8 gr8_0) (zz_8b2cf0d6c2 o3 gr8_1 o8 cc4 gr8_0) ?_
          intro x16 ex16
          subst ex16
          refine qk_if (fun cc9 => ?_) (fun cc9 => ?_)
          · skip
            refine w_Mo_6 T kv0 (wM _ (by omega) (by omega)) ?_
            intro h18 Th18 ih18 ah18
            refine r_Mo_o Th18 kv0 ?_
            have o10 := g_Mo_4 T kv0
            refine c_Mod_takeLine (v0 := v0) (v1 := v2) Th18 kv0 wM (zz_d53aeae365 gr11_1 cc6 o10) (zz_9b6c00b77a gr11_1 o10 cc6) hN ?_
            intro r20 Tr20 gr20_0 gr20_1
            refine r_Mo_14 Tr20 kv0 ?_
            refine r_Mo_e9 Tr20 kv0 (zz_74adaa8047 o3 gr8_1 cc4 o8 gr8_0) (zz_8b2cf0d6c2 o3 gr8_1 o8 cc4 gr8_0) ?_
            intro x22 ex22 lx22 ux22
            have sx22 : (vA h (v0 + 9) ((40 * (vI h v0 7)) + v1)) = x22 := (ex22.trans (by rw [gr20_1 (v0 + 9) ((40 * (vI h v0 7)) + v1) (zz_74adaa8047 o3 gr8_1 cc4 o8 gr8_0) (by omega), ah18 (v0 + 9) ((40 * (vI h v0 7)) + v1)])).symm
            subst sx22
            refine r_Mo_o Tr20 kv0 ?_
            have o11 := g_Mo_e9 T kv0 ((40 * (vI h v0 7)) + v1)
            refine c_Mod_find (v0 := v0) (v1 := (vA h (v0 + 9) ((40 * (vI h v0 7)) + v1))) (v2 := 0) Tr20 kv0 wM (by exact q_PM_run (((LV (zz_36c4603e00 cc2)) v1 (zz_27a988a28d gr8_1 cc4 o8) (zz_5ece4c0323 gr8_1 cc4 o8)).1.2.2.1 (zz_7be82e6cbe cc9)).1.1 (g_Mo_e9 T kv0 (40 * vI h v0 7 + v1)).1 (fun a j j0 na => by rw [gr20_1 a j j0 (by omega), ah18])) (zz_613598ed50 o11) (zz_5ff11b7469 o11) (by show (0 : Int32) ≤ 0; decide) (by show (0 : Int32) ≤ 61; decide) hN ?_
            intro yr24 hr24 Tr24 gr24_0 gr24_1 gr24_2 gr24_3 gr24_4
            dsimp only
            refine qk_bs ?_
            refine qk_if (fun cc12 => ?_) (fun cc12 => ?_)
            · skip
              refine qk_some ?_
              exact ⟨Tr24, (by show ∀ a k, ¬ (a = v0 ∧ (k = 6 ∨ k = 54 ∨ k = 55 ∨ k = 56 ∨ k = 57)) → vI hr24 a k = vI h a k; intro a k n0; rw [gr24_1 a k (by omega), gr20_0 a k (by omega), ih18, if_neg (by omega)]), (by show ∀ a j, 0 ≤ j → ¬ (a = v0 + 36 ∨ a = v0 + 37 ∨ a = v0 + 38) → vA hr24 a j = vA h a j; intro a j j0 n0; rw [gr24_2 a j j0 (by omega), gr20_1 a j j0 (by omega), ah18])⟩
            · skip
              refine qk_if (fun cc13 => ?_) (fun cc13 => ?_)
              · skip
                refine qk_if (fun cc14 => ?_) (fun cc14 => ?_)
                · skip
                  refine r_Mo_52 Tr24 kv0 ?_
                  refine r_Mo_e37 Tr24 kv0 (zz_f1c43a7ab4 d2 gr1_1 cc13 cc1) (zz_fa94fb20c0 d2 gr1_1 cc13 cc1) ?_
                  intro x32 ex32 lx32 ux32
                  subst ex32
                  refine qk_some ?_
                  exact ⟨Tr24, (by show ∀ a k, ¬ (a = v0 ∧ (k = 6 ∨ k = 54 ∨ k = 55 ∨ k = 56 ∨ k = 57)) → vI hr24 a k = vI h a k; intro a k n0; rw [gr24_1 a k (by omega), gr20_0 a k (by omega), ih18, if_neg (by omega)]), (by show ∀ a j, 0 ≤ j → ¬ (a = v0 + 36 ∨ a = v0 + 37 ∨ a = v0 + 38) → vA hr24 a j = vA h a j; intro a j j0 n0; rw [gr24_2 a j j0 (by omega), gr20_1 a j j0 (by omega), ah18])⟩
                · skip
                  refine r_Mo_53 Tr24 kv0 ?_
                  refine r_Mo_e38 Tr24 kv0 (zz_f1c43a7ab4 d2 gr1_1 cc13 cc1) (zz_fa94fb20c0 d2 gr1_1 cc13 cc1) ?_
                  intro x30 ex30 lx30 ux30
                  subst ex30
                  refine qk_some ?_
                  exact ⟨Tr24, (by show ∀ a k, ¬ (a = v0 ∧ (k = 6 ∨ k = 54 ∨ k = 55 ∨ k = 56 ∨ k = 57)) → vI hr24 a k = vI h a k; intro a k n0; rw [gr24_1 a k (by omega), gr20_0 a k (by omega), ih18, if_neg (by omega)]), (by show ∀ a j, 0 ≤ j → ¬ (a = v0 + 36 ∨ a = v0 + 37 ∨ a = v0 + 38) → vA hr24 a j = vA h a j; intro a j j0 n0; rw [gr24_2 a j j0 (by omega), gr20_1 a j j0 (by omega), ah18])⟩
              · skip
                refine qk_if (fun cc15 => ?_) (fun cc15 => ?_)
                · skip
                  refine r_Mo_56 Tr24 kv0 ?_
                  intro x36 ex36 lx36 ux36
                  subst ex36
                  refine qk_some ?_
                  exact ⟨Tr24, (by show ∀ a k, ¬ (a = v0 ∧ (k = 6 ∨ k = 54 ∨ k = 55 ∨ k = 56 ∨ k = 57)) → vI hr24 a k = vI h a k; intro a k n0; rw [gr24_1 a k (by omega), gr20_0 a k (by omega), ih18, if_neg (by omega)]), (by show ∀ a j, 0 ≤ j → ¬ (a = v0 + 36 ∨ a = v0 + 37 ∨ a = v0 + 38) → vA hr24 a j = vA h a j; intro a j j0 n0; rw [gr24_2 a j j0 (by omega), gr20_1 a j j0 (by omega), ah18])⟩
                · skip
                  refine r_Mo_57 Tr24 kv0 ?_
                  intro x34 ex34 lx34 ux34
                  subst ex34
                  refine r_Mo_56 Tr24 kv0 ?_
                  intro x35 ex35 lx35 ux35
                  subst ex35
                  refine qk_some ?_
                  exact ⟨Tr24, (by show ∀ a k, ¬ (a = v0 ∧ (k = 6 ∨ k = 54 ∨ k = 55 ∨ k = 56 ∨ k = 57)) → vI hr24 a k = vI h a k; intro a k n0; rw [gr24_1 a k (by omega), gr20_0 a k (by omega), ih18, if_neg (by omega)]), (by show ∀ a j, 0 ≤ j → ¬ (a = v0 + 36 ∨ a = v0 + 37 ∨ a = v0 + 38) → vA hr24 a j = vA h a j; intro a j j0 n0; rw [gr24_2 a j j0 (by omega), gr20_1 a j j0 (by omega), ah18])⟩
          · skip
            refine r_Mo_o T kv0 ?_
            refine c_Mod_fail (v0 := v0) (v1 := 1) T kv0 wM ?_
            intro yr38 hr38 Tr38 gr38_0 gr38_1 gr38_2
            dsimp only
            refine qk_some ?_
            exact ⟨Tr38, (by show ∀ a k, ¬ (a = v0 ∧ (k = 6 ∨ k = 54 ∨ k = 55 ∨ k = 56 ∨ k = 57)) → vI hr38 a k = vI h a k; intro a k n0; rw [gr38_1 a k, if_neg (by omega)]), (by show ∀ a j, 0 ≤ j → ¬ (a = v0 + 36 ∨ a = v0 + 37 ∨ a = v0 + 38) → vA hr38 a j = vA h a j; intro a j j0 n0; rw [gr38_2 a j])⟩
theorem c_Mod_match {L : q_L} {W : Nat → Prop} {h0 : z_H} {π : Nat → Nat → Option Nat} {N : Nat} {h : z_H} {v0 : Nat} {v1 : Int32} {v2 : Int32} {v3 : Int32} {β : Type} {f : Int32 × z_H → Option β} {Q : β → Prop} (T : q_U L W h0 π h) (kv0 : q_M L π v0) (wM : ∀ a, v0 ≤ a → a < v0 + 46 → W a) (LV : vI h v0 8 ≠ 0 → q_LV h v0 (vI h v0 7)) (hN : 100000 ≤ N) (H : ∀ y h', q_U L W h0 π h' → (∀ a k, ¬ (a = v0 ∧ (k = 6 ∨ k = 54 ∨ k = 55 ∨ k = 56 ∨ k = 57)) → vI h' a k = vI h a k) → (∀ a j, 0 ≤ j → ¬ (a = v0 + 36 ∨ a = v0 + 37 ∨ a = v0 + 38) → vA h' a j = vA h a j) → qk (f (y, h')) Q) : qk (z_b (f_Mod_match N v0 v1 v2 v3 h) f) Q := by
  refine qk_b (p_Mod_match T kv0 wM LV hN) ?_
  rintro ⟨y, hz⟩ ⟨Tz, g0, g1⟩
  exact H y hz Tz g0 g1
