theorem zz_17e7a238c8 {a1 a2 : Int32} (h0 : 100 ≤ a1) (h1 : (a2 = 0) ↔ ((a1 < 100) ∨ (159 < a1))) (h2 : (a2 = 0) ∨ (a2 = 1)) (h3 : ¬ (a2 = 0)) : 0 ≤ a1 - 100 := by simp only [Int32.le_iff_toInt_le, Int32.lt_iff_toInt_lt, ← Int32.toInt_inj, ne_eq] at *; have b0 := Int32.le_toInt a1; have c0 := Int32.toInt_lt a1; have l0 : (100 : Int32).toInt = 100 := (by decide); have l1 : (0 : Int32).toInt = 0 := (by decide); have l2 : (159 : Int32).toInt = 159 := (by decide); have l3 : (1 : Int32).toInt = 1 := (by decide); have s0 : (a1 - 100).toInt = a1.toInt - 100 := q_tS (by decide) (by omega) (by omega); omega
theorem zz_aaeea00022 {a1 a2 a3 : Int32} (h0 : ¬ (a1 ≤ a2 - 100)) (h1 : (0 ≤ a1) ∧ (a1 ≤ 60)) (h2 : 100 ≤ a2) (h3 : (a3 = 0) ↔ ((a2 < 100) ∨ (159 < a2))) (h4 : (a3 = 0) ∨ (a3 = 1)) (h5 : ¬ (a3 = 0)) : a2 - 100 < 64 := by simp only [Int32.le_iff_toInt_le, Int32.lt_iff_toInt_lt, ← Int32.toInt_inj, ne_eq] at *; have b0 := Int32.le_toInt a2; have c0 := Int32.toInt_lt a2; have l0 : (100 : Int32).toInt = 100 := (by decide); have l1 : (0 : Int32).toInt = 0 := (by decide); have l2 : (60 : Int32).toInt = 60 := (by decide); have l3 : (159 : Int32).toInt = 159 := (by decide); have l4 : (1 : Int32).toInt = 1 := (by decide); have l5 : (64 : Int32).toInt = 64 := (by decide); have s0 : (a2 - 100).toInt = a2.toInt - 100 := q_tS (by decide) (by omega) (by omega); omega
theorem zz_d38d6ead7e {a1 a2 : Int32} (h0 : (a1 = 0) ↔ ((a2 < 100) ∨ (159 < a2))) (h1 : ¬ (a1 = 0)) (h2 : 5 ≤ a2) (h3 : ¬ (100 ≤ a2)) : 0 ≤ a2 - 10 := by simp only [Int32.le_iff_toInt_le, Int32.lt_iff_toInt_lt, ← Int32.toInt_inj, ne_eq] at *; have b0 := Int32.le_toInt a2; have c0 := Int32.toInt_lt a2; have l0 : (0 : Int32).toInt = 0 := (by decide); have l1 : (100 : Int32).toInt = 100 := (by decide); have l2 : (159 : Int32).toInt = 159 := (by decide); have l3 : (5 : Int32).toInt = 5 := (by decide); have l4 : (10 : Int32).toInt = 10 := (by decide); have s0 : (a2 - 10).toInt = a2.toInt - 10 := q_tS (by decide) (by omega) (by omega); omega
theorem zz_f07cd98d7b {a1 a2 : Int32} (h0 : ¬ (a1 ≤ a2 - 10)) (h1 : (0 ≤ a1) ∧ (a1 ≤ 60)) (h2 : 5 ≤ a2) (h3 : ¬ (100 ≤ a2)) : a2 - 10 < 64 := by simp only [Int32.le_iff_toInt_le, Int32.lt_iff_toInt_lt, ← Int32.toInt_inj, ne_eq] at *; have b0 := Int32.le_toInt a2; have c0 := Int32.toInt_lt a2; have l0 : (10 : Int32).toInt = 10 := (by decide); have l1 : (0 : Int32).toInt = 0 := (by decide); have l2 : (60 : Int32).toInt = 60 := (by decide); have l3 : (5 : Int32).toInt = 5 := (by decide); have l4 : (100 : Int32).toInt = 100 := (by decide); have l5 : (64 : Int32).toInt = 64 := (by decide); have s0 : (a2 - 10).toInt = a2.toInt - 10 := q_tS (by decide) (by omega) (by omega); omega
theorem zz_cc9d8dc18f {a1 a2 : Int32} (h0 : 100 ≤ a1) (h1 : (a2 = 0) ↔ ((a1 < 10) ∨ (69 < a1))) (h2 : (a2 = 0) ∨ (a2 = 1)) (h3 : ¬ (a2 = 0)) : 0 ≤ a1 - 100 := by simp only [Int32.le_iff_toInt_le, Int32.lt_iff_toInt_lt, ← Int32.toInt_inj, ne_eq] at *; have b0 := Int32.le_toInt a1; have c0 := Int32.toInt_lt a1; have l0 : (100 : Int32).toInt = 100 := (by decide); have l1 : (0 : Int32).toInt = 0 := (by decide); have l2 : (10 : Int32).toInt = 10 := (by decide); have l3 : (69 : Int32).toInt = 69 := (by decide); have l4 : (1 : Int32).toInt = 1 := (by decide); have s0 : (a1 - 100).toInt = a1.toInt - 100 := q_tS (by decide) (by omega) (by omega); omega
theorem zz_19964a6a3a {a1 a2 a3 : Int32} (h0 : ¬ (a1 ≤ a2 - 100)) (h1 : (0 ≤ a1) ∧ (a1 ≤ 60)) (h2 : 100 ≤ a2) (h3 : (a3 = 0) ↔ ((a2 < 10) ∨ (69 < a2))) (h4 : (a3 = 0) ∨ (a3 = 1)) (h5 : ¬ (a3 = 0)) : a2 - 100 < 64 := by simp only [Int32.le_iff_toInt_le, Int32.lt_iff_toInt_lt, ← Int32.toInt_inj, ne_eq] at *; have b0 := Int32.le_toInt a2; have c0 := Int32.toInt_lt a2; have l0 : (100 : Int32).toInt = 100 := (by decide); have l1 : (0 : Int32).toInt = 0 := (by decide); have l2 : (60 : Int32).toInt = 60 := (by decide); have l3 : (10 : Int32).toInt = 10 := (by decide); have l4 : (69 : Int32).toInt = 69 := (by decide); have l5 : (1 : Int32).toInt = 1 := (by decide); have l6 : (64 : Int32).toInt = 64 := (by decide); have s0 : (a2 - 100).toInt = a2.toInt - 100 := q_tS (by decide) (by omega) (by omega); omega
theorem zz_8ac993b640 {a1 a2 : Int32} (h0 : (a1 = 0) ↔ ((a2 < 10) ∨ (69 < a2))) (h1 : ¬ (a1 = 0)) (h2 : 5 ≤ a2) (h3 : ¬ (100 ≤ a2)) : 0 ≤ a2 - 10 := by simp only [Int32.le_iff_toInt_le, Int32.lt_iff_toInt_lt, ← Int32.toInt_inj, ne_eq] at *; have b0 := Int32.le_toInt a2; have c0 := Int32.toInt_lt a2; have l0 : (0 : Int32).toInt = 0 := (by decide); have l1 : (10 : Int32).toInt = 10 := (by decide); have l2 : (69 : Int32).toInt = 69 := (by decide); have l3 : (5 : Int32).toInt = 5 := (by decide); have l4 : (100 : Int32).toInt = 100 := (by decide); have s0 : (a2 - 10).toInt = a2.toInt - 10 := q_tS (by decide) (by omega) (by omega); omega
theorem zz_62ce69f85e {a1 a2 : Int32} (h0 : 100 ≤ a1) (h1 : (a2 = 0) ↔ ((a1 < 0) ∨ (4 < a1))) (h2 : (a2 = 0) ∨ (a2 = 1)) (h3 : ¬ (a2 = 0)) : 0 ≤ a1 - 100 := by simp only [Int32.le_iff_toInt_le, Int32.lt_iff_toInt_lt, ← Int32.toInt_inj, ne_eq] at *; have b0 := Int32.le_toInt a1; have c0 := Int32.toInt_lt a1; have l0 : (100 : Int32).toInt = 100 := (by decide); have l1 : (0 : Int32).toInt = 0 := (by decide); have l2 : (4 : Int32).toInt = 4 := (by decide); have l3 : (1 : Int32).toInt = 1 := (by decide); have s0 : (a1 - 100).toInt = a1.toInt - 100 := q_tS (by decide) (by omega) (by omega); omega
theorem zz_d939ffa2f5 {a1 a2 a3 : Int32} (h0 : ¬ (a1 ≤ a2 - 100)) (h1 : (0 ≤ a1) ∧ (a1 ≤ 60)) (h2 : 100 ≤ a2) (h3 : (a3 = 0) ↔ ((a2 < 0) ∨ (4 < a2))) (h4 : (a3 = 0) ∨ (a3 = 1)) (h5 : ¬ (a3 = 0)) : a2 - 100 < 64 := by simp only [Int32.le_iff_toInt_le, Int32.lt_iff_toInt_lt, ← Int32.toInt_inj, ne_eq] at *; have b0 := Int32.le_toInt a2; have c0 := Int32.toInt_lt a2; have l0 : (100 : Int32).toInt = 100 := (by decide); have l1 : (0 : Int32).toInt = 0 := (by decide); have l2 : (60 : Int32).toInt = 60 := (by decide); have l3 : (4 : Int32).toInt = 4 := (by decide); have l4 : (1 : Int32).toInt = 1 := (by decide); have l5 : (64 : Int32).toInt = 64 := (by decide); have s0 : (a2 - 100).toInt = a2.toInt - 100 := q_tS (by decide) (by omega) (by omega); omega
theorem zz_b125c99c37 {a1 a2 : Int32} (h0 : (a1 = 0) ↔ ((a2 < 0) ∨ (4 < a2))) (h1 : 5 ≤ a2) (h2 : ¬ (a1 = 0)) (h3 : ¬ (100 ≤ a2)) : 0 ≤ a2 - 10 := by simp only [Int32.le_iff_toInt_le, Int32.lt_iff_toInt_lt, ← Int32.toInt_inj, ne_eq] at *; have b0 := Int32.le_toInt a2; have c0 := Int32.toInt_lt a2; have l0 : (0 : Int32).toInt = 0 := (by decide); have l1 : (4 : Int32).toInt = 4 := (by decide); have l2 : (5 : Int32).toInt = 5 := (by decide); have l3 : (100 : Int32).toInt = 100 := (by decide); have l4 : (10 : Int32).toInt = 10 := (by decide); have s0 : (a2 - 10).toInt = a2.toInt - 10 := q_tS (by decide) (by omega) (by omega); omega
set_option maxHeartbeats 1000000 in
theorem p_Mod_ran {L : q_L} {W : Nat → Prop} {h0 : z_H} {π : Nat → Nat → Option Nat} {N : Nat} {h : z_H} {v0 : Nat} {v1 : Int32} (T : q_U L W h0 π h) (kv0 : q_M L π v0) (wM : ∀ a, v0 ≤ a → a < v0 + 46 → W a) : qk (f_Mod_ran N v0 v1 h) (fun r => q_U L W h0 π r.2 ∧ (∀ a k, ¬ (a = v0 ∧ (k = 6)) → vI r.2 a k = vI h a k) ∧ (∀ a j, vA r.2 a j = vA h a j)) := by
  unfold f_Mod_ran
  refine c_Mod_in (v0 := v1) (v1 := 0) (v2 := 4) T ?_
  intro yr1 gr1_0 gr1_1
  dsimp only
  refine qk_if (fun cc1 => ?_) (fun cc1 => ?_)
  · skip
    refine c_Mod_in (v0 := v1) (v1 := 10) (v2 := 69) T ?_
    intro yr3 gr3_0 gr3_1
    dsimp only
    refine qk_if (fun cc2 => ?_) (fun cc2 => ?_)
    · skip
      refine c_Mod_in (v0 := v1) (v1 := 100) (v2 := 159) T ?_
      intro yr5 gr5_0 gr5_1
      dsimp only
      refine qk_if (fun cc3 => ?_) (fun cc3 => ?_)
      · skip
        refine r_Mo_o T kv0 ?_
        refine c_Mod_fail (v0 := v0) (v1 := 1) T kv0 wM ?_
        intro yr8 hr8 Tr8 gr8_0 gr8_1 gr8_2
        dsimp only
        refine qk_some ?_
        exact ⟨Tr8, (by show ∀ a k, ¬ (a = v0 ∧ (k = 6)) → vI hr8 a k = vI h a k; intro a k n0; rw [gr8_1 a k, if_neg (by omega)]), (by show ∀ a j, vA hr8 a j = vA h a j; intro a j ; rw [gr8_2 a j])⟩
      · skip
        unfold f_Mod_ran_38
        refine w_Mo_6 T kv0 (wM _ (by omega) (by omega)) ?_
        intro h1i4 Th1i4 ih1i4 ah1i4
        refine qk_if (fun cc5 => ?_) (fun cc5 => ?_)
        · skip
          refine qk_if (fun cc6 => ?_) (fun cc6 => ?_)
          · skip
            refine r_Mo_66 Th1i4 kv0 ?_
            intro x4i4 ex4i4 lx4i4 ux4i4
            have sx4i4 : (vI h v0 66) = x4i4 := (ex4i4.trans (by rw [ih1i4 v0 66, if_neg (fun z => absurd z.2 (by decide))])).symm
            subst sx4i4
            refine qk_if (fun cc7 => ?_) (fun cc7 => ?_)
            · skip
              refine qk_some ?_
              exact ⟨Th1i4, (by show ∀ a k, ¬ (a = v0 ∧ (k = 6)) → vI h1i4 a k = vI h a k; intro a k n0; rw [ih1i4, if_neg (by omega)]), (by show ∀ a j, vA h1i4 a j = vA h a j; intro a j ; rw [ah1i4])⟩
            · skip
              refine r_Mo_59 Th1i4 kv0 ?_
              have o8 := g_Mo_66 T kv0
              refine r_Mo_e40 Th1i4 kv0 (zz_17e7a238c8 cc6 gr5_1 gr5_0 cc3) (zz_aaeea00022 cc7 o8 cc6 gr5_1 gr5_0 cc3) ?_
              intro x7i4 ex7i4
              have sx7i4 : (vA h (v0 + 40) (v1 - 100)) = x7i4 := (ex7i4.trans (by rw [ah1i4 (v0 + 40) (v1 - 100)])).symm
              subst sx7i4
              refine qk_some ?_
              exact ⟨Th1i4, (by show ∀ a k, ¬ (a = v0 ∧ (k = 6)) → vI h1i4 a k = vI h a k; intro a k n0; rw [ih1i4, if_neg (by omega)]), (by show ∀ a j, vA h1i4 a j = vA h a j; intro a j ; rw [ah1i4])⟩
          · skip
            refine r_Mo_65 Th1i4 kv0 ?_
            intro x8i4 ex8i4 lx8i4 ux8i4
            have sx8i4 : (vI h v0 65) = x8i4 := (ex8i4.trans (by rw [ih1i4 v0 65, if_neg (fun z => absurd z.2 (by decide))])).symm
            subst sx8i4
            refine qk_if (fun cc9 => ?_) (fun cc9 => ?_)
            · skip
              refine qk_some ?_
              exact ⟨Th1i4, (by show ∀ a k, ¬ (a = v0 ∧ (k = 6)) → vI h1i4 a k = vI h a k; intro a k n0; rw [ih1i4, if_neg (by omega)]), (by show ∀ a j, vA h1i4 a j = vA h a j; intro a j ; rw [ah1i4])⟩
            · skip
              refine r_Mo_58 Th1i4 kv0 ?_
              have o10 := g_Mo_65 T kv0
              refine r_Mo_e39 Th1i4 kv0 (zz_d38d6ead7e gr5_1 cc3 cc5 cc6) (zz_f07cd98d7b cc9 o10 cc5 cc6) ?_
              intro x11i4 ex11i4
              have sx11i4 : (vA h (v0 + 39) (v1 - 10)) = x11i4 := (ex11i4.trans (by rw [ah1i4 (v0 + 39) (v1 - 10)])).symm
              subst sx11i4
              refine qk_some ?_
              exact ⟨Th1i4, (by show ∀ a k, ¬ (a = v0 ∧ (k = 6)) → vI h1i4 a k = vI h a k; intro a k n0; rw [ih1i4, if_neg (by omega)]), (by show ∀ a j, vA h1i4 a j = vA h a j; intro a j ; rw [ah1i4])⟩
        · skip
          refine qk_if (fun cc11 => ?_) (fun cc11 => ?_)
          · skip
            refine r_Mo_69 Th1i4 kv0 ?_
            intro x20i4 ex20i4 lx20i4 ux20i4
            have sx20i4 : (vI h v0 69) = x20i4 := (ex20i4.trans (by rw [ih1i4 v0 69, if_neg (fun z => absurd z.2 (by decide))])).symm
            subst sx20i4
            refine qk_some ?_
            exact ⟨Th1i4, (by show ∀ a k, ¬ (a = v0 ∧ (k = 6)) → vI h1i4 a k = vI h a k; intro a k n0; rw [ih1i4, if_neg (by omega)]), (by show ∀ a j, vA h1i4 a j = vA h a j; intro a j ; rw [ah1i4])⟩
          · skip
            refine qk_if (fun cc12 => ?_) (fun cc12 => ?_)
            · skip
              refine r_Mo_70 Th1i4 kv0 ?_
              intro x19i4 ex19i4 lx19i4 ux19i4
              have sx19i4 : (vI h v0 70) = x19i4 := (ex19i4.trans (by rw [ih1i4 v0 70, if_neg (fun z => absurd z.2 (by decide))])).symm
              subst sx19i4
              refine qk_some ?_
              exact ⟨Th1i4, (by show ∀ a k, ¬ (a = v0 ∧ (k = 6)) → vI h1i4 a k = vI h a k; intro a k n0; rw [ih1i4, if_neg (by omega)]), (by show ∀ a j, vA h1i4 a j = vA h a j; intro a j ; rw [ah1i4])⟩
            · skip
              refine qk_if (fun cc13 => ?_) (fun cc13 => ?_)
              · skip
                refine r_Mo_71 Th1i4 kv0 ?_
                intro x18i4 ex18i4 lx18i4 ux18i4
                have sx18i4 : (vI h v0 71) = x18i4 := (ex18i4.trans (by rw [ih1i4 v0 71, if_neg (fun z => absurd z.2 (by decide))])).symm
                subst sx18i4
                refine qk_some ?_
                exact ⟨Th1i4, (by show ∀ a k, ¬ (a = v0 ∧ (k = 6)) → vI h1i4 a k = vI h a k; intro a k n0; rw [ih1i4, if_neg (by omega)]), (by show ∀ a j, vA h1i4 a j = vA h a j; intro a j ; rw [ah1i4])⟩
              · skip
                refine qk_if (fun cc14 => ?_) (fun cc14 => ?_)
                · skip
                  refine r_Mo_72 Th1i4 kv0 ?_
                  intro x17i4 ex17i4
                  have sx17i4 : (vI h v0 72) = x17i4 := (ex17i4.trans (by rw [ih1i4 v0 72, if_neg (fun z => absurd z.2 (by decide))])).symm
                  subst sx17i4
                  refine qk_some ?_
                  exact ⟨Th1i4, (by show ∀ a k, ¬ (a = v0 ∧ (k = 6)) → vI h1i4 a k = vI h a k; intro a k n0; rw [ih1i4, if_neg (by omega)]), (by show ∀ a j, vA h1i4 a j = vA h a j; intro a j ; rw [ah1i4])⟩
                · skip
                  refine r_Mo_73 Th1i4 kv0 ?_
                  intro x16i4 ex16i4
                  have sx16i4 : (vI h v0 73) = x16i4 := (ex16i4.trans (by rw [ih1i4 v0 73, if_neg (fun z => absurd z.2 (by decide))])).symm
                  subst sx16i4
                  refine qk_some ?_
                  exact ⟨Th1i4, (by show ∀ a k, ¬ (a = v0 ∧ (k = 6)) → vI h1i4 a k = vI h a k; intro a k n0; rw [ih1i4, if_neg (by omega)]), (by show ∀ a j, vA h1i4 a j = vA h a j; intro a j ; rw [ah1i4])⟩
    · skip
      unfold f_Mod_ran_38
      refine w_Mo_6 T kv0 (wM _ (by omega) (by omega)) ?_
      intro h1i15 Th1i15 ih1i15 ah1i15
      refine qk_if (fun cc16 => ?_) (fun cc16 => ?_)
      · skip
        refine qk_if (fun cc17 => ?_) (fun cc17 => ?_)
        · skip
          refine r_Mo_66 Th1i15 kv0 ?_
          intro x4i15 ex4i15 lx4i15 ux4i15
          have sx4i15 : (vI h v0 66) = x4i15 := (ex4i15.trans (by rw [ih1i15 v0 66, if_neg (fun z => absurd z.2 (by decide))])).symm
          subst sx4i15
          refine qk_if (fun cc18 => ?_) (fun cc18 => ?_)
          · skip
            refine qk_some ?_
            exact ⟨Th1i15, (by show ∀ a k, ¬ (a = v0 ∧ (k = 6)) → vI h1i15 a k = vI h a k; intro a k n0; rw [ih1i15, if_neg (by omega)]), (by show ∀ a j, vA h1i15 a j = vA h a j; intro a j ; rw [ah1i15])⟩
          · skip
            refine r_Mo_59 Th1i15 kv0 ?_
            have o19 := g_Mo_66 T kv0
            refine r_Mo_e40 Th1i15 kv0 (zz_cc9d8dc18f cc17 gr3_1 gr3_0 cc2) (zz_19964a6a3a cc18 o19 cc17 gr3_1 gr3_0 cc2) ?_
            intro x7i15 ex7i15
            have sx7i15 : (vA h (v0 + 40) (v1 - 100)) = x7i15 := (ex7i15.trans (by rw [ah1i15 (v0 + 40) (v1 - 100)])).symm
            subst sx7i15
            refine qk_some ?_
            exact ⟨Th1i15, (by show ∀ a k, ¬ (a = v0 ∧ (k = 6)) → vI h1i15 a k = vI h a k; intro a k n0; rw [ih1i15, if_neg (by omega)]), (by show ∀ a j, vA h1i15 a j = vA h a j; intro a j ; rw [ah1i15])⟩
        · skip
          refine r_Mo_65 Th1i15 kv0 ?_
          intro x8i15 ex8i15 lx8i15 ux8i15
          have sx8i15 : (vI h v0 65) = x8i15 := (ex8i15.trans (by rw [ih1i15 v0 65, if_neg (fun z => absurd z.2 (by decide))])).symm
          subst sx8i15
          refine qk_if (fun cc20 => ?_) (fun cc20 => ?_)
          · skip
            refine qk_some ?_
            exact ⟨Th1i15, (by show ∀ a k, ¬ (a = v0 ∧ (k = 6)) → vI h1i15 a k = vI h a k; intro a k n0; rw [ih1i15, if_neg (by omega)]), (by show ∀ a j, vA h1i15 a j = vA h a j; intro a j ; rw [ah1i15])⟩
          · skip
            refine r_Mo_58 Th1i15 kv0 ?_
            have o21 := g_Mo_65 T kv0
            refine r_Mo_e39 Th1i15 kv0 (zz_8ac993b640 gr3_1 cc2 cc16 cc17) (zz_f07cd98d7b cc20 o21 cc16 cc17) ?_
            intro x11i15 ex11i15
            have sx11i15 : (vA h (v0 + 39) (v1 - 10)) = x11i15 := (ex11i15.trans (by rw [ah1i15 (v0 + 39) (v1 - 10)])).symm
            subst sx11i15
            refine qk_some ?_
            exact ⟨Th1i15, (by show ∀ a k, ¬ (a = v0 ∧ (k = 6)) → vI h1i15 a k = vI h a k; intro a k n0; rw [ih1i15, if_neg (by omega)]), (by show ∀ a j, vA h1i15 a j = vA h a j; intro a j ; rw [ah1i15])⟩
      · skip
        refine qk_if (fun cc22 => ?_) (fun cc22 => ?_)
        · skip
          refine r_Mo_69 Th1i15 kv0 ?_
          intro x20i15 ex20i15 lx20i15 ux20i15
          have sx20i15 : (vI h v0 69) = x20i15 := (ex20i15.trans (by rw [ih1i15 v0 69, if_neg (fun z => absurd z.2 (by decide))])).symm
          subst sx20i15
          refine qk_some ?_
          exact ⟨Th1i15, (by show ∀ a k, ¬ (a = v0 ∧ (k = 6)) → vI h1i15 a k = vI h a k; intro a k n0; rw [ih1i15, if_neg (by omega)]), (by show ∀ a j, vA h1i15 a j = vA h a j; intro a j ; rw [ah1i15])⟩
        · skip
          refine qk_if (fun cc23 => ?_) (fun cc23 => ?_)
          · skip
            refine r_Mo_70 Th1i15 kv0 ?_
            intro x19i15 ex19i15 lx19i15 ux19i15
            have sx19i15 : (vI h v0 70) = x19i15 := (ex19i15.trans (by rw [ih1i15 v0 70, if_neg (fun z => absurd z.2 (by decide))])).symm
            subst sx19i15
            refine qk_some ?_
            exact ⟨Th1i15, (by show ∀ a k, ¬ (a = v0 ∧ (k = 6)) → vI h1i15 a k = vI h a k; intro a k n0; rw [ih1i15, if_neg (by omega)]), (by show ∀ a j, vA h1i15 a j = vA h a j; intro a j ; rw [ah1i15])⟩
          · skip
            refine qk_if (fun cc24 => ?_) (fun cc24 => ?_)
            · skip
              refine r_Mo_71 Th1i15 kv0 ?_
              intro x18i15 ex18i15 lx18i15 ux18i15
              have sx18i15 : (vI h v0 71) = x18i15 := (ex18i15.trans (by rw [ih1i15 v0 71, if_neg (fun z => absurd z.2 (by decide))])).symm
              subst sx18i15
              refine qk_some ?_
              exact ⟨Th1i15, (by show ∀ a k, ¬ (a = v0 ∧ (k = 6)) → vI h1i15 a k = vI h a k; intro a k n0; rw [ih1i15, if_neg (by omega)]), (by show ∀ a j, vA h1i15 a j = vA h a j; intro a j ; rw [ah1i15])⟩
            · skip
              refine qk_if (fun cc25 => ?_) (fun cc25 => ?_)
              · skip
                refine r_Mo_72 Th1i15 kv0 ?_
                intro x17i15 ex17i15
                have sx17i15 : (vI h v0 72) = x17i15 := (ex17i15.trans (by rw [ih1i15 v0 72, if_neg (fun z => absurd z.2 (by decide))])).symm
                subst sx17i15
                refine qk_some ?_
                exact ⟨Th1i15, (by show ∀ a k, ¬ (a = v0 ∧ (k = 6)) → vI h1i15 a k = vI h a k; intro a k n0; rw [ih1i15, if_neg (by omega)]), (by show ∀ a j, vA h1i15 a j = vA h a j; intro a j ; rw [ah1i15])⟩
              · skip
                refine r_Mo_73 Th1i15 kv0 ?_
                intro x16i15 ex16i15
                have sx16i15 : (vI h v0 73) = x16i15 := (ex16i15.trans (by rw [ih1i15 v0 73, if_neg (fun z => absurd z.2 (by decide))])).symm
                subst sx16i15
                refine qk_some ?_
                exact ⟨Th1i15, (by show ∀ a k, ¬ (a = v0 ∧ (k = 6)) → vI h1i15 a k = vI h a k; intro a k n0; rw [ih1i15, if_neg (by omega)]), (by show ∀ a j, vA h1i15 a j = vA h a j; intro a j ; rw [ah1i15])⟩
  · skip
    unfold f_Mod_ran_38
    refine w_Mo_6 T kv0 (wM _ (by omega) (by omega)) ?_
    intro h1i26 Th1i26 ih1i26 ah1i26
    refine qk_if (fun cc27 => ?_) (fun cc27 => ?_)
    · skip
      refine qk_if (fun cc28 => ?_) (fun cc28 => ?_)
      · skip
        refine r_Mo_66 Th1i26 kv0 ?_
        intro x4i26 ex4i26 lx4i26 ux4i26
        have sx4i26 : (vI h v0 66) = x4i26 := (ex4i26.trans (by rw [ih1i26 v0 66, if_neg (fun z => absurd z.2 (by decide))])).symm
        subst sx4i26
        refine qk_if (fun cc29 => ?_) (fun cc29 => ?_)
        · skip
          refine qk_some ?_
          exact ⟨Th1i26, (by show ∀ a k, ¬ (a = v0 ∧ (k = 6)) → vI h1i26 a k = vI h a k; intro a k n0; rw [ih1i26, if_neg (by omega)]), (by show ∀ a j, vA h1i26 a j = vA h a j; intro a j ; rw [ah1i26])⟩
        · skip
          refine r_Mo_59 Th1i26 kv0 ?_
          have o30 := g_Mo_66 T kv0
          refine r_Mo_e40 Th1i26 kv0 (zz_62ce69f85e cc28 gr1_1 gr1_0 cc1) (zz_d939ffa2f5 cc29 o30 cc28 gr1_1 gr1_0 cc1) ?_
          intro x7i26 ex7i26
          have sx7i26 : (vA h (v0 + 40) (v1 - 100)) = x7i26 := (ex7i26.trans (by rw [ah1i26 (v0 + 40) (v1 - 100)])).symm
          subst sx7i26
          refine qk_some ?_
          exact ⟨Th1i26, (by show ∀ a k, ¬ (a = v0 ∧ (k = 6)) → vI h1i26 a k = vI h a k; intro a k n0; rw [ih1i26, if_neg (by omega)]), (by show ∀ a j, vA h1i26 a j = vA h a j; intro a j ; rw [ah1i26])⟩
      · skip
        refine r_Mo_65 Th1i26 kv0 ?_
        intro x8i26 ex8i26 lx8i26 ux8i26
        have sx8i26 : (vI h v0 65) = x8i26 := (ex8i26.trans (by rw [ih1i26 v0 65, if_neg (fun z => absurd z.2 (by decide))])).symm
        subst sx8i26
        refine qk_if (fun cc31 => ?_) (fun cc31 => ?_)
        · skip
          refine qk_some ?_
          exact ⟨Th1i26, (by show ∀ a k, ¬ (a = v0 ∧ (k = 6)) → vI h1i26 a k = vI h a k; intro a k n0; rw [ih1i26, if_neg (by omega)]), (by show ∀ a j, vA h1i26 a j = vA h a j; intro a j ; rw [ah1i26])⟩
        · skip
          refine r_Mo_58 Th1i26 kv0 ?_
          have o32 := g_Mo_65 T kv0
          refine r_Mo_e39 Th1i26 kv0 (zz_b125c99c37 gr1_1 cc27 cc1 cc28) (zz_f07cd98d7b cc31 o32 cc27 cc28) ?_
          intro x11i26 ex11i26
          have sx11i26 : (vA h (v0 + 39) (v1 - 10)) = x11i26 := (ex11i26.trans (by rw [ah1i26 (v0 + 39) (v1 - 10)])).symm
          subst sx11i26
          refine qk_some ?_
          exact ⟨Th1i26, (by show ∀ a k, ¬ (a = v0 ∧ (k = 6)) → vI h1i26 a k = vI h a k; intro a k n0; rw [ih1i26, if_neg (by omega)]), (by show ∀ a j, vA h1i26 a j = vA h a j; intro a j ; rw [ah1i26])⟩
    · skip
      refine qk_if (fun cc33 => ?_) (fun cc33 => ?_)
      · skip
        refine r_Mo_69 Th1i26 kv0 ?_
        intro x20i26 ex20i26 lx20i26 ux20i26
        have sx20i26 : (vI h v0 69) = x20i26 := (ex20i26.trans (by rw [ih1i26 v0 69, if_neg (fun z => absurd z.2 (by decide))])).symm
        subst sx20i26
        refine qk_some ?_
        exact ⟨Th1i26, (by show ∀ a k, ¬ (a = v0 ∧ (k = 6)) → vI h1i26 a k = vI h a k; intro a k n0; rw [ih1i26, if_neg (by omega)]), (by show ∀ a j, vA h1i26 a j = vA h a j; intro a j ; rw [ah1i26])⟩
      · skip
        refine qk_if (fun cc34 => ?_) (fun cc34 => ?_)
        · skip
          refine r_Mo_70 Th1i26 kv0 ?_
          intro x19i26 ex19i26 lx19i26 ux19i26
          have sx19i26 : (vI h v0 70) = x19i26 := (ex19i26.trans (by rw [ih1i26 v0 70, if_neg (fun z => absurd z.2 (by decide))])).symm
          subst sx19i26
          refine qk_some ?_
          exact ⟨Th1i26, (by show ∀ a k, ¬ (a = v0 ∧ (k = 6)) → vI h1i26 a k = vI h a k; intro a k n0; rw [ih1i26, if_neg (by omega)]), (by show ∀ a j, vA h1i26 a j = vA h a j; intro a j ; rw [ah1i26])⟩
        · skip
          refine qk_if (fun cc35 => ?_) (fun cc35 => ?_)
          · skip
            refine r_Mo_71 Th1i26 kv0 ?_
            intro x18i26 ex18i26 lx18i26 ux18i26
            have sx18i26 : (vI h v0 71) = x18i26 := (ex18i26.trans (by rw [ih1i26 v0 71, if_neg (fun z => absurd z.2 (by decide))])).symm
            subst sx18i26
            refine qk_some ?_
            exact ⟨Th1i26, (by show ∀ a k, ¬ (a = v0 ∧ (k = 6)) → vI h1i26 a k = vI h a k; intro a k n0; rw [ih1i26, if_neg (by omega)]), (by show ∀ a j, vA h1i26 a j = vA h a j; intro a j ; rw [ah1i26])⟩
          · skip
            refine qk_if (fun cc36 => ?_) (fun cc36 => ?_)
            · skip
              refine r_Mo_72 Th1i26 kv0 ?_
              intro x17i26 ex17i26
              have sx17i26 : (vI h v0 72) = x17i26 := (ex17i26.trans (by rw [ih1i26 v0 72, if_neg (fun z => absurd z.2 (by decide))])).symm
              subst sx17i26
              refine qk_some ?_
              exact ⟨Th1i26, (by show ∀ a k, ¬ (a = v0 ∧ (k = 6)) → vI h1i26 a k = vI h a k; intro a k n0; rw [ih1i26, if_neg (by omega)]), (by show ∀ a j, vA h1i26 a j = vA h a j; intro a j ; rw [ah1i26])⟩
            · skip
              refine r_Mo_73 Th1i26 kv0 ?_
              intro x16i26 ex16i26
              have sx16i26 : (vI h v0 73) = x16i26 := (ex16i26.trans (by rw [ih1i26 v0 73, if_neg (fun z => absurd z.2 (by decide))])).symm
              subst sx16i26
              refine qk_some ?_
              exact ⟨Th1i26, (by show ∀ a k, ¬ (a = v0 ∧ (k = 6)) → vI h1i26 a k = vI h a k; intro a k n0; rw [ih1i26, if_neg (by omega)]), (by show ∀ a j, vA h1i26 a j = vA h a j; intro a j ; rw [ah1i26])⟩
theorem c_Mod_ran {L : q_L} {W : Nat → Prop} {h0 : z_H} {π : Nat → Nat → Option Nat} {N : Nat} {h : z_H} {v0 : Nat} {v1 : Int32} {β : Type} {f : Int32 × z_H → Option β} {Q : β → Prop} (T : q_U L W h0 π h) (kv0 : q_M L π v0) (wM : ∀ a, v0 ≤ a → a < v0 + 46 → W a) (H : ∀ y h', q_U L W h0 π h' → (∀ a k, ¬ (a = v0 ∧ (k = 6)) → vI h' a k = vI h a k) → (∀ a j, vA h' a j = vA h a j) → qk (f (y, h')) Q) : qk (z_b (f_Mod_ran N v0 v1 h) f) Q := by
  refine qk_b (p_Mod_ran T kv0 wM) ?_
  rintro ⟨y, hz⟩ ⟨Tz, g0, g1⟩
  exact H y hz Tz g0 g1
