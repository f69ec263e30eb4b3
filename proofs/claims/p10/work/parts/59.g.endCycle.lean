theorem zz_986c895afd {a1 a2 a3 a4 : Int32} (h0 : (a1 = 0) → (a2 = 1)) (h1 : a1 = 0) (h2 : (0 ≤ a3) ∧ (a3 ≤ 12)) : (a2 ≠ 0) ∨ (a4 = a3 + 1) := by simp only [Int32.le_iff_toInt_le, Int32.lt_iff_toInt_lt, ← Int32.toInt_inj, ne_eq] at *; have b0 := Int32.le_toInt a3; have c0 := Int32.toInt_lt a3; have l0 : (0 : Int32).toInt = 0 := (by decide); have l1 : (1 : Int32).toInt = 1 := (by decide); have l2 : (12 : Int32).toInt = 12 := (by decide); have s0 : (a3 + 1).toInt = a3.toInt + 1 := q_tA (by decide) (by omega) (by omega); omega
theorem zz_f8cc4ad1dc {a1 a2 a3 : Int32} (h0 : a1 = a2) (h1 : a2 ≤ a3) : (a2 ≤ a1) ∧ (a1 ≤ a3) := by simp only [Int32.le_iff_toInt_le, Int32.lt_iff_toInt_lt, ← Int32.toInt_inj, ne_eq] at *; omega
theorem zz_6c2adcefc5 {a1 a2 a3 : Int32} (h0 : a1 = 1) (h1 : (0 ≤ a2) ∧ (a2 ≤ 12)) : (a1 ≠ 0) ∨ (a3 = a2 + 1) := by simp only [Int32.le_iff_toInt_le, Int32.lt_iff_toInt_lt, ← Int32.toInt_inj, ne_eq] at *; have b0 := Int32.le_toInt a2; have c0 := Int32.toInt_lt a2; have l0 : (1 : Int32).toInt = 1 := (by decide); have l1 : (0 : Int32).toInt = 0 := (by decide); have l2 : (12 : Int32).toInt = 12 := (by decide); have s0 : (a2 + 1).toInt = a2.toInt + 1 := q_tA (by decide) (by omega) (by omega); omega
theorem zz_014f81ee32 {a1 a2 a3 : Int32} (h0 : a1 = a2) (h1 : a2 = a3) : (a2 ≤ a1) ∧ (a1 ≤ a3) := by simp only [Int32.le_iff_toInt_le, Int32.lt_iff_toInt_lt, ← Int32.toInt_inj, ne_eq] at *; omega
theorem zz_64d610aec5 {a1 a2 a3 : Int32} (h0 : a1 = a2) (h1 : a2 ≤ a3) (h2 : (0 ≤ a3) ∧ (a3 ≤ 12)) (h3 : ¬ (a2 = a3)) : a1 < 12 := by simp only [Int32.le_iff_toInt_le, Int32.lt_iff_toInt_lt, ← Int32.toInt_inj, ne_eq] at *; have l0 : (0 : Int32).toInt = 0 := (by decide); have l1 : (12 : Int32).toInt = 12 := (by decide); omega
theorem zz_b96c35c4ef {a1 a2 a3 a4 : Int32} (h0 : a1 = a2 + 1) (h1 : a2 = a3) (h2 : (0 ≤ a3) ∧ (a3 ≤ 12)) : (a4 ≠ 0) ∨ (a1 = a3 + 1) := by simp only [Int32.le_iff_toInt_le, Int32.lt_iff_toInt_lt, ← Int32.toInt_inj, ne_eq] at *; have b0 := Int32.le_toInt a2; have c0 := Int32.toInt_lt a2; have b1 := Int32.le_toInt a3; have c1 := Int32.toInt_lt a3; have l0 : (1 : Int32).toInt = 1 := (by decide); have l1 : (0 : Int32).toInt = 0 := (by decide); have l2 : (12 : Int32).toInt = 12 := (by decide); have s0 : (a2 + 1).toInt = a2.toInt + 1 := q_tA (by decide) (by omega) (by omega); have s1 : (a3 + 1).toInt = a3.toInt + 1 := q_tA (by decide) (by omega) (by omega); omega
theorem zz_527bf2a9db {a1 a2 a3 a4 : Int32} (h0 : a1 = a2 + 1) (h1 : a2 = a3) (h2 : a3 ≤ a4) (h3 : ¬ (a3 = a4)) (h4 : (0 ≤ a3) ∧ (a3 ≤ 12)) : (a3 ≤ a1) ∧ (a1 ≤ a4) := by simp only [Int32.le_iff_toInt_le, Int32.lt_iff_toInt_lt, ← Int32.toInt_inj, ne_eq] at *; have b0 := Int32.le_toInt a2; have c0 := Int32.toInt_lt a2; have l0 : (1 : Int32).toInt = 1 := (by decide); have l1 : (0 : Int32).toInt = 0 := (by decide); have l2 : (12 : Int32).toInt = 12 := (by decide); have s0 : (a2 + 1).toInt = a2.toInt + 1 := q_tA (by decide) (by omega) (by omega); omega
set_option maxHeartbeats 2000000 in
theorem p_Mod_endCycle {L : q_L} {W : Nat → Prop} {h0 : z_H} {π : Nat → Nat → Option Nat} {N : Nat} {h : z_H} {v0 : Nat} {v1 : Int32} (T : q_U L W h0 π h) (kv0 : q_M L π v0) (wM : ∀ a, v0 ≤ a → a < v0 + 46 → W a) (AP : vI h v0 68 = 0 ∨ vA h (v0 + 42) (vI h v0 68 - 1) = 10) (rl : vI h v0 70 ≤ vI h v0 4) (hN : 100000 ≤ N) : qk (f_Mod_endCycle N v0 v1 h) (fun r => q_U L W h0 π r.2 ∧ (r.1 = 0) ∧ (vI r.2 v0 76 ≠ 0 ∨ vI r.2 v0 70 = vI h v0 70 + 1) ∧ (vI h v0 70 ≤ vI r.2 v0 70 ∧ vI r.2 v0 70 ≤ vI h v0 4) ∧ (∀ a k, ¬ (a = v0 ∧ (k = 6 ∨ k = 76 ∨ k = 69 ∨ k = 67 ∨ k = 68 ∨ k = 65 ∨ k = 70 ∨ k = 72 ∨ k = 74)) → vI r.2 a k = vI h a k) ∧ (∀ a j, 0 ≤ j → ¬ (a = v0 + 43 ∨ a = v0 + 41 ∨ a = v0 + 39) → vA r.2 a j = vA h a j) ∧ (vI r.2 v0 68 = 0 ∨ vA r.2 (v0 + 42) (vI r.2 v0 68 - 1) = 10)) := by
  unfold f_Mod_endCycle
  refine qk_if (fun cc1 => ?_) (fun cc1 => ?_)
  · skip
    unfold f_Mod_endCycle_12
    refine r_Mo_o T kv0 ?_
    refine c_Mod_tellAppended (v0 := v0) T kv0 wM (by exact AP) hN ?_
    intro yr2i2 hr2i2 Tr2i2 gr2i2_0 gr2i2_1 gr2i2_2 gr2i2_3 gr2i2_4
    dsimp only
    refine qk_if (fun cc3 => ?_) (fun cc3 => ?_)
    · skip
      unfold f_Mod_endCycle_24
      refine qk_if (fun _ => ?_) (fun cc5 => absurd (by decide) cc5)
      refine qk_some ?_
      have o6 := g_Mo_70 T kv0
      have o7 : vI hr2i2 v0 70 = vI h v0 70 := (by rw [gr2i2_2 v0 70 (by omega)])
      exact ⟨Tr2i2, (by show (0 : Int32) = 0; decide), (zz_986c895afd gr2i2_1 cc3 o6), (zz_f8cc4ad1dc o7 rl), (by show ∀ a k, ¬ (a = v0 ∧ (k = 6 ∨ k = 76 ∨ k = 69 ∨ k = 67 ∨ k = 68 ∨ k = 65 ∨ k = 70 ∨ k = 72 ∨ k = 74)) → vI hr2i2 a k = vI h a k; intro a k n0; rw [gr2i2_2 a k (by omega)]), (by show ∀ a j, 0 ≤ j → ¬ (a = v0 + 43 ∨ a = v0 + 41 ∨ a = v0 + 39) → vA hr2i2 a j = vA h a j; intro a j j0 n0; rw [gr2i2_3 a j j0 (by omega)]), (by show vI hr2i2 v0 68 = 0 ∨ vA hr2i2 (v0 + 42) (vI hr2i2 v0 68 - 1) = 10; left; rw [gr2i2_4])⟩
    · skip
      unfold f_Mod_endCycle_24
      refine qk_if (fun cc9 => absurd cc9 (by decide)) (fun _ => ?_)
      refine r_Mo_70 Tr2i2 kv0 ?_
      intro x2i8 ex2i8 lx2i8 ux2i8
      have sx2i8 : (vI h v0 70) = x2i8 := (ex2i8.trans (by rw [gr2i2_2 v0 70 (by omega)])).symm
      subst sx2i8
      refine r_Mo_4 Tr2i2 kv0 ?_
      intro x3i8 ex3i8 lx3i8 ux3i8
      have sx3i8 : (vI h v0 4) = x3i8 := (ex3i8.trans (by rw [gr2i2_2 v0 4 (by omega)])).symm
      subst sx3i8
      refine qk_if (fun cc10 => ?_) (fun cc10 => ?_)
      · skip
        refine w_Mo_76 Tr2i2 kv0 (wM _ (by omega) (by omega)) ?_
        intro h10i8 Th10i8 ih10i8 ah10i8
        refine qk_some ?_
        have o11 : vI h10i8 v0 76 = 1 := (by rw [ih10i8 v0 76, if_pos ⟨rfl, rfl⟩])
        have o12 := g_Mo_70 T kv0
        have o13 : vI h10i8 v0 70 = vI h v0 70 := (by rw [ih10i8 v0 70, if_neg (fun z => absurd z.2 (by decide)), gr2i2_2 v0 70 (by omega)])
        exact ⟨Th10i8, (by show (0 : Int32) = 0; decide), (zz_6c2adcefc5 o11 o12), (zz_014f81ee32 o13 cc10), (by show ∀ a k, ¬ (a = v0 ∧ (k = 6 ∨ k = 76 ∨ k = 69 ∨ k = 67 ∨ k = 68 ∨ k = 65 ∨ k = 70 ∨ k = 72 ∨ k = 74)) → vI h10i8 a k = vI h a k; intro a k n0; rw [ih10i8, if_neg (by omega), gr2i2_2 a k (by omega)]), (by show ∀ a j, 0 ≤ j → ¬ (a = v0 + 43 ∨ a = v0 + 41 ∨ a = v0 + 39) → vA h10i8 a j = vA h a j; intro a j j0 n0; rw [ah10i8, gr2i2_3 a j j0 (by omega)]), (by show vI h10i8 v0 68 = 0 ∨ vA h10i8 (v0 + 42) (vI h10i8 v0 68 - 1) = 10; left; rw [ih10i8 v0 68, if_neg (fun z => absurd z.2 (by decide)), gr2i2_4])⟩
      · skip
        refine r_Mo_o Tr2i2 kv0 ?_
        have o14 : vI hr2i2 v0 70 = vI h v0 70 := (by rw [gr2i2_2 v0 70 (by omega)])
        have o15 := g_Mo_4 T kv0
        refine c_Mod_readLine (v0 := v0) Tr2i2 kv0 wM (zz_64d610aec5 o14 rl o15 cc10) hN ?_
        intro r6i8 Tr6i8 gr6i8_0 gr6i8_1 gr6i8_2
        refine r_Mo_72 Tr6i8 kv0 ?_
        intro x7i8 ex7i8
        have sx7i8 : (vI h v0 72) = x7i8 := (ex7i8.trans (by rw [gr6i8_0 v0 72 (by omega), gr2i2_2 v0 72 (by omega)])).symm
        subst sx7i8
        refine w_Mo_72 Tr6i8 kv0 (wM _ (by omega) (by omega)) ?_
        intro h8i8 Th8i8 ih8i8 ah8i8
        refine w_Mo_74 Th8i8 kv0 (wM _ (by omega) (by omega)) ?_
        intro h9i8 Th9i8 ih9i8 ah9i8
        refine qk_some ?_
        have o16 : vI h9i8 v0 70 = (vI hr2i2 v0 70) + 1 := (by rw [ih9i8 v0 70, if_neg (fun z => absurd z.2 (by decide)), ih8i8 v0 70, if_neg (fun z => absurd z.2 (by decide)), gr6i8_2])
        have o17 := g_Mo_70 T kv0
        exact ⟨Th9i8, (by show (0 : Int32) = 0; decide), (zz_b96c35c4ef o16 o14 o17), (zz_527bf2a9db o16 o14 rl cc10 o17), (by show ∀ a k, ¬ (a = v0 ∧ (k = 6 ∨ k = 76 ∨ k = 69 ∨ k = 67 ∨ k = 68 ∨ k = 65 ∨ k = 70 ∨ k = 72 ∨ k = 74)) → vI h9i8 a k = vI h a k; intro a k n0; rw [ih9i8, if_neg (by omega), ih8i8, if_neg (by omega), gr6i8_0 a k (by omega), gr2i2_2 a k (by omega)]), (by show ∀ a j, 0 ≤ j → ¬ (a = v0 + 43 ∨ a = v0 + 41 ∨ a = v0 + 39) → vA h9i8 a j = vA h a j; intro a j j0 n0; rw [ah9i8, ah8i8, gr6i8_1 a j j0 (by omega), gr2i2_3 a j j0 (by omega)]), (by show vI h9i8 v0 68 = 0 ∨ vA h9i8 (v0 + 42) (vI h9i8 v0 68 - 1) = 10; left; rw [ih9i8 v0 68, if_neg (fun z => absurd z.2 (by decide)), ih8i8 v0 68, if_neg (fun z => absurd z.2 (by decide)), gr6i8_0 v0 68 (by omega), gr2i2_4])⟩
  · skip
    refine r_Mo_o T kv0 ?_
    refine c_Mod_tellSpace (v0 := v0) (v1 := 0) T kv0 wM hN ?_
    intro yr3 hr3 Tr3 gr3_0 gr3_1 gr3_2 gr3_3
    dsimp only
    refine qk_if (fun cc18 => ?_) (fun cc18 => ?_)
    · skip
      unfold f_Mod_endCycle_24
      refine qk_if (fun _ => ?_) (fun cc20 => absurd (by decide) cc20)
      refine qk_some ?_
      have o21 := g_Mo_70 T kv0
      have o22 : vI hr3 v0 70 = vI h v0 70 := (by rw [gr3_2 v0 70 (by omega)])
      have o23 := g_Mo_68 T kv0
      exact ⟨Tr3, (by show (0 : Int32) = 0; decide), (zz_986c895afd gr3_1 cc18 o21), (zz_f8cc4ad1dc o22 rl), (by show ∀ a k, ¬ (a = v0 ∧ (k = 6 ∨ k = 76 ∨ k = 69 ∨ k = 67 ∨ k = 68 ∨ k = 65 ∨ k = 70 ∨ k = 72 ∨ k = 74)) → vI hr3 a k = vI h a k; intro a k n0; rw [gr3_2 a k (by omega)]), (by show ∀ a j, 0 ≤ j → ¬ (a = v0 + 43 ∨ a = v0 + 41 ∨ a = v0 + 39) → vA hr3 a j = vA h a j; intro a j j0 n0; rw [gr3_3 a j j0 (by omega)]), (by show vI hr3 v0 68 = 0 ∨ vA hr3 (v0 + 42) (vI hr3 v0 68 - 1) = 10; by_cases z : vI h v0 68 = 0; (left; rw [gr3_2 v0 68 (by omega)]; exact z); (right; have jz : 0 ≤ vI h v0 68 - 1 := (zz_e8fb340edd o23 z); rw [gr3_2 v0 68 (by omega)]; rw [gr3_3 (v0 + 42) (vI h v0 68 - 1) jz (by omega)]; exact (AP).resolve_left z))⟩
    · skip
      unfold f_Mod_endCycle_12
      refine r_Mo_o Tr3 kv0 ?_
      have o25 := g_Mo_68 T kv0
      refine c_Mod_tellAppended (v0 := v0) Tr3 kv0 wM (by by_cases z : vI h v0 68 = 0; (left; rw [gr3_2 v0 68 (by omega)]; exact z); (right; have jz : 0 ≤ vI h v0 68 - 1 := (zz_e8fb340edd o25 z); rw [gr3_2 v0 68 (by omega)]; rw [gr3_3 (v0 + 42) (vI h v0 68 - 1) jz (by omega)]; exact (AP).resolve_left z)) hN ?_
      intro yr2i24 hr2i24 Tr2i24 gr2i24_0 gr2i24_1 gr2i24_2 gr2i24_3 gr2i24_4
      dsimp only
      refine qk_if (fun cc26 => ?_) (fun cc26 => ?_)
      · skip
        unfold f_Mod_endCycle_24
        refine qk_if (fun _ => ?_) (fun cc28 => absurd (by decide) cc28)
        refine qk_some ?_
        have o29 := g_Mo_70 T kv0
        have o30 : vI hr2i24 v0 70 = vI h v0 70 := (by rw [gr2i24_2 v0 70 (by omega), gr3_2 v0 70 (by omega)])
        exact ⟨Tr2i24, (by show (0 : Int32) = 0; decide), (zz_986c895afd gr2i24_1 cc26 o29), (zz_f8cc4ad1dc o30 rl), (by show ∀ a k, ¬ (a = v0 ∧ (k = 6 ∨ k = 76 ∨ k = 69 ∨ k = 67 ∨ k = 68 ∨ k = 65 ∨ k = 70 ∨ k = 72 ∨ k = 74)) → vI hr2i24 a k = vI h a k; intro a k n0; rw [gr2i24_2 a k (by omega), gr3_2 a k (by omega)]), (by show ∀ a j, 0 ≤ j → ¬ (a = v0 + 43 ∨ a = v0 + 41 ∨ a = v0 + 39) → vA hr2i24 a j = vA h a j; intro a j j0 n0; rw [gr2i24_3 a j j0 (by omega), gr3_3 a j j0 (by omega)]), (by show vI hr2i24 v0 68 = 0 ∨ vA hr2i24 (v0 + 42) (vI hr2i24 v0 68 - 1) = 10; left; rw [gr2i24_4])⟩
      · skip
        unfold f_Mod_endCycle_24
        refine qk_if (fun cc32 => absurd cc32 (by decide)) (fun _ => ?_)
        refine r_Mo_70 Tr2i24 kv0 ?_
        intro x2i31 ex2i31 lx2i31 ux2i31
        have sx2i31 : (vI h v0 70) = x2i31 := (ex2i31.trans (by rw [gr2i24_2 v0 70 (by omega), gr3_2 v0 70 (by omega)])).symm
        subst sx2i31
        refine r_Mo_4 Tr2i24 kv0 ?_
        intro x3i31 ex3i31 lx3i31 ux3i31
        have sx3i31 : (vI h v0 4) = x3i31 := (ex3i31.trans (by rw [gr2i24_2 v0 4 (by omega), gr3_2 v0 4 (by omega)])).symm
        subst sx3i31
        refine qk_if (fun cc33 => ?_) (fun cc33 => ?_)
        · skip
          refine w_Mo_76 Tr2i24 kv0 (wM _ (by omega) (by omega)) ?_
          intro h10i31 Th10i31 ih10i31 ah10i31
          refine qk_some ?_
          have o34 : vI h10i31 v0 76 = 1 := (by rw [ih10i31 v0 76, if_pos ⟨rfl, rfl⟩])
          have o35 := g_Mo_70 T kv0
          have o36 : vI h10i31 v0 70 = vI h v0 70 := (by rw [ih10i31 v0 70, if_neg (fun z => absurd z.2 (by decide)), gr2i24_2 v0 70 (by omega), gr3_2 v0 70 (by omega)])
          exact ⟨Th10i31, (by show (0 : Int32) = 0; decide), (zz_6c2adcefc5 o34 o35), (zz_014f81ee32 o36 cc33), (by show ∀ a k, ¬ (a = v0 ∧ (k = 6 ∨ k = 76 ∨ k = 69 ∨ k = 67 ∨ k = 68 ∨ k = 65 ∨ k = 70 ∨ k = 72 ∨ k = 74)) → vI h10i31 a k = vI h a k; intro a k n0; rw [ih10i31, if_neg (by omega), gr2i24_2 a k (by omega), gr3_2 a k (by omega)]), (by show ∀ a j, 0 ≤ j → ¬ (a = v0 + 43 ∨ a = v0 + 41 ∨ a = v0 + 39) → vA h10i31 a j = vA h a j; intro a j j0 n0; rw [ah10i31, gr2i24_3 a j j0 (by omega), gr3_3 a j j0 (by omega)]), (by show vI h10i31 v0 68 = 0 ∨ vA h10i31 (v0 + 42) (vI h10i31 v0 68 - 1) = 10; left; rw [ih10i31 v0 68, if_neg (fun z => absurd z.2 (by decide)), gr2i24_4])⟩
        · skip
          refine r_Mo_o Tr2i24 kv0 ?_
          have o37 : vI hr2i24 v0 70 = vI h v0 70 := (by rw [gr2i24_2 v0 70 (by omega), gr3_2 v0 70 (by omega)])
          have o38 := g_Mo_4 T kv0
          refine c_Mod_readLine (v0 := v0) Tr2i24 kv0 wM (zz_64d610aec5 o37 rl o38 cc33) hN ?_
          intro r6i31 Tr6i31 gr6i31_0 gr6i31_1 gr6i31_2
          refine r_Mo_72 Tr6i31 kv0 ?_
          intro x7i31 ex7i31
          have sx7i31 : (vI h v0 72) = x7i31 := (ex7i31.trans (by rw [gr6i31_0 v0 72 (by omega), gr2i24_2 v0 72 (by omega), gr3_2 v0 72 (by omega)])).symm
          subst sx7i31
          refine w_Mo_72 Tr6i31 kv0 (wM _ (by omega) (by omega)) ?_
          intro h8i31 Th8i31 ih8i31 ah8i31
          refine w_Mo_74 Th8i31 kv0 (wM _ (by omega) (by omega)) ?_
          intro h9i31 Th9i31 ih9i31 ah9i31
          refine qk_some ?_
          have o39 : vI h9i31 v0 70 = (vI hr2i24 v0 70) + 1 := (by rw [ih9i31 v0 70, if_neg (fun z => absurd z.2 (by decide)), ih8i31 v0 70, if_neg (fun z => absurd z.2 (by decide)), gr6i31_2])
          have o40 := g_Mo_70 T kv0
          exact ⟨Th9i31, (by show (0 : Int32) = 0; decide), (zz_b96c35c4ef o39 o37 o40), (zz_527bf2a9db o39 o37 rl cc33 o40), (by show ∀ a k, ¬ (a = v0 ∧ (k = 6 ∨ k = 76 ∨ k = 69 ∨ k = 67 ∨ k = 68 ∨ k = 65 ∨ k = 70 ∨ k = 72 ∨ k = 74)) → vI h9i31 a k = vI h a k; intro a k n0; rw [ih9i31, if_neg (by omega), ih8i31, if_neg (by omega), gr6i31_0 a k (by omega), gr2i24_2 a k (by omega), gr3_2 a k (by omega)]), (by show ∀ a j, 0 ≤ j → ¬ (a = v0 + 43 ∨ a = v0 + 41 ∨ a = v0 + 39) → vA h9i31 a j = vA h a j; intro a j j0 n0; rw [ah9i31, ah8i31, gr6i31_1 a j j0 (by omega), gr2i24_3 a j j0 (by omega), gr3_3 a j j0 (by omega)]), (by show vI h9i31 v0 68 = 0 ∨ vA h9i31 (v0 + 42) (vI h9i31 v0 68 - 1) = 10; left; rw [ih9i31 v0 68, if_neg (fun z => absurd z.2 (by decide)), ih8i31 v0 68, if_neg (fun z => absurd z.2 (by decide)), gr6i31_0 v0 68 (by omega), gr2i24_4])⟩
theorem c_Mod_endCycle {L : q_L} {W : Nat → Prop} {h0 : z_H} {π : Nat → Nat → Option Nat} {N : Nat} {h : z_H} {v0 : Nat} {v1 : Int32} {β : Type} {f : Int32 × z_H → Option β} {Q : β → Prop} (T : q_U L W h0 π h) (kv0 : q_M L π v0) (wM : ∀ a, v0 ≤ a → a < v0 + 46 → W a) (AP : vI h v0 68 = 0 ∨ vA h (v0 + 42) (vI h v0 68 - 1) = 10) (rl : vI h v0 70 ≤ vI h v0 4) (hN : 100000 ≤ N) (H : ∀ y h', q_U L W h0 π h' → (y = 0) → (vI h' v0 76 ≠ 0 ∨ vI h' v0 70 = vI h v0 70 + 1) → (vI h v0 70 ≤ vI h' v0 70 ∧ vI h' v0 70 ≤ vI h v0 4) → (∀ a k, ¬ (a = v0 ∧ (k = 6 ∨ k = 76 ∨ k = 69 ∨ k = 67 ∨ k = 68 ∨ k = 65 ∨ k = 70 ∨ k = 72 ∨ k = 74)) → vI h' a k = vI h a k) → (∀ a j, 0 ≤ j → ¬ (a = v0 + 43 ∨ a = v0 + 41 ∨ a = v0 + 39) → vA h' a j = vA h a j) → (vI h' v0 68 = 0 ∨ vA h' (v0 + 42) (vI h' v0 68 - 1) = 10) → qk (f (y, h')) Q) : qk (z_b (f_Mod_endCycle N v0 v1 h) f) Q := by
  refine qk_b (p_Mod_endCycle T kv0 wM AP rl hN) ?_
  rintro ⟨y, hz⟩ ⟨Tz, g0, g1, g2, g3, g4, g5⟩
  exact H y hz Tz g0 g1 g2 g3 g4 g5
