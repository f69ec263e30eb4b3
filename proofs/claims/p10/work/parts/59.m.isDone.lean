theorem zz_8115591bfa {a1 : Int32} (h0 : (0 ≤ a1) ∧ (a1 ≤ 3)) (h1 : ¬ (a1 = 0)) (h2 : a1 ≠ 1) (h3 : a1 ≠ 2) : a1 = 3 := by simp only [Int32.le_iff_toInt_le, Int32.lt_iff_toInt_lt, ← Int32.toInt_inj, ne_eq] at *; have l0 : (0 : Int32).toInt = 0 := (by decide); have l1 : (3 : Int32).toInt = 3 := (by decide); have l2 : (1 : Int32).toInt = 1 := (by decide); have l3 : (2 : Int32).toInt = 2 := (by decide); omega
theorem zz_50e12ee6ef {a1 a2 : Int32} (h0 : 40 * a1 ≤ a2) (h1 : (0 ≤ a1) ∧ (a1 ≤ 1)) (h2 : 0 ≤ a2) (h3 : a2 < 80) : 0 ≤ a2 - (40 * a1) := by simp only [Int32.le_iff_toInt_le, Int32.lt_iff_toInt_lt, ← Int32.toInt_inj, ne_eq] at *; have b0 := Int32.le_toInt a1; have c0 := Int32.toInt_lt a1; have b1 := Int32.le_toInt a2; have c1 := Int32.toInt_lt a2; have l0 : (40 : Int32).toInt = 40 := (by decide); have l1 : (0 : Int32).toInt = 0 := (by decide); have l2 : (1 : Int32).toInt = 1 := (by decide); have l3 : (80 : Int32).toInt = 80 := (by decide); have s0 : (40 * a1).toInt = 40 * a1.toInt := q_tM (by decide) (by omega) (by omega); have s1 : (a2 - (40 * a1)).toInt = a2.toInt - (40 * a1).toInt := q_tS rfl (by omega) (by omega); omega
theorem zz_dd4c8ba099 {a1 a2 : Int32} (h0 : a1 < (40 * a2) + 40) (h1 : (0 ≤ a2) ∧ (a2 ≤ 1)) (h2 : 0 ≤ a1) (h3 : a1 < 80) : a1 - (40 * a2) < 40 := by simp only [Int32.le_iff_toInt_le, Int32.lt_iff_toInt_lt, ← Int32.toInt_inj, ne_eq] at *; have b0 := Int32.le_toInt a2; have c0 := Int32.toInt_lt a2; have b1 := Int32.le_toInt a1; have c1 := Int32.toInt_lt a1; have l0 : (40 : Int32).toInt = 40 := (by decide); have l1 : (0 : Int32).toInt = 0 := (by decide); have l2 : (1 : Int32).toInt = 1 := (by decide); have l3 : (80 : Int32).toInt = 80 := (by decide); have s0 : (40 * a2).toInt = 40 * a2.toInt := q_tM (by decide) (by omega) (by omega); have s1 : ((40 * a2) + 40).toInt = (40 * a2).toInt + 40 := q_tA (by decide) (by omega) (by omega); have s2 : (a1 - (40 * a2)).toInt = a1.toInt - (40 * a2).toInt := q_tS rfl (by omega) (by omega); omega
theorem zz_e5bae0d7c5 {a1 : Int32} (h0 : (0 ≤ a1) ∧ (a1 ≤ 3)) (h1 : ¬ (a1 = 0)) (h2 : ¬ (a1 = 1)) (h3 : a1 ≠ 2) : a1 = 3 := by simp only [Int32.le_iff_toInt_le, Int32.lt_iff_toInt_lt, ← Int32.toInt_inj, ne_eq] at *; have l0 : (0 : Int32).toInt = 0 := (by decide); have l1 : (3 : Int32).toInt = 3 := (by decide); have l2 : (1 : Int32).toInt = 1 := (by decide); have l3 : (2 : Int32).toInt = 2 := (by decide); omega
set_option maxHeartbeats 4000000 in
theorem p_Mod_isDone {L : q_L} {W : Nat → Prop} {h0 : z_H} {π : Nat → Nat → Option Nat} {N : Nat} {h : z_H} {v0 : Nat} {v1 : Int32} (T : q_U L W h0 π h) (kv0 : q_M L π v0) (wM : ∀ a, v0 ≤ a → a < v0 + 46 → W a) (s0 : 0 ≤ v1) (s1 : v1 < 80) (l0 : 40 * vI h v0 7 ≤ v1) (l1 : v1 < 40 * vI h v0 7 + 40) (P1 : vA h (v0 + 5) v1 = 3 → q_PM h v0 (vA h (v0 + 6) v1)) (P2 : vA h (v0 + 7) v1 = 3 → q_PM h v0 (vA h (v0 + 8) v1)) (hN : 100000 ≤ N) : qk (f_Mod_isDone N v0 v1 h) (fun r => q_U L W h0 π r.2 ∧ (∀ a k, ¬ (a = v0 ∧ (k = 75 ∨ k = 54 ∨ k = 55 ∨ k = 56 ∨ k = 57)) → vI r.2 a k = vI h a k) ∧ (∀ a j, 0 ≤ j → ¬ (a = v0 + 45 ∨ a = v0 + 36 ∨ a = v0 + 37 ∨ a = v0 + 38) → vA r.2 a j = vA h a j)) := by
  unfold f_Mod_isDone
  refine r_Mo_7 T kv0 ?_
  intro x1 ex1 lx1 ux1
  subst ex1
  refine qk_bs ?_
  refine w_Mo_75 T kv0 (wM _ (by omega) (by omega)) ?_
  intro h3 Th3 ih3 ah3
  refine r_Mo_10 Th3 kv0 ?_
  refine r_Mo_e5 Th3 kv0 s0 s1 ?_
  intro x5 ex5 lx5 ux5
  have sx5 : (vA h (v0 + 5) v1) = x5 := (ex5.trans (by rw [ah3 (v0 + 5) v1])).symm
  subst sx5
  refine qk_if (fun cc1 => ?_) (fun cc1 => ?_)
  · skip
    refine r_Mo_21 Th3 kv0 ?_
    refine r_Mo_e16 Th3 kv0 s0 s1 ?_
    intro x51 ex51
    have sx51 : (vA h (v0 + 16) v1) = x51 := (ex51.trans (by rw [ah3 (v0 + 16) v1])).symm
    subst sx51
    refine qk_if (fun cc2 => ?_) (fun cc2 => ?_)
    · skip
      refine qk_some ?_
      exact ⟨Th3, (by show ∀ a k, ¬ (a = v0 ∧ (k = 75 ∨ k = 54 ∨ k = 55 ∨ k = 56 ∨ k = 57)) → vI h3 a k = vI h a k; intro a k n0; rw [ih3, if_neg (by omega)]), (by show ∀ a j, 0 ≤ j → ¬ (a = v0 + 45 ∨ a = v0 + 36 ∨ a = v0 + 37 ∨ a = v0 + 38) → vA h3 a j = vA h a j; intro a j j0 n0; rw [ah3])⟩
    · skip
      refine qk_some ?_
      exact ⟨Th3, (by show ∀ a k, ¬ (a = v0 ∧ (k = 75 ∨ k = 54 ∨ k = 55 ∨ k = 56 ∨ k = 57)) → vI h3 a k = vI h a k; intro a k n0; rw [ih3, if_neg (by omega)]), (by show ∀ a j, 0 ≤ j → ¬ (a = v0 + 45 ∨ a = v0 + 36 ∨ a = v0 + 37 ∨ a = v0 + 38) → vA h3 a j = vA h a j; intro a j j0 n0; rw [ah3])⟩
  · skip
    refine r_Mo_12 Th3 kv0 ?_
    refine r_Mo_e7 Th3 kv0 s0 s1 ?_
    intro x8 ex8 lx8 ux8
    have sx8 : (vA h (v0 + 7) v1) = x8 := (ex8.trans (by rw [ah3 (v0 + 7) v1])).symm
    subst sx8
    refine qk_if (fun cc3 => ?_) (fun cc3 => ?_)
    · skip
      refine r_Mo_10 Th3 kv0 ?_
      refine r_Mo_e5 Th3 kv0 s0 s1 ?_
      intro x42 ex42 lx42 ux42
      have sx42 : (vA h (v0 + 5) v1) = x42 := (ex42.trans (by rw [ah3 (v0 + 5) v1])).symm
      subst sx42
      refine r_Mo_11 Th3 kv0 ?_
      refine r_Mo_e6 Th3 kv0 s0 s1 ?_
      intro x44 ex44 lx44 ux44
      have sx44 : (vA h (v0 + 6) v1) = x44 := (ex44.trans (by rw [ah3 (v0 + 6) v1])).symm
      subst sx44
      refine r_Mo_o Th3 kv0 ?_
      have o4 := g_Mo_e5 T kv0 v1
      have o5 := g_Mo_e6 T kv0 v1
      refine c_Mod_fitsAddress (v0 := v0) (v1 := (vA h (v0 + 5) v1)) (v2 := (vA h (v0 + 6) v1)) Th3 kv0 wM (by intro n1 n2; exact q_PM_run (P1 (zz_8115591bfa o4 cc1 n1 n2)) (g_Mo_e6 T kv0 v1).1 (fun a j j0 na => by rw [ah3])) lx44 (zz_5ff11b7469 o5) hN ?_
      intro yr46 hr46 Tr46 gr46_0 gr46_1 gr46_2
      dsimp only
      refine r_Mo_21 Tr46 kv0 ?_
      refine r_Mo_e16 Tr46 kv0 s0 s1 ?_
      intro x48 ex48
      have sx48 : (vA h (v0 + 16) v1) = x48 := (ex48.trans (by rw [gr46_2 (v0 + 16) v1 s0 (by omega), ah3 (v0 + 16) v1])).symm
      subst sx48
      refine qk_if (fun cc6 => ?_) (fun cc6 => ?_)
      · skip
        refine qk_some ?_
        exact ⟨Tr46, (by show ∀ a k, ¬ (a = v0 ∧ (k = 75 ∨ k = 54 ∨ k = 55 ∨ k = 56 ∨ k = 57)) → vI hr46 a k = vI h a k; intro a k n0; rw [gr46_1 a k (by omega), ih3, if_neg (by omega)]), (by show ∀ a j, 0 ≤ j → ¬ (a = v0 + 45 ∨ a = v0 + 36 ∨ a = v0 + 37 ∨ a = v0 + 38) → vA hr46 a j = vA h a j; intro a j j0 n0; rw [gr46_2 a j j0 (by omega), ah3])⟩
      · skip
        refine qk_some ?_
        exact ⟨Tr46, (by show ∀ a k, ¬ (a = v0 ∧ (k = 75 ∨ k = 54 ∨ k = 55 ∨ k = 56 ∨ k = 57)) → vI hr46 a k = vI h a k; intro a k n0; rw [gr46_1 a k (by omega), ih3, if_neg (by omega)]), (by show ∀ a j, 0 ≤ j → ¬ (a = v0 + 45 ∨ a = v0 + 36 ∨ a = v0 + 37 ∨ a = v0 + 38) → vA hr46 a j = vA h a j; intro a j j0 n0; rw [gr46_2 a j j0 (by omega), ah3])⟩
    · skip
      refine r_Mo_64 Th3 kv0 ?_
      have o7 := g_Mo_7 T kv0
      refine r_Mo_e45 Th3 kv0 (zz_50e12ee6ef l0 o7 s0 s1) (zz_dd4c8ba099 l1 o7 s0 s1) ?_
      intro x11 ex11
      have sx11 : (vA h (v0 + 45) (v1 - (40 * (vI h v0 7)))) = x11 := (ex11.trans (by rw [ah3 (v0 + 45) (v1 - (40 * (vI h v0 7)))])).symm
      subst sx11
      refine qk_if (fun cc8 => ?_) (fun cc8 => ?_)
      · skip
        refine r_Mo_10 Th3 kv0 ?_
        refine r_Mo_e5 Th3 kv0 s0 s1 ?_
        intro x14 ex14 lx14 ux14
        have sx14 : (vA h (v0 + 5) v1) = x14 := (ex14.trans (by rw [ah3 (v0 + 5) v1])).symm
        subst sx14
        refine r_Mo_11 Th3 kv0 ?_
        refine r_Mo_e6 Th3 kv0 s0 s1 ?_
        intro x16 ex16 lx16 ux16
        have sx16 : (vA h (v0 + 6) v1) = x16 := (ex16.trans (by rw [ah3 (v0 + 6) v1])).symm
        subst sx16
        refine r_Mo_o Th3 kv0 ?_
        have o9 := g_Mo_e5 T kv0 v1
        have o10 := g_Mo_e6 T kv0 v1
        refine c_Mod_fitsAddress (v0 := v0) (v1 := (vA h (v0 + 5) v1)) (v2 := (vA h (v0 + 6) v1)) Th3 kv0 wM (by intro n1 n2; exact q_PM_run (P1 (zz_8115591bfa o9 cc1 n1 n2)) (g_Mo_e6 T kv0 v1).1 (fun a j j0 na => by rw [ah3])) lx16 (zz_5ff11b7469 o10) hN ?_
        intro yr18 hr18 Tr18 gr18_0 gr18_1 gr18_2
        dsimp only
        refine qk_bs ?_
        refine qk_if (fun cc11 => ?_) (fun cc11 => ?_)
        · skip
          unfold f_Mod_isDone_221
          refine qk_zB (by first | with_reducible assumption | grind | lia) ?_
          refine w_Mo_75 Tr18 kv0 (wM _ (by omega) (by omega)) ?_
          intro h2i12 Th2i12 ih2i12 ah2i12
          refine r_Mo_64 Th2i12 kv0 ?_
          refine qk_if (fun cc13 => ?_) (fun cc13 => ?_)
          · skip
            unfold f_Mod_isDone_245
            refine w_Mo_e45 Th2i12 kv0 (wM _ (by omega) (by omega)) (zz_50e12ee6ef l0 o7 s0 s1) (zz_dd4c8ba099 l1 o7 s0 s1) ?_
            intro h1i14 Th1i14 ih1i14 ah1i14
            refine r_Mo_21 Th1i14 kv0 ?_
            refine r_Mo_e16 Th1i14 kv0 s0 s1 ?_
            intro x3i14 ex3i14
            have sx3i14 : (vA h (v0 + 16) v1) = x3i14 := (ex3i14.trans (by rw [ah1i14 (v0 + 16) v1 s0, if_neg (fun z => absurd z.1 (by omega)), ah2i12 (v0 + 16) v1, gr18_2 (v0 + 16) v1 s0 (by omega), ah3 (v0 + 16) v1])).symm
            subst sx3i14
            refine qk_if (fun cc15 => ?_) (fun cc15 => ?_)
            · skip
              refine qk_some ?_
              exact ⟨Th1i14, (by show ∀ a k, ¬ (a = v0 ∧ (k = 75 ∨ k = 54 ∨ k = 55 ∨ k = 56 ∨ k = 57)) → vI h1i14 a k = vI h a k; intro a k n0; rw [ih1i14, ih2i12, if_neg (by omega), gr18_1 a k (by omega), ih3, if_neg (by omega)]), (by show ∀ a j, 0 ≤ j → ¬ (a = v0 + 45 ∨ a = v0 + 36 ∨ a = v0 + 37 ∨ a = v0 + 38) → vA h1i14 a j = vA h a j; intro a j j0 n0; rw [ah1i14 a j j0, if_neg (by omega), ah2i12, gr18_2 a j j0 (by omega), ah3])⟩
            · skip
              refine qk_some ?_
              exact ⟨Th1i14, (by show ∀ a k, ¬ (a = v0 ∧ (k = 75 ∨ k = 54 ∨ k = 55 ∨ k = 56 ∨ k = 57)) → vI h1i14 a k = vI h a k; intro a k n0; rw [ih1i14, ih2i12, if_neg (by omega), gr18_1 a k (by omega), ih3, if_neg (by omega)]), (by show ∀ a j, 0 ≤ j → ¬ (a = v0 + 45 ∨ a = v0 + 36 ∨ a = v0 + 37 ∨ a = v0 + 38) → vA h1i14 a j = vA h a j; intro a j j0 n0; rw [ah1i14 a j j0, if_neg (by omega), ah2i12, gr18_2 a j j0 (by omega), ah3])⟩
          · skip
            refine r_Mo_75 Th2i12 kv0 ?_
            intro x5i12 ex5i12
            have sx5i12 : 0 = x5i12 := (ex5i12.trans (by rw [ih2i12 v0 75, if_pos ⟨rfl, rfl⟩])).symm
            subst sx5i12
            refine qk_if (fun _ => ?_) (fun cc16 => absurd (by decide) cc16)
            unfold f_Mod_isDone_245
            refine w_Mo_e45 Th2i12 kv0 (wM _ (by omega) (by omega)) (zz_50e12ee6ef l0 o7 s0 s1) (zz_dd4c8ba099 l1 o7 s0 s1) ?_
            intro h1i17 Th1i17 ih1i17 ah1i17
            refine r_Mo_21 Th1i17 kv0 ?_
            refine r_Mo_e16 Th1i17 kv0 s0 s1 ?_
            intro x3i17 ex3i17
            have sx3i17 : (vA h (v0 + 16) v1) = x3i17 := (ex3i17.trans (by rw [ah1i17 (v0 + 16) v1 s0, if_neg (fun z => absurd z.1 (by omega)), ah2i12 (v0 + 16) v1, gr18_2 (v0 + 16) v1 s0 (by omega), ah3 (v0 + 16) v1])).symm
            subst sx3i17
            refine qk_if (fun cc18 => ?_) (fun cc18 => ?_)
            · skip
              refine qk_some ?_
              exact ⟨Th1i17, (by show ∀ a k, ¬ (a = v0 ∧ (k = 75 ∨ k = 54 ∨ k = 55 ∨ k = 56 ∨ k = 57)) → vI h1i17 a k = vI h a k; intro a k n0; rw [ih1i17, ih2i12, if_neg (by omega), gr18_1 a k (by omega), ih3, if_neg (by omega)]), (by show ∀ a j, 0 ≤ j → ¬ (a = v0 + 45 ∨ a = v0 + 36 ∨ a = v0 + 37 ∨ a = v0 + 38) → vA h1i17 a j = vA h a j; intro a j j0 n0; rw [ah1i17 a j j0, if_neg (by omega), ah2i12, gr18_2 a j j0 (by omega), ah3])⟩
            · skip
              refine qk_some ?_
              exact ⟨Th1i17, (by show ∀ a k, ¬ (a = v0 ∧ (k = 75 ∨ k = 54 ∨ k = 55 ∨ k = 56 ∨ k = 57)) → vI h1i17 a k = vI h a k; intro a k n0; rw [ih1i17, ih2i12, if_neg (by omega), gr18_1 a k (by omega), ih3, if_neg (by omega)]), (by show ∀ a j, 0 ≤ j → ¬ (a = v0 + 45 ∨ a = v0 + 36 ∨ a = v0 + 37 ∨ a = v0 + 38) → vA h1i17 a j = vA h a j; intro a j j0 n0; rw [ah1i17 a j j0, if_neg (by omega), ah2i12, gr18_2 a j j0 (by omega), ah3])⟩
        · skip
          refine r_Mo_12 Tr18 kv0 ?_
          refine r_Mo_e7 Tr18 kv0 s0 s1 ?_
          intro x22 ex22 lx22 ux22
          have sx22 : (vA h (v0 + 7) v1) = x22 := (ex22.trans (by rw [gr18_2 (v0 + 7) v1 s0 (by omega), ah3 (v0 + 7) v1])).symm
          subst sx22
          refine qk_if (fun cc19 => ?_) (fun cc19 => ?_)
          · skip
            refine r_Mo_13 Tr18 kv0 ?_
            refine r_Mo_e8 Tr18 kv0 s0 s1 ?_
            intro x25 ex25 lx25 ux25
            have sx25 : (vA h (v0 + 8) v1) = x25 := (ex25.trans (by rw [gr18_2 (v0 + 8) v1 s0 (by omega), ah3 (v0 + 8) v1])).symm
            subst sx25
            refine r_Mo_70 Tr18 kv0 ?_
            intro x26 ex26 lx26 ux26
            have sx26 : (vI h v0 70) = x26 := (ex26.trans (by rw [gr18_1 v0 70 (by omega), ih3 v0 70, if_neg (fun z => absurd z.2 (by decide))])).symm
            subst sx26
            refine qk_if (fun cc20 => ?_) (fun cc20 => ?_)
            · skip
              unfold f_Mod_isDone_221
              refine qk_zB (by first | with_reducible assumption | grind | lia) ?_
              refine w_Mo_75 Tr18 kv0 (wM _ (by omega) (by omega)) ?_
              intro h2i21 Th2i21 ih2i21 ah2i21
              refine r_Mo_64 Th2i21 kv0 ?_
              refine qk_if (fun cc22 => ?_) (fun cc22 => ?_)
              · skip
                unfold f_Mod_isDone_245
                refine w_Mo_e45 Th2i21 kv0 (wM _ (by omega) (by omega)) (zz_50e12ee6ef l0 o7 s0 s1) (zz_dd4c8ba099 l1 o7 s0 s1) ?_
                intro h1i23 Th1i23 ih1i23 ah1i23
                refine r_Mo_21 Th1i23 kv0 ?_
                refine r_Mo_e16 Th1i23 kv0 s0 s1 ?_
                intro x3i23 ex3i23
                have sx3i23 : (vA h (v0 + 16) v1) = x3i23 := (ex3i23.trans (by rw [ah1i23 (v0 + 16) v1 s0, if_neg (fun z => absurd z.1 (by omega)), ah2i21 (v0 + 16) v1, gr18_2 (v0 + 16) v1 s0 (by omega), ah3 (v0 + 16) v1])).symm
                subst sx3i23
                refine qk_if (fun cc24 => ?_) (fun cc24 => ?_)
                · skip
                  refine qk_some ?_
                  exact ⟨Th1i23, (by show ∀ a k, ¬ (a = v0 ∧ (k = 75 ∨ k = 54 ∨ k = 55 ∨ k = 56 ∨ k = 57)) → vI h1i23 a k = vI h a k; intro a k n0; rw [ih1i23, ih2i21, if_neg (by omega), gr18_1 a k (by omega), ih3, if_neg (by omega)]), (by show ∀ a j, 0 ≤ j → ¬ (a = v0 + 45 ∨ a = v0 + 36 ∨ a = v0 + 37 ∨ a = v0 + 38) → vA h1i23 a j = vA h a j; intro a j j0 n0; rw [ah1i23 a j j0, if_neg (by omega), ah2i21, gr18_2 a j j0 (by omega), ah3])⟩
                · skip
                  refine qk_some ?_
                  exact ⟨Th1i23, (by show ∀ a k, ¬ (a = v0 ∧ (k = 75 ∨ k = 54 ∨ k = 55 ∨ k = 56 ∨ k = 57)) → vI h1i23 a k = vI h a k; intro a k n0; rw [ih1i23, ih2i21, if_neg (by omega), gr18_1 a k (by omega), ih3, if_neg (by omega)]), (by show ∀ a j, 0 ≤ j → ¬ (a = v0 + 45 ∨ a = v0 + 36 ∨ a = v0 + 37 ∨ a = v0 + 38) → vA h1i23 a j = vA h a j; intro a j j0 n0; rw [ah1i23 a j j0, if_neg (by omega), ah2i21, gr18_2 a j j0 (by omega), ah3])⟩
              · skip
                refine r_Mo_75 Th2i21 kv0 ?_
                intro x5i21 ex5i21
                have sx5i21 : 0 = x5i21 := (ex5i21.trans (by rw [ih2i21 v0 75, if_pos ⟨rfl, rfl⟩])).symm
                subst sx5i21
                refine qk_if (fun _ => ?_) (fun cc25 => absurd (by decide) cc25)
                unfold f_Mod_isDone_245
                refine w_Mo_e45 Th2i21 kv0 (wM _ (by omega) (by omega)) (zz_50e12ee6ef l0 o7 s0 s1) (zz_dd4c8ba099 l1 o7 s0 s1) ?_
                intro h1i26 Th1i26 ih1i26 ah1i26
                refine r_Mo_21 Th1i26 kv0 ?_
                refine r_Mo_e16 Th1i26 kv0 s0 s1 ?_
                intro x3i26 ex3i26
                have sx3i26 : (vA h (v0 + 16) v1) = x3i26 := (ex3i26.trans (by rw [ah1i26 (v0 + 16) v1 s0, if_neg (fun z => absurd z.1 (by omega)), ah2i21 (v0 + 16) v1, gr18_2 (v0 + 16) v1 s0 (by omega), ah3 (v0 + 16) v1])).symm
                subst sx3i26
                refine qk_if (fun cc27 => ?_) (fun cc27 => ?_)
                · skip
                  refine qk_some ?_
                  exact ⟨Th1i26, (by show ∀ a k, ¬ (a = v0 ∧ (k = 75 ∨ k = 54 ∨ k = 55 ∨ k = 56 ∨ k = 57)) → vI h1i26 a k = vI h a k; intro a k n0; rw [ih1i26, ih2i21, if_neg (by omega), gr18_1 a k (by omega), ih3, if_neg (by omega)]), (by show ∀ a j, 0 ≤ j → ¬ (a = v0 + 45 ∨ a = v0 + 36 ∨ a = v0 + 37 ∨ a = v0 + 38) → vA h1i26 a j = vA h a j; intro a j j0 n0; rw [ah1i26 a j j0, if_neg (by omega), ah2i21, gr18_2 a j j0 (by omega), ah3])⟩
                · skip
                  refine qk_some ?_
                  exact ⟨Th1i26, (by show ∀ a k, ¬ (a = v0 ∧ (k = 75 ∨ k = 54 ∨ k = 55 ∨ k = 56 ∨ k = 57)) → vI h1i26 a k = vI h a k; intro a k n0; rw [ih1i26, ih2i21, if_neg (by omega), gr18_1 a k (by omega), ih3, if_neg (by omega)]), (by show ∀ a j, 0 ≤ j → ¬ (a = v0 + 45 ∨ a = v0 + 36 ∨ a = v0 + 37 ∨ a = v0 + 38) → vA h1i26 a j = vA h a j; intro a j j0 n0; rw [ah1i26 a j j0, if_neg (by omega), ah2i21, gr18_2 a j j0 (by omega), ah3])⟩
            · skip
              unfold f_Mod_isDone_221
              refine qk_zB (by first | with_reducible assumption | grind | lia) ?_
              refine w_Mo_75 Tr18 kv0 (wM _ (by omega) (by omega)) ?_
              intro h2i28 Th2i28 ih2i28 ah2i28
              refine r_Mo_64 Th2i28 kv0 ?_
              refine qk_if (fun cc29 => ?_) (fun cc29 => ?_)
              · skip
                unfold f_Mod_isDone_245
                refine w_Mo_e45 Th2i28 kv0 (wM _ (by omega) (by omega)) (zz_50e12ee6ef l0 o7 s0 s1) (zz_dd4c8ba099 l1 o7 s0 s1) ?_
                intro h1i30 Th1i30 ih1i30 ah1i30
                refine r_Mo_21 Th1i30 kv0 ?_
                refine r_Mo_e16 Th1i30 kv0 s0 s1 ?_
                intro x3i30 ex3i30
                have sx3i30 : (vA h (v0 + 16) v1) = x3i30 := (ex3i30.trans (by rw [ah1i30 (v0 + 16) v1 s0, if_neg (fun z => absurd z.1 (by omega)), ah2i28 (v0 + 16) v1, gr18_2 (v0 + 16) v1 s0 (by omega), ah3 (v0 + 16) v1])).symm
                subst sx3i30
                refine qk_if (fun cc31 => ?_) (fun cc31 => ?_)
                · skip
                  refine qk_some ?_
                  exact ⟨Th1i30, (by show ∀ a k, ¬ (a = v0 ∧ (k = 75 ∨ k = 54 ∨ k = 55 ∨ k = 56 ∨ k = 57)) → vI h1i30 a k = vI h a k; intro a k n0; rw [ih1i30, ih2i28, if_neg (by omega), gr18_1 a k (by omega), ih3, if_neg (by omega)]), (by show ∀ a j, 0 ≤ j → ¬ (a = v0 + 45 ∨ a = v0 + 36 ∨ a = v0 + 37 ∨ a = v0 + 38) → vA h1i30 a j = vA h a j; intro a j j0 n0; rw [ah1i30 a j j0, if_neg (by omega), ah2i28, gr18_2 a j j0 (by omega), ah3])⟩
                · skip
                  refine qk_some ?_
                  exact ⟨Th1i30, (by show ∀ a k, ¬ (a = v0 ∧ (k = 75 ∨ k = 54 ∨ k = 55 ∨ k = 56 ∨ k = 57)) → vI h1i30 a k = vI h a k; intro a k n0; rw [ih1i30, ih2i28, if_neg (by omega), gr18_1 a k (by omega), ih3, if_neg (by omega)]), (by show ∀ a j, 0 ≤ j → ¬ (a = v0 + 45 ∨ a = v0 + 36 ∨ a = v0 + 37 ∨ a = v0 + 38) → vA h1i30 a j = vA h a j; intro a j j0 n0; rw [ah1i30 a j j0, if_neg (by omega), ah2i28, gr18_2 a j j0 (by omega), ah3])⟩
              · skip
                refine r_Mo_75 Th2i28 kv0 ?_
                intro x5i28 ex5i28
                have sx5i28 : 1 = x5i28 := (ex5i28.trans (by rw [ih2i28 v0 75, if_pos ⟨rfl, rfl⟩])).symm
                subst sx5i28
                refine qk_if (fun cc32 => absurd cc32 (by decide)) (fun _ => ?_)
                unfold f_Mod_isDone_245
                refine w_Mo_e45 Th2i28 kv0 (wM _ (by omega) (by omega)) (zz_50e12ee6ef l0 o7 s0 s1) (zz_dd4c8ba099 l1 o7 s0 s1) ?_
                intro h1i33 Th1i33 ih1i33 ah1i33
                refine r_Mo_21 Th1i33 kv0 ?_
                refine r_Mo_e16 Th1i33 kv0 s0 s1 ?_
                intro x3i33 ex3i33
                have sx3i33 : (vA h (v0 + 16) v1) = x3i33 := (ex3i33.trans (by rw [ah1i33 (v0 + 16) v1 s0, if_neg (fun z => absurd z.1 (by omega)), ah2i28 (v0 + 16) v1, gr18_2 (v0 + 16) v1 s0 (by omega), ah3 (v0 + 16) v1])).symm
                subst sx3i33
                refine qk_if (fun cc34 => ?_) (fun cc34 => ?_)
                · skip
                  refine qk_some ?_
                  exact ⟨Th1i33, (by show ∀ a k, ¬ (a = v0 ∧ (k = 75 ∨ k = 54 ∨ k = 55 ∨ k = 56 ∨ k = 57)) → vI h1i33 a k = vI h a k; intro a k n0; rw [ih1i33, ih2i28, if_neg (by omega), gr18_1 a k (by omega), ih3, if_neg (by omega)]), (by show ∀ a j, 0 ≤ j → ¬ (a = v0 + 45 ∨ a = v0 + 36 ∨ a = v0 + 37 ∨ a = v0 + 38) → vA h1i33 a j = vA h a j; intro a j j0 n0; rw [ah1i33 a j j0, if_neg (by omega), ah2i28, gr18_2 a j j0 (by omega), ah3])⟩
                · skip
                  refine qk_some ?_
                  exact ⟨Th1i33, (by show ∀ a k, ¬ (a = v0 ∧ (k = 75 ∨ k = 54 ∨ k = 55 ∨ k = 56 ∨ k = 57)) → vI h1i33 a k = vI h a k; intro a k n0; rw [ih1i33, ih2i28, if_neg (by omega), gr18_1 a k (by omega), ih3, if_neg (by omega)]), (by show ∀ a j, 0 ≤ j → ¬ (a = v0 + 45 ∨ a = v0 + 36 ∨ a = v0 + 37 ∨ a = v0 + 38) → vA h1i33 a j = vA h a j; intro a j j0 n0; rw [ah1i33 a j j0, if_neg (by omega), ah2i28, gr18_2 a j j0 (by omega), ah3])⟩
          · skip
            unfold f_Mod_isDone_221
            refine qk_zB (by first | with_reducible assumption | grind | lia) ?_
            refine w_Mo_75 Tr18 kv0 (wM _ (by omega) (by omega)) ?_
            intro h2i35 Th2i35 ih2i35 ah2i35
            refine r_Mo_64 Th2i35 kv0 ?_
            refine qk_if (fun cc36 => ?_) (fun cc36 => ?_)
            · skip
              unfold f_Mod_isDone_245
              refine w_Mo_e45 Th2i35 kv0 (wM _ (by omega) (by omega)) (zz_50e12ee6ef l0 o7 s0 s1) (zz_dd4c8ba099 l1 o7 s0 s1) ?_
              intro h1i37 Th1i37 ih1i37 ah1i37
              refine r_Mo_21 Th1i37 kv0 ?_
              refine r_Mo_e16 Th1i37 kv0 s0 s1 ?_
              intro x3i37 ex3i37
              have sx3i37 : (vA h (v0 + 16) v1) = x3i37 := (ex3i37.trans (by rw [ah1i37 (v0 + 16) v1 s0, if_neg (fun z => absurd z.1 (by omega)), ah2i35 (v0 + 16) v1, gr18_2 (v0 + 16) v1 s0 (by omega), ah3 (v0 + 16) v1])).symm
              subst sx3i37
              refine qk_if (fun cc38 => ?_) (fun cc38 => ?_)
              · skip
                refine qk_some ?_
                exact ⟨Th1i37, (by show ∀ a k, ¬ (a = v0 ∧ (k = 75 ∨ k = 54 ∨ k = 55 ∨ k = 56 ∨ k = 57)) → vI h1i37 a k = vI h a k; intro a k n0; rw [ih1i37, ih2i35, if_neg (by omega), gr18_1 a k (by omega), ih3, if_neg (by omega)]), (by show ∀ a j, 0 ≤ j → ¬ (a = v0 + 45 ∨ a = v0 + 36 ∨ a = v0 + 37 ∨ a = v0 + 38) → vA h1i37 a j = vA h a j; intro a j j0 n0; rw [ah1i37 a j j0, if_neg (by omega), ah2i35, gr18_2 a j j0 (by omega), ah3])⟩
              · skip
                refine qk_some ?_
                exact ⟨Th1i37, (by show ∀ a k, ¬ (a = v0 ∧ (k = 75 ∨ k = 54 ∨ k = 55 ∨ k = 56 ∨ k = 57)) → vI h1i37 a k = vI h a k; intro a k n0; rw [ih1i37, ih2i35, if_neg (by omega), gr18_1 a k (by omega), ih3, if_neg (by omega)]), (by show ∀ a j, 0 ≤ j → ¬ (a = v0 + 45 ∨ a = v0 + 36 ∨ a = v0 + 37 ∨ a = v0 + 38) → vA h1i37 a j = vA h a j; intro a j j0 n0; rw [ah1i37 a j j0, if_neg (by omega), ah2i35, gr18_2 a j j0 (by omega), ah3])⟩
            · skip
              refine r_Mo_75 Th2i35 kv0 ?_
              intro x5i35 ex5i35
              have sx5i35 : 0 = x5i35 := (ex5i35.trans (by rw [ih2i35 v0 75, if_pos ⟨rfl, rfl⟩])).symm
              subst sx5i35
              refine qk_if (fun _ => ?_) (fun cc39 => absurd (by decide) cc39)
              unfold f_Mod_isDone_245
              refine w_Mo_e45 Th2i35 kv0 (wM _ (by omega) (by omega)) (zz_50e12ee6ef l0 o7 s0 s1) (zz_dd4c8ba099 l1 o7 s0 s1) ?_
              intro h1i40 Th1i40 ih1i40 ah1i40
              refine r_Mo_21 Th1i40 kv0 ?_
              refine r_Mo_e16 Th1i40 kv0 s0 s1 ?_
              intro x3i40 ex3i40
              have sx3i40 : (vA h (v0 + 16) v1) = x3i40 := (ex3i40.trans (by rw [ah1i40 (v0 + 16) v1 s0, if_neg (fun z => absurd z.1 (by omega)), ah2i35 (v0 + 16) v1, gr18_2 (v0 + 16) v1 s0 (by omega), ah3 (v0 + 16) v1])).symm
              subst sx3i40
              refine qk_if (fun cc41 => ?_) (fun cc41 => ?_)
              · skip
                refine qk_some ?_
                exact ⟨Th1i40, (by show ∀ a k, ¬ (a = v0 ∧ (k = 75 ∨ k = 54 ∨ k = 55 ∨ k = 56 ∨ k = 57)) → vI h1i40 a k = vI h a k; intro a k n0; rw [ih1i40, ih2i35, if_neg (by omega), gr18_1 a k (by omega), ih3, if_neg (by omega)]), (by show ∀ a j, 0 ≤ j → ¬ (a = v0 + 45 ∨ a = v0 + 36 ∨ a = v0 + 37 ∨ a = v0 + 38) → vA h1i40 a j = vA h a j; intro a j j0 n0; rw [ah1i40 a j j0, if_neg (by omega), ah2i35, gr18_2 a j j0 (by omega), ah3])⟩
              · skip
                refine qk_some ?_
                exact ⟨Th1i40, (by show ∀ a k, ¬ (a = v0 ∧ (k = 75 ∨ k = 54 ∨ k = 55 ∨ k = 56 ∨ k = 57)) → vI h1i40 a k = vI h a k; intro a k n0; rw [ih1i40, ih2i35, if_neg (by omega), gr18_1 a k (by omega), ih3, if_neg (by omega)]), (by show ∀ a j, 0 ≤ j → ¬ (a = v0 + 45 ∨ a = v0 + 36 ∨ a = v0 + 37 ∨ a = v0 + 38) → vA h1i40 a j = vA h a j; intro a j j0 n0; rw [ah1i40 a j j0, if_neg (by omega), ah2i35, gr18_2 a j j0 (by omega), ah3])⟩
      · skip
        refine r_Mo_12 Th3 kv0 ?_
        refine r_Mo_e7 Th3 kv0 s0 s1 ?_
        intro x29 ex29 lx29 ux29
        have sx29 : (vA h (v0 + 7) v1) = x29 := (ex29.trans (by rw [ah3 (v0 + 7) v1])).symm
        subst sx29
        refine qk_if (fun cc42 => ?_) (fun cc42 => ?_)
        · skip
          refine r_Mo_70 Th3 kv0 ?_
          intro x37 ex37 lx37 ux37
          have sx37 : (vI h v0 70) = x37 := (ex37.trans (by rw [ih3 v0 70, if_neg (fun z => absurd z.2 (by decide))])).symm
          subst sx37
          refine r_Mo_13 Th3 kv0 ?_
          refine r_Mo_e8 Th3 kv0 s0 s1 ?_
          intro x39 ex39 lx39 ux39
          have sx39 : (vA h (v0 + 8) v1) = x39 := (ex39.trans (by rw [ah3 (v0 + 8) v1])).symm
          subst sx39
          refine qk_if (fun cc43 => ?_) (fun cc43 => ?_)
          · skip
            unfold f_Mod_isDone_135
            refine r_Mo_64 Th3 kv0 ?_
            refine qk_if (fun _ => ?_) (fun cc45 => absurd (by decide) cc45)
            unfold f_Mod_isDone_150
            refine w_Mo_e45 Th3 kv0 (wM _ (by omega) (by omega)) (zz_50e12ee6ef l0 o7 s0 s1) (zz_dd4c8ba099 l1 o7 s0 s1) ?_
            intro h1i46 Th1i46 ih1i46 ah1i46
            refine qk_zB (by first | with_reducible assumption | grind | lia) ?_
            refine w_Mo_75 Th1i46 kv0 (wM _ (by omega) (by omega)) ?_
            intro h3i46 Th3i46 ih3i46 ah3i46
            refine r_Mo_21 Th3i46 kv0 ?_
            refine r_Mo_e16 Th3i46 kv0 s0 s1 ?_
            intro x5i46 ex5i46
            have sx5i46 : (vA h (v0 + 16) v1) = x5i46 := (ex5i46.trans (by rw [ah3i46 (v0 + 16) v1, ah1i46 (v0 + 16) v1 s0, if_neg (fun z => absurd z.1 (by omega)), ah3 (v0 + 16) v1])).symm
            subst sx5i46
            refine qk_if (fun cc47 => ?_) (fun cc47 => ?_)
            · skip
              refine qk_some ?_
              exact ⟨Th3i46, (by show ∀ a k, ¬ (a = v0 ∧ (k = 75 ∨ k = 54 ∨ k = 55 ∨ k = 56 ∨ k = 57)) → vI h3i46 a k = vI h a k; intro a k n0; rw [ih3i46, if_neg (by omega), ih1i46, ih3, if_neg (by omega)]), (by show ∀ a j, 0 ≤ j → ¬ (a = v0 + 45 ∨ a = v0 + 36 ∨ a = v0 + 37 ∨ a = v0 + 38) → vA h3i46 a j = vA h a j; intro a j j0 n0; rw [ah3i46, ah1i46 a j j0, if_neg (by omega), ah3])⟩
            · skip
              refine qk_some ?_
              exact ⟨Th3i46, (by show ∀ a k, ¬ (a = v0 ∧ (k = 75 ∨ k = 54 ∨ k = 55 ∨ k = 56 ∨ k = 57)) → vI h3i46 a k = vI h a k; intro a k n0; rw [ih3i46, if_neg (by omega), ih1i46, ih3, if_neg (by omega)]), (by show ∀ a j, 0 ≤ j → ¬ (a = v0 + 45 ∨ a = v0 + 36 ∨ a = v0 + 37 ∨ a = v0 + 38) → vA h3i46 a j = vA h a j; intro a j j0 n0; rw [ah3i46, ah1i46 a j j0, if_neg (by omega), ah3])⟩
          · skip
            unfold f_Mod_isDone_135
            refine r_Mo_64 Th3 kv0 ?_
            refine qk_if (fun cc49 => absurd cc49 (by decide)) (fun _ => ?_)
            unfold f_Mod_isDone_150
            refine w_Mo_e45 Th3 kv0 (wM _ (by omega) (by omega)) (zz_50e12ee6ef l0 o7 s0 s1) (zz_dd4c8ba099 l1 o7 s0 s1) ?_
            intro h1i50 Th1i50 ih1i50 ah1i50
            refine qk_zB (by first | with_reducible assumption | grind | lia) ?_
            refine w_Mo_75 Th1i50 kv0 (wM _ (by omega) (by omega)) ?_
            intro h3i50 Th3i50 ih3i50 ah3i50
            refine r_Mo_21 Th3i50 kv0 ?_
            refine r_Mo_e16 Th3i50 kv0 s0 s1 ?_
            intro x5i50 ex5i50
            have sx5i50 : (vA h (v0 + 16) v1) = x5i50 := (ex5i50.trans (by rw [ah3i50 (v0 + 16) v1, ah1i50 (v0 + 16) v1 s0, if_neg (fun z => absurd z.1 (by omega)), ah3 (v0 + 16) v1])).symm
            subst sx5i50
            refine qk_if (fun cc51 => ?_) (fun cc51 => ?_)
            · skip
              refine qk_some ?_
              exact ⟨Th3i50, (by show ∀ a k, ¬ (a = v0 ∧ (k = 75 ∨ k = 54 ∨ k = 55 ∨ k = 56 ∨ k = 57)) → vI h3i50 a k = vI h a k; intro a k n0; rw [ih3i50, if_neg (by omega), ih1i50, ih3, if_neg (by omega)]), (by show ∀ a j, 0 ≤ j → ¬ (a = v0 + 45 ∨ a = v0 + 36 ∨ a = v0 + 37 ∨ a = v0 + 38) → vA h3i50 a j = vA h a j; intro a j j0 n0; rw [ah3i50, ah1i50 a j j0, if_neg (by omega), ah3])⟩
            · skip
              refine qk_some ?_
              exact ⟨Th3i50, (by show ∀ a k, ¬ (a = v0 ∧ (k = 75 ∨ k = 54 ∨ k = 55 ∨ k = 56 ∨ k = 57)) → vI h3i50 a k = vI h a k; intro a k n0; rw [ih3i50, if_neg (by omega), ih1i50, ih3, if_neg (by omega)]), (by show ∀ a j, 0 ≤ j → ¬ (a = v0 + 45 ∨ a = v0 + 36 ∨ a = v0 + 37 ∨ a = v0 + 38) → vA h3i50 a j = vA h a j; intro a j j0 n0; rw [ah3i50, ah1i50 a j j0, if_neg (by omega), ah3])⟩
        · skip
          refine r_Mo_12 Th3 kv0 ?_
          refine r_Mo_e7 Th3 kv0 s0 s1 ?_
          intro x32 ex32 lx32 ux32
          have sx32 : (vA h (v0 + 7) v1) = x32 := (ex32.trans (by rw [ah3 (v0 + 7) v1])).symm
          subst sx32
          refine r_Mo_13 Th3 kv0 ?_
          refine r_Mo_e8 Th3 kv0 s0 s1 ?_
          intro x34 ex34 lx34 ux34
          have sx34 : (vA h (v0 + 8) v1) = x34 := (ex34.trans (by rw [ah3 (v0 + 8) v1])).symm
          subst sx34
          refine r_Mo_o Th3 kv0 ?_
          have o52 := g_Mo_e7 T kv0 v1
          have o53 := g_Mo_e8 T kv0 v1
          refine c_Mod_fitsAddress (v0 := v0) (v1 := (vA h (v0 + 7) v1)) (v2 := (vA h (v0 + 8) v1)) Th3 kv0 wM (by intro n1 n2; exact q_PM_run (P2 (zz_e5bae0d7c5 o52 cc3 cc42 n2)) (g_Mo_e8 T kv0 v1).1 (fun a j j0 na => by rw [ah3])) lx34 (zz_5ff11b7469 o53) hN ?_
          intro yr36 hr36 Tr36 gr36_0 gr36_1 gr36_2
          dsimp only
          unfold f_Mod_isDone_135
          refine r_Mo_64 Tr36 kv0 ?_
          refine qk_if (fun cc55 => ?_) (fun cc55 => ?_)
          · skip
            unfold f_Mod_isDone_150
            refine w_Mo_e45 Tr36 kv0 (wM _ (by omega) (by omega)) (zz_50e12ee6ef l0 o7 s0 s1) (zz_dd4c8ba099 l1 o7 s0 s1) ?_
            intro h1i56 Th1i56 ih1i56 ah1i56
            refine qk_zB (by first | with_reducible assumption | grind | lia) ?_
            refine w_Mo_75 Th1i56 kv0 (wM _ (by omega) (by omega)) ?_
            intro h3i56 Th3i56 ih3i56 ah3i56
            refine r_Mo_21 Th3i56 kv0 ?_
            refine r_Mo_e16 Th3i56 kv0 s0 s1 ?_
            intro x5i56 ex5i56
            have sx5i56 : (vA h (v0 + 16) v1) = x5i56 := (ex5i56.trans (by rw [ah3i56 (v0 + 16) v1, ah1i56 (v0 + 16) v1 s0, if_neg (fun z => absurd z.1 (by omega)), gr36_2 (v0 + 16) v1 s0 (by omega), ah3 (v0 + 16) v1])).symm
            subst sx5i56
            refine qk_if (fun cc57 => ?_) (fun cc57 => ?_)
            · skip
              refine qk_some ?_
              exact ⟨Th3i56, (by show ∀ a k, ¬ (a = v0 ∧ (k = 75 ∨ k = 54 ∨ k = 55 ∨ k = 56 ∨ k = 57)) → vI h3i56 a k = vI h a k; intro a k n0; rw [ih3i56, if_neg (by omega), ih1i56, gr36_1 a k (by omega), ih3, if_neg (by omega)]), (by show ∀ a j, 0 ≤ j → ¬ (a = v0 + 45 ∨ a = v0 + 36 ∨ a = v0 + 37 ∨ a = v0 + 38) → vA h3i56 a j = vA h a j; intro a j j0 n0; rw [ah3i56, ah1i56 a j j0, if_neg (by omega), gr36_2 a j j0 (by omega), ah3])⟩
            · skip
              refine qk_some ?_
              exact ⟨Th3i56, (by show ∀ a k, ¬ (a = v0 ∧ (k = 75 ∨ k = 54 ∨ k = 55 ∨ k = 56 ∨ k = 57)) → vI h3i56 a k = vI h a k; intro a k n0; rw [ih3i56, if_neg (by omega), ih1i56, gr36_1 a k (by omega), ih3, if_neg (by omega)]), (by show ∀ a j, 0 ≤ j → ¬ (a = v0 + 45 ∨ a = v0 + 36 ∨ a = v0 + 37 ∨ a = v0 + 38) → vA h3i56 a j = vA h a j; intro a j j0 n0; rw [ah3i56, ah1i56 a j j0, if_neg (by omega), gr36_2 a j j0 (by omega), ah3])⟩
          · skip
            unfold f_Mod_isDone_150
            refine w_Mo_e45 Tr36 kv0 (wM _ (by omega) (by omega)) (zz_50e12ee6ef l0 o7 s0 s1) (zz_dd4c8ba099 l1 o7 s0 s1) ?_
            intro h1i58 Th1i58 ih1i58 ah1i58
            refine qk_zB (by first | with_reducible assumption | grind | lia) ?_
            refine w_Mo_75 Th1i58 kv0 (wM _ (by omega) (by omega)) ?_
            intro h3i58 Th3i58 ih3i58 ah3i58
            refine r_Mo_21 Th3i58 kv0 ?_
            refine r_Mo_e16 Th3i58 kv0 s0 s1 ?_
            intro x5i58 ex5i58
            have sx5i58 : (vA h (v0 + 16) v1) = x5i58 := (ex5i58.trans (by rw [ah3i58 (v0 + 16) v1, ah1i58 (v0 + 16) v1 s0, if_neg (fun z => absurd z.1 (by omega)), gr36_2 (v0 + 16) v1 s0 (by omega), ah3 (v0 + 16) v1])).symm
            subst sx5i58
            refine qk_if (fun cc59 => ?_) (fun cc59 => ?_)
            · skip
              refine qk_some ?_
              exact ⟨Th3i58, (by show ∀ a k, ¬ (a = v0 ∧ (k = 75 ∨ k = 54 ∨ k = 55 ∨ k = 56 ∨ k = 57)) → vI h3i58 a k = vI h a k; intro a k n0; rw [ih3i58, if_neg (by omega), ih1i58, gr36_1 a k (by omega), ih3, if_neg (by omega)]), (by show ∀ a j, 0 ≤ j → ¬ (a = v0 + 45 ∨ a = v0 + 36 ∨ a = v0 + 37 ∨ a = v0 + 38) → vA h3i58 a j = vA h a j; intro a j j0 n0; rw [ah3i58, ah1i58 a j j0, if_neg (by omega), gr36_2 a j j0 (by omega), ah3])⟩
            · skip
              refine qk_some ?_
              exact ⟨Th3i58, (by show ∀ a k, ¬ (a = v0 ∧ (k = 75 ∨ k = 54 ∨ k = 55 ∨ k = 56 ∨ k = 57)) → vI h3i58 a k = vI h a k; intro a k n0; rw [ih3i58, if_neg (by omega), ih1i58, gr36_1 a k (by omega), ih3, if_neg (by omega)]), (by show ∀ a j, 0 ≤ j → ¬ (a = v0 + 45 ∨ a = v0 + 36 ∨ a = v0 + 37 ∨ a = v0 + 38) → vA h3i58 a j = vA h a j; intro a j j0 n0; rw [ah3i58, ah1i58 a j j0, if_neg (by omega), gr36_2 a j j0 (by omega), ah3])⟩
theorem c_Mod_isDone {L : q_L} {W : Nat → Prop} {h0 : z_H} {π : Nat → Nat → Option Nat} {N : Nat} {h : z_H} {v0 : Nat} {v1 : Int32} {β : Type} {f : Int32 × z_H → Option β} {Q : β → Prop} (T : q_U L W h0 π h) (kv0 : q_M L π v0) (wM : ∀ a, v0 ≤ a → a < v0 + 46 → W a) (s0 : 0 ≤ v1) (s1 : v1 < 80) (l0 : 40 * vI h v0 7 ≤ v1) (l1 : v1 < 40 * vI h v0 7 + 40) (P1 : vA h (v0 + 5) v1 = 3 → q_PM h v0 (vA h (v0 + 6) v1)) (P2 : vA h (v0 + 7) v1 = 3 → q_PM h v0 (vA h (v0 + 8) v1)) (hN : 100000 ≤ N) (H : ∀ y h', q_U L W h0 π h' → (∀ a k, ¬ (a = v0 ∧ (k = 75 ∨ k = 54 ∨ k = 55 ∨ k = 56 ∨ k = 57)) → vI h' a k = vI h a k) → (∀ a j, 0 ≤ j → ¬ (a = v0 + 45 ∨ a = v0 + 36 ∨ a = v0 + 37 ∨ a = v0 + 38) → vA h' a j = vA h a j) → qk (f (y, h')) Q) : qk (z_b (f_Mod_isDone N v0 v1 h) f) Q := by
  refine qk_b (p_Mod_isDone T kv0 wM s0 s1 l0 l1 P1 P2 hN) ?_
  rintro ⟨y, hz⟩ ⟨Tz, g0, g1⟩
  exact H y hz Tz g0 g1
