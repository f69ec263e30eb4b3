theorem zz_bba7390a1b {a1 a2 : Int32} (h0 : (a1 = 0) ↔ ((a2 < 10) ∨ (21 < a2))) (h1 : ¬ (a1 = 0)) (h2 : ¬ (a2 ≤ 2)) (h3 : (a1 = 0) ∨ (a1 = 1)) : 0 ≤ a2 - 10 := by simp only [Int32.le_iff_toInt_le, Int32.lt_iff_toInt_lt, ← Int32.toInt_inj, ne_eq] at *; have b0 := Int32.le_toInt a2; have c0 := Int32.toInt_lt a2; have l0 : (0 : Int32).toInt = 0 := (by decide); have l1 : (10 : Int32).toInt = 10 := (by decide); have l2 : (21 : Int32).toInt = 21 := (by decide); have l3 : (2 : Int32).toInt = 2 := (by decide); have l4 : (1 : Int32).toInt = 1 := (by decide); have s0 : (a2 - 10).toInt = a2.toInt - 10 := q_tS (by decide) (by omega) (by omega); omega
theorem zz_7a2632d75d {a1 a2 a3 : Int32} (h0 : ¬ (a1 ≤ a2 - 10)) (h1 : (0 ≤ a1) ∧ (a1 ≤ 12)) (h2 : ¬ (a2 ≤ 2)) (h3 : (a3 = 0) ↔ ((a2 < 10) ∨ (21 < a2))) (h4 : (a3 = 0) ∨ (a3 = 1)) (h5 : ¬ (a3 = 0)) : a2 - 10 < 12 := by simp only [Int32.le_iff_toInt_le, Int32.lt_iff_toInt_lt, ← Int32.toInt_inj, ne_eq] at *; have b0 := Int32.le_toInt a2; have c0 := Int32.toInt_lt a2; have l0 : (10 : Int32).toInt = 10 := (by decide); have l1 : (0 : Int32).toInt = 0 := (by decide); have l2 : (12 : Int32).toInt = 12 := (by decide); have l3 : (2 : Int32).toInt = 2 := (by decide); have l4 : (21 : Int32).toInt = 21 := (by decide); have l5 : (1 : Int32).toInt = 1 := (by decide); have s0 : (a2 - 10).toInt = a2.toInt - 10 := q_tS (by decide) (by omega) (by omega); omega
theorem zz_aaf32eac19 {a1 a2 : Int32} (h0 : (a1 = 0) ↔ ((a2 < 0) ∨ (2 < a2))) (h1 : ¬ (a2 ≤ 2)) (h2 : ¬ (a1 = 0)) (h3 : (a1 = 0) ∨ (a1 = 1)) : 0 ≤ a2 - 10 := by simp only [Int32.le_iff_toInt_le, Int32.lt_iff_toInt_lt, ← Int32.toInt_inj, ne_eq] at *; have b0 := Int32.le_toInt a2; have c0 := Int32.toInt_lt a2; have l0 : (0 : Int32).toInt = 0 := (by decide); have l1 : (2 : Int32).toInt = 2 := (by decide); have l2 : (1 : Int32).toInt = 1 := (by decide); have l3 : (10 : Int32).toInt = 10 := (by decide); have s0 : (a2 - 10).toInt = a2.toInt - 10 := q_tS (by decide) (by omega) (by omega); omega
theorem zz_c7ffebd370 {a1 a2 a3 : Int32} (h0 : ¬ (a1 ≤ a2 - 10)) (h1 : (0 ≤ a1) ∧ (a1 ≤ 12)) (h2 : ¬ (a2 ≤ 2)) (h3 : (a3 = 0) ↔ ((a2 < 0) ∨ (2 < a2))) (h4 : (a3 = 0) ∨ (a3 = 1)) (h5 : ¬ (a3 = 0)) : a2 - 10 < 12 := by simp only [Int32.le_iff_toInt_le, Int32.lt_iff_toInt_lt, ← Int32.toInt_inj, ne_eq] at *; have b0 := Int32.le_toInt a2; have c0 := Int32.toInt_lt a2; have l0 : (10 : Int32).toInt = 10 := (by decide); have l1 : (0 : Int32).toInt = 0 := (by decide); have l2 : (12 : Int32).toInt = 12 := (by decide); have l3 : (2 : Int32).toInt = 2 := (by decide); have l4 : (1 : Int32).toInt = 1 := (by decide); have s0 : (a2 - 10).toInt = a2.toInt - 10 := q_tS (by decide) (by omega) (by omega); omega
set_option maxHeartbeats 1000000 in
theorem p_Mod_count {L : q_L} {W : Nat → Prop} {h0 : z_H} {π : Nat → Nat → Option Nat} {N : Nat} {h : z_H} {v0 : Nat} {v1 : Int32} (T : q_U L W h0 π h) (kv0 : q_M L π v0) (wM : ∀ a, v0 ≤ a → a < v0 + 46 → W a) : qk (f_Mod_count N v0 v1 h) (fun r => q_U L W h0 π r.2 ∧ (∀ a k, ¬ (a = v0 ∧ (k = 6)) → vI r.2 a k = vI h a k) ∧ (∀ a j, vA r.2 a j = vA h a j)) := by
  unfold f_Mod_count
  refine c_Mod_in (v0 := v1) (v1 := 0) (v2 := 2) T ?_
  intro yr1 gr1_0 gr1_1
  dsimp only
  refine qk_if (fun cc1 => ?_) (fun cc1 => ?_)
  · skip
    refine c_Mod_in (v0 := v1) (v1 := 10) (v2 := 21) T ?_
    intro yr3 gr3_0 gr3_1
    dsimp only
    refine qk_if (fun cc2 => ?_) (fun cc2 => ?_)
    · skip
      refine r_Mo_o T kv0 ?_
      refine c_Mod_fail (v0 := v0) (v1 := 1) T kv0 wM ?_
      intro yr6 hr6 Tr6 gr6_0 gr6_1 gr6_2
      dsimp only
      refine qk_some ?_
      exact ⟨Tr6, (by show ∀ a k, ¬ (a = v0 ∧ (k = 6)) → vI hr6 a k = vI h a k; intro a k n0; rw [gr6_1 a k, if_neg (by omega)]), (by show ∀ a j, vA hr6 a j = vA h a j; intro a j ; rw [gr6_2 a j])⟩
    · skip
      unfold f_Mod_count_26
      refine w_Mo_6 T kv0 (wM _ (by omega) (by omega)) ?_
      intro h1i3 Th1i3 ih1i3 ah1i3
      refine qk_if (fun cc4 => ?_) (fun cc4 => ?_)
      · skip
        refine qk_if (fun cc5 => ?_) (fun cc5 => ?_)
        · skip
          refine r_Mo_3 Th1i3 kv0 ?_
          intro x11i3 ex11i3 lx11i3 ux11i3
          have sx11i3 : (vI h v0 3) = x11i3 := (ex11i3.trans (by rw [ih1i3 v0 3, if_neg (fun z => absurd z.2 (by decide))])).symm
          subst sx11i3
          refine qk_some ?_
          exact ⟨Th1i3, (by show ∀ a k, ¬ (a = v0 ∧ (k = 6)) → vI h1i3 a k = vI h a k; intro a k n0; rw [ih1i3, if_neg (by omega)]), (by show ∀ a j, vA h1i3 a j = vA h a j; intro a j ; rw [ah1i3])⟩
        · skip
          refine qk_if (fun cc6 => ?_) (fun cc6 => ?_)
          · skip
            refine r_Mo_4 Th1i3 kv0 ?_
            intro x10i3 ex10i3 lx10i3 ux10i3
            have sx10i3 : (vI h v0 4) = x10i3 := (ex10i3.trans (by rw [ih1i3 v0 4, if_neg (fun z => absurd z.2 (by decide))])).symm
            subst sx10i3
            refine qk_some ?_
            exact ⟨Th1i3, (by show ∀ a k, ¬ (a = v0 ∧ (k = 6)) → vI h1i3 a k = vI h a k; intro a k n0; rw [ih1i3, if_neg (by omega)]), (by show ∀ a j, vA h1i3 a j = vA h a j; intro a j ; rw [ah1i3])⟩
          · skip
            refine r_Mo_8 Th1i3 kv0 ?_
            intro x5i3 ex5i3
            have sx5i3 : (vI h v0 8) = x5i3 := (ex5i3.trans (by rw [ih1i3 v0 8, if_neg (fun z => absurd z.2 (by decide))])).symm
            subst sx5i3
            refine qk_if (fun cc7 => ?_) (fun cc7 => ?_)
            · skip
              refine qk_some ?_
              exact ⟨Th1i3, (by show ∀ a k, ¬ (a = v0 ∧ (k = 6)) → vI h1i3 a k = vI h a k; intro a k n0; rw [ih1i3, if_neg (by omega)]), (by show ∀ a j, vA h1i3 a j = vA h a j; intro a j ; rw [ah1i3])⟩
            · skip
              refine r_Mo_24 Th1i3 kv0 ?_
              refine r_Mo_7 Th1i3 kv0 ?_
              intro x8i3 ex8i3 lx8i3 ux8i3
              have sx8i3 : (vI h v0 7) = x8i3 := (ex8i3.trans (by rw [ih1i3 v0 7, if_neg (fun z => absurd z.2 (by decide))])).symm
              subst sx8i3
              have o8 := g_Mo_7 T kv0
              refine r_Mo_e19 Th1i3 kv0 lx8i3 (zz_e1f2e57bfa o8) ?_
              intro x9i3 ex9i3 lx9i3 ux9i3
              have sx9i3 : (vA h (v0 + 19) (vI h v0 7)) = x9i3 := (ex9i3.trans (by rw [ah1i3 (v0 + 19) (vI h v0 7)])).symm
              subst sx9i3
              refine qk_some ?_
              exact ⟨Th1i3, (by show ∀ a k, ¬ (a = v0 ∧ (k = 6)) → vI h1i3 a k = vI h a k; intro a k n0; rw [ih1i3, if_neg (by omega)]), (by show ∀ a j, vA h1i3 a j = vA h a j; intro a j ; rw [ah1i3])⟩
      · skip
        refine r_Mo_4 Th1i3 kv0 ?_
        intro x12i3 ex12i3 lx12i3 ux12i3
        have sx12i3 : (vI h v0 4) = x12i3 := (ex12i3.trans (by rw [ih1i3 v0 4, if_neg (fun z => absurd z.2 (by decide))])).symm
        subst sx12i3
        refine qk_if (fun cc9 => ?_) (fun cc9 => ?_)
        · skip
          refine qk_some ?_
          exact ⟨Th1i3, (by show ∀ a k, ¬ (a = v0 ∧ (k = 6)) → vI h1i3 a k = vI h a k; intro a k n0; rw [ih1i3, if_neg (by omega)]), (by show ∀ a j, vA h1i3 a j = vA h a j; intro a j ; rw [ah1i3])⟩
        · skip
          refine r_Mo_1 Th1i3 kv0 ?_
          have o10 := g_Mo_4 T kv0
          refine r_Mo_e2 Th1i3 kv0 (zz_bba7390a1b gr3_1 cc2 cc4 gr3_0) (zz_7a2632d75d cc9 o10 cc4 gr3_1 gr3_0 cc2) ?_
          intro x15i3 ex15i3 lx15i3 ux15i3
          have sx15i3 : (vA h (v0 + 2) (v1 - 10)) = x15i3 := (ex15i3.trans (by rw [ah1i3 (v0 + 2) (v1 - 10)])).symm
          subst sx15i3
          refine qk_some ?_
          exact ⟨Th1i3, (by show ∀ a k, ¬ (a = v0 ∧ (k = 6)) → vI h1i3 a k = vI h a k; intro a k n0; rw [ih1i3, if_neg (by omega)]), (by show ∀ a j, vA h1i3 a j = vA h a j; intro a j ; rw [ah1i3])⟩
  · skip
    unfold f_Mod_count_26
    refine w_Mo_6 T kv0 (wM _ (by omega) (by omega)) ?_
    intro h1i11 Th1i11 ih1i11 ah1i11
    refine qk_if (fun cc12 => ?_) (fun cc12 => ?_)
    · skip
      refine qk_if (fun cc13 => ?_) (fun cc13 => ?_)
      · skip
        refine r_Mo_3 Th1i11 kv0 ?_
        intro x11i11 ex11i11 lx11i11 ux11i11
        have sx11i11 : (vI h v0 3) = x11i11 := (ex11i11.trans (by rw [ih1i11 v0 3, if_neg (fun z => absurd z.2 (by decide))])).symm
        subst sx11i11
        refine qk_some ?_
        exact ⟨Th1i11, (by show ∀ a k, ¬ (a = v0 ∧ (k = 6)) → vI h1i11 a k = vI h a k; intro a k n0; rw [ih1i11, if_neg (by omega)]), (by show ∀ a j, vA h1i11 a j = vA h a j; intro a j ; rw [ah1i11])⟩
      · skip
        refine qk_if (fun cc14 => ?_) (fun cc14 => ?_)
        · skip
          refine r_Mo_4 Th1i11 kv0 ?_
          intro x10i11 ex10i11 lx10i11 ux10i11
          have sx10i11 : (vI h v0 4) = x10i11 := (ex10i11.trans (by rw [ih1i11 v0 4, if_neg (fun z => absurd z.2 (by decide))])).symm
          subst sx10i11
          refine qk_some ?_
          exact ⟨Th1i11, (by show ∀ a k, ¬ (a = v0 ∧ (k = 6)) → vI h1i11 a k = vI h a k; intro a k n0; rw [ih1i11, if_neg (by omega)]), (by show ∀ a j, vA h1i11 a j = vA h a j; intro a j ; rw [ah1i11])⟩
        · skip
          refine r_Mo_8 Th1i11 kv0 ?_
          intro x5i11 ex5i11
          have sx5i11 : (vI h v0 8) = x5i11 := (ex5i11.trans (by rw [ih1i11 v0 8, if_neg (fun z => absurd z.2 (by decide))])).symm
          subst sx5i11
          refine qk_if (fun cc15 => ?_) (fun cc15 => ?_)
          · skip
            refine qk_some ?_
            exact ⟨Th1i11, (by show ∀ a k, ¬ (a = v0 ∧ (k = 6)) → vI h1i11 a k = vI h a k; intro a k n0; rw [ih1i11, if_neg (by omega)]), (by show ∀ a j, vA h1i11 a j = vA h a j; intro a j ; rw [ah1i11])⟩
          · skip
            refine r_Mo_24 Th1i11 kv0 ?_
            refine r_Mo_7 Th1i11 kv0 ?_
            intro x8i11 ex8i11 lx8i11 ux8i11
            have sx8i11 : (vI h v0 7) = x8i11 := (ex8i11.trans (by rw [ih1i11 v0 7, if_neg (fun z => absurd z.2 (by decide))])).symm
            subst sx8i11
            have o16 := g_Mo_7 T kv0
            refine r_Mo_e19 Th1i11 kv0 lx8i11 (zz_e1f2e57bfa o16) ?_
            intro x9i11 ex9i11 lx9i11 ux9i11
            have sx9i11 : (vA h (v0 + 19) (vI h v0 7)) = x9i11 := (ex9i11.trans (by rw [ah1i11 (v0 + 19) (vI h v0 7)])).symm
            subst sx9i11
            refine qk_some ?_
            exact ⟨Th1i11, (by show ∀ a k, ¬ (a = v0 ∧ (k = 6)) → vI h1i11 a k = vI h a k; intro a k n0; rw [ih1i11, if_neg (by omega)]), (by show ∀ a j, vA h1i11 a j = vA h a j; intro a j ; rw [ah1i11])⟩
    · skip
      refine r_Mo_4 Th1i11 kv0 ?_
      intro x12i11 ex12i11 lx12i11 ux12i11
      have sx12i11 : (vI h v0 4) = x12i11 := (ex12i11.trans (by rw [ih1i11 v0 4, if_neg (fun z => absurd z.2 (by decide))])).symm
      subst sx12i11
      refine qk_if (fun cc17 => ?_) (fun cc17 => ?_)
      · skip
        refine qk_some ?_
        exact ⟨Th1i11, (by show ∀ a k, ¬ (a = v0 ∧ (k = 6)) → vI h1i11 a k = vI h a k; intro a k n0; rw [ih1i11, if_neg (by omega)]), (by show ∀ a j, vA h1i11 a j = vA h a j; intro a j ; rw [ah1i11])⟩
      · skip
        refine r_Mo_1 Th1i11 kv0 ?_
        have o18 := g_Mo_4 T kv0
        refine r_Mo_e2 Th1i11 kv0 (zz_aaf32eac19 gr1_1 cc12 cc1 gr1_0) (zz_c7ffebd370 cc17 o18 cc12 gr1_1 gr1_0 cc1) ?_
        intro x15i11 ex15i11 lx15i11 ux15i11
        have sx15i11 : (vA h (v0 + 2) (v1 - 10)) = x15i11 := (ex15i11.trans (by rw [ah1i11 (v0 + 2) (v1 - 10)])).symm
        subst sx15i11
        refine qk_some ?_
        exact ⟨Th1i11, (by show ∀ a k, ¬ (a = v0 ∧ (k = 6)) → vI h1i11 a k = vI h a k; intro a k n0; rw [ih1i11, if_neg (by omega)]), (by show ∀ a j, vA h1i11 a j = vA h a j; intro a j ; rw [ah1i11])⟩
theorem c_Mod_count {L : q_L} {W : Nat → Prop} {h0 : z_H} {π : Nat → Nat → Option Nat} {N : Nat} {h : z_H} {v0 : Nat} {v1 : Int32} {β : Type} {f : Int32 × z_H → Option β} {Q : β → Prop} (T : q_U L W h0 π h) (kv0 : q_M L π v0) (wM : ∀ a, v0 ≤ a → a < v0 + 46 → W a) (H : ∀ y h', q_U L W h0 π h' → (∀ a k, ¬ (a = v0 ∧ (k = 6)) → vI h' a k = vI h a k) → (∀ a j, vA h' a j = vA h a j) → qk (f (y, h')) Q) : qk (z_b (f_Mod_count N v0 v1 h) f) Q := by
  refine qk_b (p_Mod_count T kv0 wM) ?_
  rintro ⟨y, hz⟩ ⟨Tz, g0, g1⟩
  exact H y hz Tz g0 g1
