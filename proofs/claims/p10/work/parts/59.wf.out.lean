theorem zz_08e85bbe4e {a1 : Int32} (h0 : (1 : Int32) ≤ 0) : 0 ≤ a1 := by lia
theorem zz_1a0c1d070a {a1 : Int32} (h0 : (1 : Int32) ≤ 0) : a1 < 600 := by lia
theorem zz_7ebf71acc5 {a1 a2 a3 : Int32} (h0 : (a1 = 0) ↔ ((a2 < 0) ∨ (a3 - 1 < a2))) (h1 : ¬ (a1 = 0)) (h2 : (0 ≤ a3) ∧ (a3 ≤ 600)) : 0 ≤ a2 := by simp only [Int32.le_iff_toInt_le, Int32.lt_iff_toInt_lt, ← Int32.toInt_inj, ne_eq] at *; have b0 := Int32.le_toInt a3; have c0 := Int32.toInt_lt a3; have l0 : (0 : Int32).toInt = 0 := (by decide); have l1 : (1 : Int32).toInt = 1 := (by decide); have l2 : (600 : Int32).toInt = 600 := (by decide); have s0 : (a3 - 1).toInt = a3.toInt - 1 := q_tS (by decide) (by omega) (by omega); omega
theorem zz_39382d198e {a1 a2 a3 : Int32} (h0 : (a1 = 0) ↔ ((a2 < 0) ∨ (a3 - 1 < a2))) (h1 : (0 ≤ a3) ∧ (a3 ≤ 600)) (h2 : ¬ (a1 = 0)) : a2 < 600 := by simp only [Int32.le_iff_toInt_le, Int32.lt_iff_toInt_lt, ← Int32.toInt_inj, ne_eq] at *; have b0 := Int32.le_toInt a3; have c0 := Int32.toInt_lt a3; have l0 : (0 : Int32).toInt = 0 := (by decide); have l1 : (1 : Int32).toInt = 1 := (by decide); have l2 : (600 : Int32).toInt = 600 := (by decide); have s0 : (a3 - 1).toInt = a3.toInt - 1 := q_tS (by decide) (by omega) (by omega); omega
set_option maxHeartbeats 1000000 in
theorem p_Mod_out {L : q_L} {W : Nat → Prop} {h0 : z_H} {π : Nat → Nat → Option Nat} {N : Nat} {h : z_H} {v0 : Nat} {v1 : Int32} (T : q_U L W h0 π h) (kv0 : q_M L π v0) (wM : ∀ a, v0 ≤ a → a < v0 + 46 → W a) : qk (f_Mod_out N v0 v1 h) (fun r => q_U L W h0 π r.2 ∧ (∀ a k, ¬ (a = v0 ∧ (k = 6)) → vI r.2 a k = vI h a k) ∧ (∀ a j, vA r.2 a j = vA h a j)) := by
  unfold f_Mod_out
  refine r_Mo_69 T kv0 ?_
  intro x1 ex1 lx1 ux1
  subst ex1
  refine c_Mod_in (v0 := v1) (v1 := 0) (v2 := ((vI h v0 69) - 1)) T ?_
  intro yr2 gr2_0 gr2_1
  dsimp only
  refine qk_if (fun cc1 => ?_) (fun cc1 => ?_)
  · skip
    unfold f_Mod_out_20
    refine w_Mo_6 T kv0 (wM _ (by omega) (by omega)) ?_
    intro h1i2 Th1i2 ih1i2 ah1i2
    refine r_Mo_6 Th1i2 kv0 ?_
    intro x2i2 ex2i2
    have sx2i2 : 1 = x2i2 := (ex2i2.trans (by rw [ih1i2 v0 6, if_pos ⟨rfl, rfl⟩])).symm
    subst sx2i2
    refine qk_if (fun cc3 => ?_) (fun cc3 => ?_)
    · skip
      refine r_Mo_62 Th1i2 kv0 ?_
      refine r_Mo_e43 Th1i2 kv0 (zz_08e85bbe4e cc3) (zz_1a0c1d070a cc3) ?_
      intro x5i2 ex5i2
      have sx5i2 : (vA h (v0 + 43) v1) = x5i2 := (ex5i2.trans (by rw [ah1i2 (v0 + 43) v1])).symm
      subst sx5i2
      refine qk_some ?_
      exact ⟨Th1i2, (by show ∀ a k, ¬ (a = v0 ∧ (k = 6)) → vI h1i2 a k = vI h a k; intro a k n0; rw [ih1i2, if_neg (by omega)]), (by show ∀ a j, vA h1i2 a j = vA h a j; intro a j ; rw [ah1i2])⟩
    · skip
      refine qk_some ?_
      exact ⟨Th1i2, (by show ∀ a k, ¬ (a = v0 ∧ (k = 6)) → vI h1i2 a k = vI h a k; intro a k n0; rw [ih1i2, if_neg (by omega)]), (by show ∀ a j, vA h1i2 a j = vA h a j; intro a j ; rw [ah1i2])⟩
  · skip
    unfold f_Mod_out_20
    refine w_Mo_6 T kv0 (wM _ (by omega) (by omega)) ?_
    intro h1i4 Th1i4 ih1i4 ah1i4
    refine r_Mo_6 Th1i4 kv0 ?_
    intro x2i4 ex2i4
    have sx2i4 : 0 = x2i4 := (ex2i4.trans (by rw [ih1i4 v0 6, if_pos ⟨rfl, rfl⟩])).symm
    subst sx2i4
    refine qk_if (fun cc5 => ?_) (fun cc5 => ?_)
    · skip
      refine r_Mo_62 Th1i4 kv0 ?_
      have o6 := g_Mo_69 T kv0
      refine r_Mo_e43 Th1i4 kv0 (zz_7ebf71acc5 gr2_1 cc1 o6) (zz_39382d198e gr2_1 o6 cc1) ?_
      intro x5i4 ex5i4
      have sx5i4 : (vA h (v0 + 43) v1) = x5i4 := (ex5i4.trans (by rw [ah1i4 (v0 + 43) v1])).symm
      subst sx5i4
      refine qk_some ?_
      exact ⟨Th1i4, (by show ∀ a k, ¬ (a = v0 ∧ (k = 6)) → vI h1i4 a k = vI h a k; intro a k n0; rw [ih1i4, if_neg (by omega)]), (by show ∀ a j, vA h1i4 a j = vA h a j; intro a j ; rw [ah1i4])⟩
    · skip
      refine qk_some ?_
      exact ⟨Th1i4, (by show ∀ a k, ¬ (a = v0 ∧ (k = 6)) → vI h1i4 a k = vI h a k; intro a k n0; rw [ih1i4, if_neg (by omega)]), (by show ∀ a j, vA h1i4 a j = vA h a j; intro a j ; rw [ah1i4])⟩
theorem c_Mod_out {L : q_L} {W : Nat → Prop} {h0 : z_H} {π : Nat → Nat → Option Nat} {N : Nat} {h : z_H} {v0 : Nat} {v1 : Int32} {β : Type} {f : Int32 × z_H → Option β} {Q : β → Prop} (T : q_U L W h0 π h) (kv0 : q_M L π v0) (wM : ∀ a, v0 ≤ a → a < v0 + 46 → W a) (H : ∀ y h', q_U L W h0 π h' → (∀ a k, ¬ (a = v0 ∧ (k = 6)) → vI h' a k = vI h a k) → (∀ a j, vA h' a j = vA h a j) → qk (f (y, h')) Q) : qk (z_b (f_Mod_out N v0 v1 h) f) Q := by
  refine qk_b (p_Mod_out T kv0 wM) ?_
  rintro ⟨y, hz⟩ ⟨Tz, g0, g1⟩
  exact H y hz Tz g0 g1
