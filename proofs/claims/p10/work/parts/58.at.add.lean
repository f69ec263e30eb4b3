theorem zz_e2d9c32c1e {a1 : Int32} (h0 : ¬ (390 ≤ a1)) (h1 : (0 ≤ a1) ∧ (a1 ≤ 400)) : a1 + 1 ≤ 400 := by simp only [Int32.le_iff_toInt_le, Int32.lt_iff_toInt_lt, ← Int32.toInt_inj, ne_eq] at *; have b0 := Int32.le_toInt a1; have c0 := Int32.toInt_lt a1; have l0 : (390 : Int32).toInt = 390 := (by decide); have l1 : (0 : Int32).toInt = 0 := (by decide); have l2 : (400 : Int32).toInt = 400 := (by decide); have l3 : (1 : Int32).toInt = 1 := (by decide); have s0 : (a1 + 1).toInt = a1.toInt + 1 := q_tA (by decide) (by omega) (by omega); omega
theorem zz_f78d0d1e95 {a1 : Int32} (h0 : ¬ (390 ≤ a1)) : a1 < 400 := by simp only [Int32.le_iff_toInt_le, Int32.lt_iff_toInt_lt, ← Int32.toInt_inj, ne_eq] at *; have l0 : (390 : Int32).toInt = 390 := (by decide); have l1 : (400 : Int32).toInt = 400 := (by decide); omega
set_option maxHeartbeats 1000000 in
theorem p_Mod_add {L : q_L} {W : Nat → Prop} {h0 : z_H} {π : Nat → Nat → Option Nat} {N : Nat} {h : z_H} {v0 : Nat} {v1 : Int32} (T : q_U L W h0 π h) (kv0 : q_M L π v0) (wM : ∀ a, v0 ≤ a → a < v0 + 46 → W a) : qk (f_Mod_add N v0 v1 h) (fun r => q_U L W h0 π r ∧ (∀ a k, ¬ (a = v0 ∧ (k = 67)) → vI r a k = vI h a k) ∧ (∀ a j, 0 ≤ j → ¬ (a = v0 + 41) → vA r a j = vA h a j)) := by
  unfold f_Mod_add
  refine r_Mo_67 T kv0 ?_
  intro x1 ex1 lx1 ux1
  subst ex1
  refine qk_if (fun cc1 => ?_) (fun cc1 => ?_)
  · skip
    refine qk_some ?_
    exact ⟨T, (by show ∀ a k, ¬ (a = v0 ∧ (k = 67)) → vI h a k = vI h a k; intro a k n0; rfl), (by show ∀ a j, 0 ≤ j → ¬ (a = v0 + 41) → vA h a j = vA h a j; intro a j j0 n0; rfl)⟩
  · skip
    refine r_Mo_60 T kv0 ?_
    refine r_Mo_67 T kv0 ?_
    intro x4 ex4 lx4 ux4
    subst ex4
    have o2 := g_Mo_67 T kv0
    refine w_Mo_67 T kv0 (wM _ (by omega) (by omega)) (zz_dfb12a7768 o2) (zz_e2d9c32c1e cc1 o2) ?_
    intro h5 Th5 ih5 ah5
    refine w_Mo_e41 Th5 kv0 (wM _ (by omega) (by omega)) lx4 (zz_f78d0d1e95 cc1) ?_
    intro h6 Th6 ih6 ah6
    refine qk_some ?_
    exact ⟨Th6, (by show ∀ a k, ¬ (a = v0 ∧ (k = 67)) → vI h6 a k = vI h a k; intro a k n0; rw [ih6, ih5, if_neg (by omega)]), (by show ∀ a j, 0 ≤ j → ¬ (a = v0 + 41) → vA h6 a j = vA h a j; intro a j j0 n0; rw [ah6 a j j0, if_neg (by omega), ah5])⟩
theorem c_Mod_add {L : q_L} {W : Nat → Prop} {h0 : z_H} {π : Nat → Nat → Option Nat} {N : Nat} {h : z_H} {v0 : Nat} {v1 : Int32} {β : Type} {f : z_H → Option β} {Q : β → Prop} (T : q_U L W h0 π h) (kv0 : q_M L π v0) (wM : ∀ a, v0 ≤ a → a < v0 + 46 → W a) (H : ∀ h', q_U L W h0 π h' → (∀ a k, ¬ (a = v0 ∧ (k = 67)) → vI h' a k = vI h a k) → (∀ a j, 0 ≤ j → ¬ (a = v0 + 41) → vA h' a j = vA h a j) → qk (f h') Q) : qk (z_b (f_Mod_add N v0 v1 h) f) Q := by
  refine qk_b (p_Mod_add T kv0 wM) ?_
  rintro hz ⟨Tz, g0, g1⟩
  exact H hz Tz g0 g1
