theorem zz_b77dc63546 {a1 a2 : Int32} (h0 : a1 + a2 + 1 ≤ 600) (h1 : (0 ≤ a1) ∧ (a1 ≤ 600)) (h2 : (0 ≤ a2) ∧ (a2 ≤ 400)) : a1 + a2 + 1 ≤ 600 := by simp only [Int32.le_iff_toInt_le, Int32.lt_iff_toInt_lt, ← Int32.toInt_inj, ne_eq] at *; have b0 := Int32.le_toInt a1; have c0 := Int32.toInt_lt a1; have b1 := Int32.le_toInt a2; have c1 := Int32.toInt_lt a2; have l0 : (1 : Int32).toInt = 1 := (by decide); have l1 : (600 : Int32).toInt = 600 := (by decide); have l2 : (0 : Int32).toInt = 0 := (by decide); have l3 : (400 : Int32).toInt = 400 := (by decide); have s0 : (a1 + a2).toInt = a1.toInt + a2.toInt := q_tA rfl (by omega) (by omega); have s1 : (a1 + a2 + 1).toInt = (a1 + a2).toInt + 1 := q_tA (by decide) (by omega) (by omega); omega
theorem zz_54b14867a3 {a1 : Int32} (h0 : a1 = 0) : (a1 = 0) ∨ (a1 = 1) := by simp only [Int32.le_iff_toInt_le, Int32.lt_iff_toInt_lt, ← Int32.toInt_inj, ne_eq] at *; have l0 : (0 : Int32).toInt = 0 := (by decide); have l1 : (1 : Int32).toInt = 1 := (by decide); omega
theorem zz_e63a05af3a {a1 a2 : Int32} (h0 : a1 = 1) : (a2 = 0) → (a1 = 1) := by simp only [Int32.le_iff_toInt_le, Int32.lt_iff_toInt_lt, ← Int32.toInt_inj, ne_eq] at *; have l0 : (1 : Int32).toInt = 1 := (by decide); have l1 : (0 : Int32).toInt = 0 := (by decide); omega
set_option maxHeartbeats 1000000 in
theorem p_Mod_tell {L : q_L} {W : Nat → Prop} {h0 : z_H} {π : Nat → Nat → Option Nat} {N : Nat} {h : z_H} {v0 : Nat} (T : q_U L W h0 π h) (kv0 : q_M L π v0) (wM : ∀ a, v0 ≤ a → a < v0 + 46 → W a) (hN : 100000 ≤ N) : qk (f_Mod_tell N v0 h) (fun r => q_U L W h0 π r.2 ∧ (r.1 = 0 ∨ r.1 = 1) ∧ (r.1 = 0 → vI r.2 v0 76 = 1) ∧ (∀ a k, ¬ (a = v0 ∧ (k = 6 ∨ k = 76 ∨ k = 69)) → vI r.2 a k = vI h a k) ∧ (∀ a j, 0 ≤ j → ¬ (a = v0 + 43) → vA r.2 a j = vA h a j)) := by
  unfold f_Mod_tell
  refine r_Mo_69 T kv0 ?_
  intro x1 ex1 lx1 ux1
  subst ex1
  refine r_Mo_67 T kv0 ?_
  intro x2 ex2 lx2 ux2
  subst ex2
  refine qk_if (fun cc1 => ?_) (fun cc1 => ?_)
  · skip
    have o2 := g_Mo_69 T kv0
    have o3 := g_Mo_67 T kv0
    refine qk_mono (p_Mod_tell_24 (v0 := v0) (v1 := 0) T kv0 wM (by show (0 : Int32) ≤ 0; decide) (by show (0 : Int32) ≤ 400; decide) (zz_b77dc63546 cc1 o2 o3) hN) ?_
    rintro ⟨y, hz⟩ ⟨Tz, g0, g1, g2, g3⟩
    try dsimp only at *
    exact ⟨Tz, (zz_2eca02bf2d g0), (zz_89d5dbace5 g1), (by show ∀ a k, ¬ (a = v0 ∧ (k = 6 ∨ k = 76 ∨ k = 69)) → vI hz a k = vI h a k; intro a k n0; rw [g2 a k (by omega)]), (by show ∀ a j, 0 ≤ j → ¬ (a = v0 + 43) → vA hz a j = vA h a j; intro a j j0 n0; rw [g3 a j j0 (by omega)])⟩
  · skip
    refine r_Mo_o T kv0 ?_
    refine c_Mod_full (v0 := v0) T kv0 wM ?_
    intro yr5 hr5 Tr5 gr5_0 gr5_1 gr5_2 gr5_3
    dsimp only
    refine qk_zB (by first | with_reducible assumption | grind | lia) ?_
    refine qk_some ?_
    exact ⟨Tr5, (zz_54b14867a3 gr5_0), (zz_e63a05af3a gr5_3), (by show ∀ a k, ¬ (a = v0 ∧ (k = 6 ∨ k = 76 ∨ k = 69)) → vI hr5 a k = vI h a k; intro a k n0; rw [gr5_1 a k (by omega)]), (by show ∀ a j, 0 ≤ j → ¬ (a = v0 + 43) → vA hr5 a j = vA h a j; intro a j j0 n0; rw [gr5_2 a j])⟩
theorem c_Mod_tell {L : q_L} {W : Nat → Prop} {h0 : z_H} {π : Nat → Nat → Option Nat} {N : Nat} {h : z_H} {v0 : Nat} {β : Type} {f : Int32 × z_H → Option β} {Q : β → Prop} (T : q_U L W h0 π h) (kv0 : q_M L π v0) (wM : ∀ a, v0 ≤ a → a < v0 + 46 → W a) (hN : 100000 ≤ N) (H : ∀ y h', q_U L W h0 π h' → (y = 0 ∨ y = 1) → (y = 0 → vI h' v0 76 = 1) → (∀ a k, ¬ (a = v0 ∧ (k = 6 ∨ k = 76 ∨ k = 69)) → vI h' a k = vI h a k) → (∀ a j, 0 ≤ j → ¬ (a = v0 + 43) → vA h' a j = vA h a j) → qk (f (y, h')) Q) : qk (z_b (f_Mod_tell N v0 h) f) Q := by
  refine qk_b (p_Mod_tell T kv0 wM hN) ?_
  rintro ⟨y, hz⟩ ⟨Tz, g0, g1, g2, g3⟩
  exact H y hz Tz g0 g1 g2 g3
