theorem zz_dab72e485a {a1 : Int32} (h0 : (0 ≤ a1) ∧ (a1 ≤ 24)) : a1 ≤ 60 := by simp only [Int32.le_iff_toInt_le, Int32.lt_iff_toInt_lt, ← Int32.toInt_inj, ne_eq] at *; have l0 : (0 : Int32).toInt = 0 := (by decide); have l1 : (24 : Int32).toInt = 24 := (by decide); have l2 : (60 : Int32).toInt = 60 := (by decide); omega
theorem zz_34cd08f39b {a1 a2 : Int32} (h0 : a1 = a2) (h1 : (0 ≤ a2) ∧ (a2 ≤ 24)) : a1 ≤ 24 := by simp only [Int32.le_iff_toInt_le, Int32.lt_iff_toInt_lt, ← Int32.toInt_inj, ne_eq] at *; have l0 : (0 : Int32).toInt = 0 := (by decide); have l1 : (24 : Int32).toInt = 24 := (by decide); omega
set_option maxHeartbeats 1000000 in
theorem p_Mod_takeLine {L : q_L} {W : Nat → Prop} {h0 : z_H} {π : Nat → Nat → Option Nat} {N : Nat} {h : z_H} {v0 : Nat} {v1 : Int32} (T : q_U L W h0 π h) (kv0 : q_M L π v0) (wM : ∀ a, v0 ≤ a → a < v0 + 46 → W a) (b0 : 0 ≤ v1) (b1 : v1 < 12) (hN : 100000 ≤ N) : qk (f_Mod_takeLine N v0 v1 h) (fun r => q_U L W h0 π r ∧ (∀ a k, ¬ (a = v0 ∧ (k = 54)) → vI r a k = vI h a k) ∧ (∀ a j, 0 ≤ j → ¬ (a = v0 + 36) → vA r a j = vA h a j)) := by
  unfold f_Mod_takeLine
  refine r_Mo_1 T kv0 ?_
  refine r_Mo_e2 T kv0 b0 b1 ?_
  intro x2 ex2 lx2 ux2
  subst ex2
  have o1 := g_Mo_e2 T kv0 v1
  refine w_Mo_54 T kv0 (wM _ (by omega) (by omega)) lx2 (zz_dab72e485a o1) ?_
  intro h3 Th3 ih3 ah3
  have o2 : vI h3 v0 54 = vA h (v0 + 2) v1 := (by rw [ih3 v0 54, if_pos ⟨rfl, rfl⟩])
  refine qk_mono (p_Mod_takeLine_12 (v0 := v0) (v1 := v1) (v2 := 0) Th3 kv0 wM b0 b1 (by show (0 : Int32) ≤ 0; decide) (by show (0 : Int32) ≤ 24; decide) (zz_34cd08f39b o2 o1) hN) ?_
  rintro hz ⟨Tz, g0, g1⟩
  try dsimp only at *
  exact ⟨Tz, (by show ∀ a k, ¬ (a = v0 ∧ (k = 54)) → vI hz a k = vI h a k; intro a k n0; rw [g0 a k, ih3, if_neg (by omega)]), (by show ∀ a j, 0 ≤ j → ¬ (a = v0 + 36) → vA hz a j = vA h a j; intro a j j0 n0; rw [g1 a j j0 (by omega), ah3])⟩
theorem c_Mod_takeLine {L : q_L} {W : Nat → Prop} {h0 : z_H} {π : Nat → Nat → Option Nat} {N : Nat} {h : z_H} {v0 : Nat} {v1 : Int32} {β : Type} {f : z_H → Option β} {Q : β → Prop} (T : q_U L W h0 π h) (kv0 : q_M L π v0) (wM : ∀ a, v0 ≤ a → a < v0 + 46 → W a) (b0 : 0 ≤ v1) (b1 : v1 < 12) (hN : 100000 ≤ N) (H : ∀ h', q_U L W h0 π h' → (∀ a k, ¬ (a = v0 ∧ (k = 54)) → vI h' a k = vI h a k) → (∀ a j, 0 ≤ j → ¬ (a = v0 + 36) → vA h' a j = vA h a j) → qk (f h') Q) : qk (z_b (f_Mod_takeLine N v0 v1 h) f) Q := by
  refine qk_b (p_Mod_takeLine T kv0 wM b0 b1 hN) ?_
  rintro hz ⟨Tz, g0, g1⟩
  exact H hz Tz g0 g1
