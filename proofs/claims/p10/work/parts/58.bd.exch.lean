theorem zz_a02adb98d4 {a1 a2 : Int32} (h0 : (0 ≤ a1) ∧ (a1 ≤ 600)) (h1 : (0 ≤ a2) ∧ (a2 ≤ 600)) : a1 - a2 = a1 - a2 := by lia
set_option maxHeartbeats 1000000 in
theorem p_Mod_exchanged {L : q_L} {W : Nat → Prop} {h0 : z_H} {π : Nat → Nat → Option Nat} {N : Nat} {h : z_H} {v0 : Nat} {v1 : Int32} (T : q_U L W h0 π h) (kv0 : q_M L π v0) (wM : ∀ a, v0 ≤ a → a < v0 + 46 → W a) (s0 : 0 ≤ v1) (s1 : v1 < 80) (e1 : vA h (v0 + 10) v1 ≤ vA h (v0 + 12) v1) (e2 : vA h (v0 + 11) v1 = vA h (v0 + 12) v1 + (vA h (v0 + 12) v1 - vA h (v0 + 10) v1)) (hN : 100000 ≤ N) : qk (f_Mod_exchanged N v0 v1 h) (fun r => q_U L W h0 π r ∧ (∀ a k, vI r a k = vI h a k) ∧ (∀ a j, 0 ≤ j → ¬ (a = v0 + 39) → vA r a j = vA h a j)) := by
  unfold f_Mod_exchanged
  refine r_Mo_17 T kv0 ?_
  refine r_Mo_e12 T kv0 s0 s1 ?_
  intro x2 ex2 lx2 ux2
  subst ex2
  refine r_Mo_15 T kv0 ?_
  refine r_Mo_e10 T kv0 s0 s1 ?_
  intro x4 ex4 lx4 ux4
  subst ex4
  refine qk_bs ?_
  have o1 := g_Mo_e12 T kv0 v1
  have o2 := g_Mo_e10 T kv0 v1
  refine qk_mono (p_Mod_exchanged_16 (v0 := v0) (v1 := v1) (v2 := ((vA h (v0 + 12) v1) - (vA h (v0 + 10) v1))) (v3 := 0) T kv0 wM s0 s1 e1 (zz_2faa97ca15 e2 o1 o2) (zz_a02adb98d4 o1 o2) (by show (0 : Int32) ≤ 0; decide) (by show (0 : Int32) ≤ 60; decide) hN) ?_
  rintro hz ⟨Tz, g0, g1⟩
  try dsimp only at *
  exact ⟨Tz, (by show ∀ a k, vI hz a k = vI h a k; intro a k ; rw [g0 a k]), (by show ∀ a j, 0 ≤ j → ¬ (a = v0 + 39) → vA hz a j = vA h a j; intro a j j0 n0; rw [g1 a j j0 (by omega)])⟩
theorem c_Mod_exchanged {L : q_L} {W : Nat → Prop} {h0 : z_H} {π : Nat → Nat → Option Nat} {N : Nat} {h : z_H} {v0 : Nat} {v1 : Int32} {β : Type} {f : z_H → Option β} {Q : β → Prop} (T : q_U L W h0 π h) (kv0 : q_M L π v0) (wM : ∀ a, v0 ≤ a → a < v0 + 46 → W a) (s0 : 0 ≤ v1) (s1 : v1 < 80) (e1 : vA h (v0 + 10) v1 ≤ vA h (v0 + 12) v1) (e2 : vA h (v0 + 11) v1 = vA h (v0 + 12) v1 + (vA h (v0 + 12) v1 - vA h (v0 + 10) v1)) (hN : 100000 ≤ N) (H : ∀ h', q_U L W h0 π h' → (∀ a k, vI h' a k = vI h a k) → (∀ a j, 0 ≤ j → ¬ (a = v0 + 39) → vA h' a j = vA h a j) → qk (f h') Q) : qk (z_b (f_Mod_exchanged N v0 v1 h) f) Q := by
  refine qk_b (p_Mod_exchanged T kv0 wM s0 s1 e1 e2 hN) ?_
  rintro hz ⟨Tz, g0, g1⟩
  exact H hz Tz g0 g1
