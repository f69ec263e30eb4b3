set_option maxHeartbeats 1000000 in
theorem p_Mod_addReplacement {L : q_L} {W : Nat → Prop} {h0 : z_H} {π : Nat → Nat → Option Nat} {N : Nat} {h : z_H} {v0 : Nat} {v1 : Int32} (T : q_U L W h0 π h) (kv0 : q_M L π v0) (wM : ∀ a, v0 ≤ a → a < v0 + 46 → W a) (s0 : 0 ≤ v1) (s1 : v1 < 80) (GS : q_GS h v0) (hN : 100000 ≤ N) : qk (f_Mod_addReplacement N v0 v1 h) (fun r => q_U L W h0 π r ∧ (∀ a k, ¬ (a = v0 ∧ (k = 67)) → vI r a k = vI h a k) ∧ (∀ a j, 0 ≤ j → ¬ (a = v0 + 41) → vA r a j = vA h a j)) := by
  unfold f_Mod_addReplacement
  refine r_Mo_15 T kv0 ?_
  refine r_Mo_e10 T kv0 s0 s1 ?_
  intro x2 ex2 lx2 ux2
  subst ex2
  refine qk_mono (p_Mod_addReplacement_7 (v0 := v0) (v1 := v1) (v2 := (vA h (v0 + 10) v1)) T kv0 wM s0 s1 lx2 ux2 (by exact GS) hN) ?_
  rintro hz ⟨Tz, g0, g1⟩
  try dsimp only at *
  exact ⟨Tz, (by show ∀ a k, ¬ (a = v0 ∧ (k = 67)) → vI hz a k = vI h a k; intro a k n0; rw [g0 a k (by omega)]), (by show ∀ a j, 0 ≤ j → ¬ (a = v0 + 41) → vA hz a j = vA h a j; intro a j j0 n0; rw [g1 a j j0 (by omega)])⟩
theorem c_Mod_addReplacement {L : q_L} {W : Nat → Prop} {h0 : z_H} {π : Nat → Nat → Option Nat} {N : Nat} {h : z_H} {v0 : Nat} {v1 : Int32} {β : Type} {f : z_H → Option β} {Q : β → Prop} (T : q_U L W h0 π h) (kv0 : q_M L π v0) (wM : ∀ a, v0 ≤ a → a < v0 + 46 → W a) (s0 : 0 ≤ v1) (s1 : v1 < 80) (GS : q_GS h v0) (hN : 100000 ≤ N) (H : ∀ h', q_U L W h0 π h' → (∀ a k, ¬ (a = v0 ∧ (k = 67)) → vI h' a k = vI h a k) → (∀ a j, 0 ≤ j → ¬ (a = v0 + 41) → vA h' a j = vA h a j) → qk (f h') Q) : qk (z_b (f_Mod_addReplacement N v0 v1 h) f) Q := by
  refine qk_b (p_Mod_addReplacement T kv0 wM s0 s1 GS hN) ?_
  rintro hz ⟨Tz, g0, g1⟩
  exact H hz Tz g0 g1
