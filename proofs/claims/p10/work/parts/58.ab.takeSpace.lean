set_option maxHeartbeats 1000000 in
theorem p_Mod_takeSpace {L : q_L} {W : Nat → Prop} {h0 : z_H} {π : Nat → Nat → Option Nat} {N : Nat} {h : z_H} {v0 : Nat} (T : q_U L W h0 π h) (kv0 : q_M L π v0) (wM : ∀ a, v0 ≤ a → a < v0 + 46 → W a) (hN : 100000 ≤ N) : qk (f_Mod_takeSpace N v0 h) (fun r => q_U L W h0 π r ∧ (∀ a k, ¬ (a = v0 ∧ (k = 54)) → vI r a k = vI h a k) ∧ (∀ a j, 0 ≤ j → ¬ (a = v0 + 36) → vA r a j = vA h a j) ∧ (vI r v0 54 = vI h v0 65)) := by
  unfold f_Mod_takeSpace
  refine qk_mono (p_Mod_takeSpace_2 (v0 := v0) (v1 := 0) T kv0 wM (by show (0 : Int32) ≤ 0; decide) (by show (0 : Int32) ≤ 60; decide) hN) ?_
  rintro hz ⟨Tz, g0, g1, g2⟩
  try dsimp only at *
  exact ⟨Tz, (by show ∀ a k, ¬ (a = v0 ∧ (k = 54)) → vI hz a k = vI h a k; intro a k n0; rw [g0 a k (by omega)]), (by show ∀ a j, 0 ≤ j → ¬ (a = v0 + 36) → vA hz a j = vA h a j; intro a j j0 n0; rw [g1 a j j0 (by omega)]), g2⟩
theorem c_Mod_takeSpace {L : q_L} {W : Nat → Prop} {h0 : z_H} {π : Nat → Nat → Option Nat} {N : Nat} {h : z_H} {v0 : Nat} {β : Type} {f : z_H → Option β} {Q : β → Prop} (T : q_U L W h0 π h) (kv0 : q_M L π v0) (wM : ∀ a, v0 ≤ a → a < v0 + 46 → W a) (hN : 100000 ≤ N) (H : ∀ h', q_U L W h0 π h' → (∀ a k, ¬ (a = v0 ∧ (k = 54)) → vI h' a k = vI h a k) → (∀ a j, 0 ≤ j → ¬ (a = v0 + 36) → vA h' a j = vA h a j) → (vI h' v0 54 = vI h v0 65) → qk (f h') Q) : qk (z_b (f_Mod_takeSpace N v0 h) f) Q := by
  refine qk_b (p_Mod_takeSpace T kv0 wM hN) ?_
  rintro hz ⟨Tz, g0, g1, g2⟩
  exact H hz Tz g0 g1 g2
