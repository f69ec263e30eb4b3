set_option maxHeartbeats 1000000 in
theorem p_Mod_blanks {L : q_L} {W : Nat → Prop} {h0 : z_H} {π : Nat → Nat → Option Nat} {N : Nat} {h : z_H} {v0 : Nat} (T : q_U L W h0 π h) (kv0 : q_M L π v0) (wM : ∀ a, v0 ≤ a → a < v0 + 46 → W a) (hN : 100000 ≤ N) : qk (f_Mod_blanks N v0 h) (fun r => q_U L W h0 π r ∧ (∀ a k, ¬ (a = v0 ∧ (k = 41)) → vI r a k = vI h a k) ∧ (∀ a j, vA r a j = vA h a j) ∧ (vI h v0 41 ≤ vI r v0 41) ∧ (vI r v0 41 ≤ vI h v0 3 ∨ vI r v0 41 = vI h v0 41)) := by
  unfold f_Mod_blanks
  refine qk_mono (p_Mod_blanks_0 (v0 := v0) T kv0 wM hN) ?_
  rintro hz ⟨Tz, g0, g1, g2, g3⟩
  try dsimp only at *
  exact ⟨Tz, (by show ∀ a k, ¬ (a = v0 ∧ (k = 41)) → vI hz a k = vI h a k; intro a k n0; rw [g0 a k (by omega)]), (by show ∀ a j, vA hz a j = vA h a j; intro a j ; rw [g1 a j]), g2, g3⟩
theorem c_Mod_blanks {L : q_L} {W : Nat → Prop} {h0 : z_H} {π : Nat → Nat → Option Nat} {N : Nat} {h : z_H} {v0 : Nat} {β : Type} {f : z_H → Option β} {Q : β → Prop} (T : q_U L W h0 π h) (kv0 : q_M L π v0) (wM : ∀ a, v0 ≤ a → a < v0 + 46 → W a) (hN : 100000 ≤ N) (H : ∀ h', q_U L W h0 π h' → (∀ a k, ¬ (a = v0 ∧ (k = 41)) → vI h' a k = vI h a k) → (∀ a j, vA h' a j = vA h a j) → (vI h v0 41 ≤ vI h' v0 41) → (vI h' v0 41 ≤ vI h v0 3 ∨ vI h' v0 41 = vI h v0 41) → qk (f h') Q) : qk (z_b (f_Mod_blanks N v0 h) f) Q := by
  refine qk_b (p_Mod_blanks T kv0 wM hN) ?_
  rintro hz ⟨Tz, g0, g1, g2, g3⟩
  exact H hz Tz g0 g1 g2 g3
