set_option maxHeartbeats 2000000 in
theorem p_Mod_goals {L : q_L} {W : Nat → Prop} {h0 : z_H} {π : Nat → Nat → Option Nat} {N : Nat} {h : z_H} {v0 : Nat} (T : q_U L W h0 π h) (kv0 : q_M L π v0) (wM : ∀ a, v0 ≤ a → a < v0 + 46 → W a) (G : vI h v0 48 = 0 → q_GO h v0 (vI h v0 42) 0) (LB : q_LB h v0 (vI h v0 42)) (hN : 100000 ≤ N) : qk (f_Mod_goals N v0 h) (fun r => q_U L W h0 π r ∧ (∀ a k, ¬ (a = v0 ∧ (k = 5 ∨ k = 48)) → vI r a k = vI h a k) ∧ (∀ a j, 0 ≤ j → ¬ (a = v0 + 13) → vA r a j = vA h a j) ∧ (∀ j, 0 ≤ j → (j < 40 * vI h v0 42 ∨ 40 * vI h v0 42 + 40 ≤ j) → vA r (v0 + 13) j = vA h (v0 + 13) j) ∧ (∀ j, 0 ≤ j → vA h (v0 + 4) j ≠ 98 → vA h (v0 + 4) j ≠ 116 → vA r (v0 + 13) j = vA h (v0 + 13) j) ∧ (vI r v0 48 = 0 → vI h v0 48 = 0)) := by
  unfold f_Mod_goals
  refine qk_mono (p_Mod_goals_2 (v0 := v0) (v1 := 0) T kv0 wM (by decide) (by decide) (by exact G) (by exact LB) hN) ?_
  rintro hz ⟨Tz, g0, g1, g2, g3, g4⟩
  try dsimp only at *
  have o2 := g_Mo_42 T kv0
  exact ⟨Tz, (by show ∀ a k, ¬ (a = v0 ∧ (k = 5 ∨ k = 48)) → vI hz a k = vI h a k; intro a k n0; rw [g0 a k (by omega)]), (by show ∀ a j, 0 ≤ j → ¬ (a = v0 + 13) → vA hz a j = vA h a j; intro a j j0 n0; rw [g1 a j j0 (by omega)]), (by show ∀ j, 0 ≤ j → (j < 40 * vI h v0 42 ∨ 40 * vI h v0 42 + 40 ≤ j) → vA hz (v0 + 13) j = vA h (v0 + 13) j; intro j j0 n0; rw [g2 j j0 (zz_098ca6c8f2 n0 o2)]), (by show ∀ j, 0 ≤ j → vA h (v0 + 4) j ≠ 98 → vA h (v0 + 4) j ≠ 116 → vA hz (v0 + 13) j = vA h (v0 + 13) j; exact g3), g4⟩
theorem c_Mod_goals {L : q_L} {W : Nat → Prop} {h0 : z_H} {π : Nat → Nat → Option Nat} {N : Nat} {h : z_H} {v0 : Nat} {β : Type} {f : z_H → Option β} {Q : β → Prop} (T : q_U L W h0 π h) (kv0 : q_M L π v0) (wM : ∀ a, v0 ≤ a → a < v0 + 46 → W a) (G : vI h v0 48 = 0 → q_GO h v0 (vI h v0 42) 0) (LB : q_LB h v0 (vI h v0 42)) (hN : 100000 ≤ N) (H : ∀ h', q_U L W h0 π h' → (∀ a k, ¬ (a = v0 ∧ (k = 5 ∨ k = 48)) → vI h' a k = vI h a k) → (∀ a j, 0 ≤ j → ¬ (a = v0 + 13) → vA h' a j = vA h a j) → (∀ j, 0 ≤ j → (j < 40 * vI h v0 42 ∨ 40 * vI h v0 42 + 40 ≤ j) → vA h' (v0 + 13) j = vA h (v0 + 13) j) → (∀ j, 0 ≤ j → vA h (v0 + 4) j ≠ 98 → vA h (v0 + 4) j ≠ 116 → vA h' (v0 + 13) j = vA h (v0 + 13) j) → (vI h' v0 48 = 0 → vI h v0 48 = 0) → qk (f h') Q) : qk (z_b (f_Mod_goals N v0 h) f) Q := by
  refine qk_b (p_Mod_goals T kv0 wM G LB hN) ?_
  rintro hz ⟨Tz, g0, g1, g2, g3, g4⟩
  exact H hz Tz g0 g1 g2 g3 g4
