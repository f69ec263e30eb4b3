set_option maxHeartbeats 1000000 in
theorem p_Mod_closed {L : q_L} {W : Nat → Prop} {h0 : z_H} {π : Nat → Nat → Option Nat} {N : Nat} {h : z_H} {v0 : Nat} (T : q_U L W h0 π h) (kv0 : q_M L π v0) (wM : ∀ a, v0 ≤ a → a < v0 + 46 → W a) : qk (f_Mod_closed N v0 h) (fun r => q_U L W h0 π r ∧ (∀ a k, ¬ (a = v0 ∧ (k = 5 ∨ k = 48)) → vI r a k = vI h a k) ∧ (∀ a j, vA r a j = vA h a j) ∧ (vI r v0 48 = 0 → vI h v0 48 = 0)) := by
  unfold f_Mod_closed
  refine r_Mo_o T kv0 ?_
  refine c_Mod_here2 (v0 := v0) T kv0 ?_
  intro yr2 gr2_0 gr2_1 gr2_2 gr2_3 gr2_4
  dsimp only
  refine qk_bs ?_
  refine r_Mo_48 T kv0 ?_
  intro x4 ex4
  subst ex4
  refine qk_if (fun cc1 => ?_) (fun cc1 => ?_)
  · skip
    refine qk_if (fun cc2 => ?_) (fun cc2 => ?_)
    · skip
      refine qk_some ?_
      exact ⟨T, (by show ∀ a k, ¬ (a = v0 ∧ (k = 5 ∨ k = 48)) → vI h a k = vI h a k; intro a k n0; rfl), (by show ∀ a j, vA h a j = vA h a j; intro a j ; rfl), (zz_31e838399c)⟩
    · skip
      refine qk_if (fun cc3 => ?_) (fun cc3 => ?_)
      · skip
        refine qk_some ?_
        exact ⟨T, (by show ∀ a k, ¬ (a = v0 ∧ (k = 5 ∨ k = 48)) → vI h a k = vI h a k; intro a k n0; rfl), (by show ∀ a j, vA h a j = vA h a j; intro a j ; rfl), (zz_31e838399c)⟩
      · skip
        refine qk_if (fun cc4 => ?_) (fun cc4 => ?_)
        · skip
          refine qk_some ?_
          exact ⟨T, (by show ∀ a k, ¬ (a = v0 ∧ (k = 5 ∨ k = 48)) → vI h a k = vI h a k; intro a k n0; rfl), (by show ∀ a j, vA h a j = vA h a j; intro a j ; rfl), (zz_31e838399c)⟩
        · skip
          refine qk_if (fun cc5 => ?_) (fun cc5 => ?_)
          · skip
            refine qk_some ?_
            exact ⟨T, (by show ∀ a k, ¬ (a = v0 ∧ (k = 5 ∨ k = 48)) → vI h a k = vI h a k; intro a k n0; rfl), (by show ∀ a j, vA h a j = vA h a j; intro a j ; rfl), (zz_31e838399c)⟩
          · skip
            refine qk_if (fun cc6 => ?_) (fun cc6 => ?_)
            · skip
              refine qk_some ?_
              exact ⟨T, (by show ∀ a k, ¬ (a = v0 ∧ (k = 5 ∨ k = 48)) → vI h a k = vI h a k; intro a k n0; rfl), (by show ∀ a j, vA h a j = vA h a j; intro a j ; rfl), (zz_31e838399c)⟩
            · skip
              refine r_Mo_41 T kv0 ?_
              intro x11 ex11 lx11 ux11
              subst ex11
              refine r_Mo_o T kv0 ?_
              refine c_Mod_wrong (v0 := v0) (v1 := (vI h v0 41)) T kv0 wM ?_
              intro r13 Tr13 gr13_0 gr13_1 gr13_2
              refine qk_some ?_
              exact ⟨Tr13, (by show ∀ a k, ¬ (a = v0 ∧ (k = 5 ∨ k = 48)) → vI r13 a k = vI h a k; intro a k n0; rw [gr13_0 a k (by omega)]), (by show ∀ a j, vA r13 a j = vA h a j; intro a j ; rw [gr13_2 a j]), (zz_a50cc5585c gr13_1)⟩
  · skip
    refine qk_some ?_
    exact ⟨T, (by show ∀ a k, ¬ (a = v0 ∧ (k = 5 ∨ k = 48)) → vI h a k = vI h a k; intro a k n0; rfl), (by show ∀ a j, vA h a j = vA h a j; intro a j ; rfl), (zz_31e838399c)⟩
theorem c_Mod_closed {L : q_L} {W : Nat → Prop} {h0 : z_H} {π : Nat → Nat → Option Nat} {N : Nat} {h : z_H} {v0 : Nat} {β : Type} {f : z_H → Option β} {Q : β → Prop} (T : q_U L W h0 π h) (kv0 : q_M L π v0) (wM : ∀ a, v0 ≤ a → a < v0 + 46 → W a) (H : ∀ h', q_U L W h0 π h' → (∀ a k, ¬ (a = v0 ∧ (k = 5 ∨ k = 48)) → vI h' a k = vI h a k) → (∀ a j, vA h' a j = vA h a j) → (vI h' v0 48 = 0 → vI h v0 48 = 0) → qk (f h') Q) : qk (z_b (f_Mod_closed N v0 h) f) Q := by
  refine qk_b (p_Mod_closed T kv0 wM) ?_
  rintro hz ⟨Tz, g0, g1, g2⟩
  exact H hz Tz g0 g1 g2
