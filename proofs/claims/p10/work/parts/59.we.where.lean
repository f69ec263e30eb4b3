set_option maxHeartbeats 1000000 in
theorem p_Mod_where {L : q_L} {W : Nat → Prop} {h0 : z_H} {π : Nat → Nat → Option Nat} {N : Nat} {h : z_H} {v0 : Nat} (T : q_U L W h0 π h) (kv0 : q_M L π v0) (wM : ∀ a, v0 ≤ a → a < v0 + 46 → W a) : qk (f_Mod_where N v0 h) (fun r => q_U L W h0 π r.2 ∧ (∀ a k, ¬ (a = v0 ∧ (k = 6)) → vI r.2 a k = vI h a k) ∧ (∀ a j, vA r.2 a j = vA h a j)) := by
  unfold f_Mod_where
  refine w_Mo_6 T kv0 (wM _ (by omega) (by omega)) ?_
  intro h1 Th1 ih1 ah1
  refine r_Mo_5 Th1 kv0 ?_
  intro x2 ex2
  have sx2 : (vI h v0 5) = x2 := (ex2.trans (by rw [ih1 v0 5, if_neg (fun z => absurd z.2 (by decide))])).symm
  subst sx2
  refine qk_some ?_
  exact ⟨Th1, (by show ∀ a k, ¬ (a = v0 ∧ (k = 6)) → vI h1 a k = vI h a k; intro a k n0; rw [ih1, if_neg (by omega)]), (by show ∀ a j, vA h1 a j = vA h a j; intro a j ; rw [ah1])⟩
theorem c_Mod_where {L : q_L} {W : Nat → Prop} {h0 : z_H} {π : Nat → Nat → Option Nat} {N : Nat} {h : z_H} {v0 : Nat} {β : Type} {f : Int32 × z_H → Option β} {Q : β → Prop} (T : q_U L W h0 π h) (kv0 : q_M L π v0) (wM : ∀ a, v0 ≤ a → a < v0 + 46 → W a) (H : ∀ y h', q_U L W h0 π h' → (∀ a k, ¬ (a = v0 ∧ (k = 6)) → vI h' a k = vI h a k) → (∀ a j, vA h' a j = vA h a j) → qk (f (y, h')) Q) : qk (z_b (f_Mod_where N v0 h) f) Q := by
  refine qk_b (p_Mod_where T kv0 wM) ?_
  rintro ⟨y, hz⟩ ⟨Tz, g0, g1⟩
  exact H y hz Tz g0 g1
