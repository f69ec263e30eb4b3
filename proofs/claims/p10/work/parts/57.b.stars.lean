set_option maxHeartbeats 1000000 in
theorem p_Mod_starsOf {L : q_L} {W : Nat → Prop} {h0 : z_H} {π : Nat → Nat → Option Nat} {N : Nat} {h : z_H} {v0 : Nat} {v1 : Int32} (T : q_U L W h0 π h) (kv0 : q_M L π v0) (q0 : 0 ≤ v1) (q1 : v1 < 260) (hN : 100000 ≤ N) : qk (f_Mod_starsOf N v0 v1 h) (fun r => r.2 = h ∧ (r.1 = r.1)) := by
  unfold f_Mod_starsOf
  refine r_Mo_28 T kv0 ?_
  refine r_Mo_e23 T kv0 q0 q1 ?_
  intro x2 ex2 lx2 ux2
  subst ex2
  refine qk_mono (p_Mod_starsOf_9 (v0 := v0) (v1 := v1) (v2 := 0) (v3 := (vA h (v0 + 23) v1)) T kv0 q0 q1 lx2 ux2 hN) ?_
  rintro ⟨y, hz⟩ ⟨rfl, g0⟩
  try dsimp only at *
  exact ⟨rfl, g0⟩
theorem c_Mod_starsOf {L : q_L} {W : Nat → Prop} {h0 : z_H} {π : Nat → Nat → Option Nat} {N : Nat} {h : z_H} {v0 : Nat} {v1 : Int32} {β : Type} {f : Int32 × z_H → Option β} {Q : β → Prop} (T : q_U L W h0 π h) (kv0 : q_M L π v0) (q0 : 0 ≤ v1) (q1 : v1 < 260) (hN : 100000 ≤ N) (H : ∀ y, (y = y) → qk (f (y, h)) Q) : qk (z_b (f_Mod_starsOf N v0 v1 h) f) Q := by
  refine qk_b (p_Mod_starsOf T kv0 q0 q1 hN) ?_
  rintro ⟨y, hz⟩ ⟨hy, g0⟩
  try dsimp only at *
  subst hy
  exact H y g0
