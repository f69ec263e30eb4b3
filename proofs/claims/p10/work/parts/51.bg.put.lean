set_option maxHeartbeats 1000000 in
theorem p_Mod_put {L : q_L} {W : Nat → Prop} {h0 : z_H} {π : Nat → Nat → Option Nat} {N : Nat} {h : z_H} {v0 : Nat} {v1 : Int32} {v2 : Int32} {v3 : Int32} (T : q_U L W h0 π h) (kv0 : q_M L π v0) (wM : ∀ a, v0 ≤ a → a < v0 + 46 → W a) (b0 : 0 ≤ v1) (b1 : v1 < 520) (b2 : v3 ≤ 126) (b3 : 0 ≤ v2) (b4 : v2 ≤ 127) (hN : 100000 ≤ N) : qk (f_Mod_put N v0 v1 v2 v3 h) (fun r => q_U L W h0 π r ∧ (∀ a k, vI r a k = vI h a k) ∧ (∀ a j, vA r a j = vA h a j)) := by
  unfold f_Mod_put
  refine qk_mono (p_Mod_put_3 (v0 := v0) (v1 := v1) (v3 := v3) (v4 := v2) T kv0 (by first | with_reducible assumption | grind | lia) (by first | with_reducible assumption | grind | lia) (by first | with_reducible assumption | grind | lia) (by first | with_reducible assumption | grind | lia) (by first | with_reducible assumption | grind | lia) (by first | with_reducible assumption | grind | lia) (by first | with_reducible assumption | grind | lia)) ?_
  rintro hz ⟨Tz, g0, g1⟩
  try dsimp only at *
  exact ⟨Tz, (by intro a k ; rw [g0 a k]), (by intro a j ; rw [g1 a j])⟩
theorem c_Mod_put {L : q_L} {W : Nat → Prop} {h0 : z_H} {π : Nat → Nat → Option Nat} {N : Nat} {h : z_H} {v0 : Nat} {v1 : Int32} {v2 : Int32} {v3 : Int32} {β : Type} {f : z_H → Option β} {Q : β → Prop} (T : q_U L W h0 π h) (kv0 : q_M L π v0) (wM : ∀ a, v0 ≤ a → a < v0 + 46 → W a) (b0 : 0 ≤ v1) (b1 : v1 < 520) (b2 : v3 ≤ 126) (b3 : 0 ≤ v2) (b4 : v2 ≤ 127) (hN : 100000 ≤ N) (H : ∀ h', q_U L W h0 π h' → (∀ a k, vI h' a k = vI h a k) → (∀ a j, vA h' a j = vA h a j) → qk (f h') Q) : qk (z_b (f_Mod_put N v0 v1 v2 v3 h) f) Q := by
  refine qk_b (p_Mod_put T kv0 wM b0 b1 b2 b3 b4 hN) ?_
  rintro hz ⟨Tz, g0, g1⟩
  exact H hz Tz g0 g1

