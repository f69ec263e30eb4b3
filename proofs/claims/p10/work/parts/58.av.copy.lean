theorem zz_334f347b88 {a1 a2 : Int32} (h0 : ((0 ≤ a1) ∧ (a2 ≤ 64)) ∨ (a2 ≤ a1)) : ((0 ≤ a1) ∧ (a2 ≤ 64)) ∨ (a2 ≤ a1) := by simp only [Int32.le_iff_toInt_le, Int32.lt_iff_toInt_lt, ← Int32.toInt_inj, ne_eq] at *; have l0 : (0 : Int32).toInt = 0 := (by decide); have l1 : (64 : Int32).toInt = 64 := (by decide); omega
set_option maxHeartbeats 1000000 in
theorem p_Mod_copyOf {L : q_L} {W : Nat → Prop} {h0 : z_H} {π : Nat → Nat → Option Nat} {N : Nat} {h : z_H} {v0 : Nat} {v1 : Int32} {v2 : Int32} (T : q_U L W h0 π h) (kv0 : q_M L π v0) (wM : ∀ a, v0 ≤ a → a < v0 + 46 → W a) (c : (0 ≤ v1 ∧ v2 ≤ 64) ∨ v2 ≤ v1) (c0 : -1 ≤ v1) (c1 : v1 ≤ 64) (hN : 100000 ≤ N) : qk (f_Mod_copyOf N v0 v1 v2 h) (fun r => q_U L W h0 π r ∧ (∀ a k, ¬ (a = v0 ∧ (k = 67)) → vI r a k = vI h a k) ∧ (∀ a j, 0 ≤ j → ¬ (a = v0 + 41) → vA r a j = vA h a j)) := by
  unfold f_Mod_copyOf
  refine qk_mono (p_Mod_copyOf_2 (v0 := v0) (v2 := v2) (v3 := v1) T kv0 wM (zz_334f347b88 c) c0 c1 hN) ?_
  rintro hz ⟨Tz, g0, g1⟩
  try dsimp only at *
  exact ⟨Tz, (by show ∀ a k, ¬ (a = v0 ∧ (k = 67)) → vI hz a k = vI h a k; intro a k n0; rw [g0 a k (by omega)]), (by show ∀ a j, 0 ≤ j → ¬ (a = v0 + 41) → vA hz a j = vA h a j; intro a j j0 n0; rw [g1 a j j0 (by omega)])⟩
theorem c_Mod_copyOf {L : q_L} {W : Nat → Prop} {h0 : z_H} {π : Nat → Nat → Option Nat} {N : Nat} {h : z_H} {v0 : Nat} {v1 : Int32} {v2 : Int32} {β : Type} {f : z_H → Option β} {Q : β → Prop} (T : q_U L W h0 π h) (kv0 : q_M L π v0) (wM : ∀ a, v0 ≤ a → a < v0 + 46 → W a) (c : (0 ≤ v1 ∧ v2 ≤ 64) ∨ v2 ≤ v1) (c0 : -1 ≤ v1) (c1 : v1 ≤ 64) (hN : 100000 ≤ N) (H : ∀ h', q_U L W h0 π h' → (∀ a k, ¬ (a = v0 ∧ (k = 67)) → vI h' a k = vI h a k) → (∀ a j, 0 ≤ j → ¬ (a = v0 + 41) → vA h' a j = vA h a j) → qk (f h') Q) : qk (z_b (f_Mod_copyOf N v0 v1 v2 h) f) Q := by
  refine qk_b (p_Mod_copyOf T kv0 wM c c0 c1 hN) ?_
  rintro hz ⟨Tz, g0, g1⟩
  exact H hz Tz g0 g1
