theorem zz_31c6e83377 {a1 : Int32} (h0 : a1 = 0) : a1 ≤ 0 := by simp only [Int32.le_iff_toInt_le, Int32.lt_iff_toInt_lt, ← Int32.toInt_inj, ne_eq] at *; have l0 : (0 : Int32).toInt = 0 := (by decide); omega
set_option maxHeartbeats 1000000 in
theorem p_Mod_tellSpace {L : q_L} {W : Nat → Prop} {h0 : z_H} {π : Nat → Nat → Option Nat} {N : Nat} {h : z_H} {v0 : Nat} {v1 : Int32} (T : q_U L W h0 π h) (kv0 : q_M L π v0) (wM : ∀ a, v0 ≤ a → a < v0 + 46 → W a) (hN : 100000 ≤ N) : qk (f_Mod_tellSpace N v0 v1 h) (fun r => q_U L W h0 π r.2 ∧ (r.1 = 0 ∨ r.1 = 1) ∧ (r.1 = 0 → vI r.2 v0 76 = 1) ∧ (∀ a k, ¬ (a = v0 ∧ (k = 6 ∨ k = 76 ∨ k = 69 ∨ k = 67)) → vI r.2 a k = vI h a k) ∧ (∀ a j, 0 ≤ j → ¬ (a = v0 + 43 ∨ a = v0 + 41) → vA r.2 a j = vA h a j)) := by
  unfold f_Mod_tellSpace
  refine w_Mo_67 T kv0 (wM _ (by omega) (by omega)) (by show (0 : Int32) ≤ 0; decide) (by show (0 : Int32) ≤ 400; decide) ?_
  intro h1 Th1 ih1 ah1
  have o1 : vI h1 v0 67 = 0 := (by rw [ih1 v0 67, if_pos ⟨rfl, rfl⟩])
  refine qk_mono (p_Mod_tellSpace_9 (v0 := v0) (v1 := v1) (v2 := 1) (v3 := 0) Th1 kv0 wM (by show (0 : Int32) ≤ 0; decide) (by show (0 : Int32) ≤ 60; decide) (zz_31c6e83377 o1) hN) ?_
  rintro ⟨y, hz⟩ ⟨Tz, g0, g1, g2, g3⟩
  try dsimp only at *
  exact ⟨Tz, (zz_2eca02bf2d g0), (zz_89d5dbace5 g1), (by show ∀ a k, ¬ (a = v0 ∧ (k = 6 ∨ k = 76 ∨ k = 69 ∨ k = 67)) → vI hz a k = vI h a k; intro a k n0; rw [g2 a k (by omega), ih1, if_neg (by omega)]), (by show ∀ a j, 0 ≤ j → ¬ (a = v0 + 43 ∨ a = v0 + 41) → vA hz a j = vA h a j; intro a j j0 n0; rw [g3 a j j0 (by omega), ah1])⟩
theorem c_Mod_tellSpace {L : q_L} {W : Nat → Prop} {h0 : z_H} {π : Nat → Nat → Option Nat} {N : Nat} {h : z_H} {v0 : Nat} {v1 : Int32} {β : Type} {f : Int32 × z_H → Option β} {Q : β → Prop} (T : q_U L W h0 π h) (kv0 : q_M L π v0) (wM : ∀ a, v0 ≤ a → a < v0 + 46 → W a) (hN : 100000 ≤ N) (H : ∀ y h', q_U L W h0 π h' → (y = 0 ∨ y = 1) → (y = 0 → vI h' v0 76 = 1) → (∀ a k, ¬ (a = v0 ∧ (k = 6 ∨ k = 76 ∨ k = 69 ∨ k = 67)) → vI h' a k = vI h a k) → (∀ a j, 0 ≤ j → ¬ (a = v0 + 43 ∨ a = v0 + 41) → vA h' a j = vA h a j) → qk (f (y, h')) Q) : qk (z_b (f_Mod_tellSpace N v0 v1 h) f) Q := by
  refine qk_b (p_Mod_tellSpace T kv0 wM hN) ?_
  rintro ⟨y, hz⟩ ⟨Tz, g0, g1, g2, g3⟩
  exact H y hz Tz g0 g1 g2 g3
