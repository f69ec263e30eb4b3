theorem zz_1e98e020fd {a1 : Int32} (h0 : a1 = 1) : a1 = 1 := by simp only [Int32.le_iff_toInt_le, Int32.lt_iff_toInt_lt, ← Int32.toInt_inj, ne_eq] at *; have l0 : (1 : Int32).toInt = 1 := (by decide); omega
set_option maxHeartbeats 1000000 in
theorem p_Mod_full {L : q_L} {W : Nat → Prop} {h0 : z_H} {π : Nat → Nat → Option Nat} {N : Nat} {h : z_H} {v0 : Nat} (T : q_U L W h0 π h) (kv0 : q_M L π v0) (wM : ∀ a, v0 ≤ a → a < v0 + 46 → W a) : qk (f_Mod_full N v0 h) (fun r => q_U L W h0 π r.2 ∧ (r.1 = 0) ∧ (∀ a k, ¬ (a = v0 ∧ (k = 6 ∨ k = 76)) → vI r.2 a k = vI h a k) ∧ (∀ a j, vA r.2 a j = vA h a j) ∧ (vI r.2 v0 76 = 1)) := by
  unfold f_Mod_full
  refine w_Mo_6 T kv0 (wM _ (by omega) (by omega)) ?_
  intro h1 Th1 ih1 ah1
  refine w_Mo_76 Th1 kv0 (wM _ (by omega) (by omega)) ?_
  intro h2 Th2 ih2 ah2
  refine qk_some ?_
  have o1 : vI h2 v0 76 = 1 := (by rw [ih2 v0 76, if_pos ⟨rfl, rfl⟩])
  exact ⟨Th2, (by show (0 : Int32) = 0; decide), (by show ∀ a k, ¬ (a = v0 ∧ (k = 6 ∨ k = 76)) → vI h2 a k = vI h a k; intro a k n0; rw [ih2, if_neg (by omega), ih1, if_neg (by omega)]), (by show ∀ a j, vA h2 a j = vA h a j; intro a j ; rw [ah2, ah1]), (zz_1e98e020fd o1)⟩
theorem c_Mod_full {L : q_L} {W : Nat → Prop} {h0 : z_H} {π : Nat → Nat → Option Nat} {N : Nat} {h : z_H} {v0 : Nat} {β : Type} {f : Int32 × z_H → Option β} {Q : β → Prop} (T : q_U L W h0 π h) (kv0 : q_M L π v0) (wM : ∀ a, v0 ≤ a → a < v0 + 46 → W a) (H : ∀ y h', q_U L W h0 π h' → (y = 0) → (∀ a k, ¬ (a = v0 ∧ (k = 6 ∨ k = 76)) → vI h' a k = vI h a k) → (∀ a j, vA h' a j = vA h a j) → (vI h' v0 76 = 1) → qk (f (y, h')) Q) : qk (z_b (f_Mod_full N v0 h) f) Q := by
  refine qk_b (p_Mod_full T kv0 wM) ?_
  rintro ⟨y, hz⟩ ⟨Tz, g0, g1, g2, g3⟩
  exact H y hz Tz g0 g1 g2 g3
