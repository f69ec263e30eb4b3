theorem zz_d51f8e161e {a1 a2 : Int32} (h0 : a1 = a2) : a1 ≤ a2 := by simp only [Int32.le_iff_toInt_le, Int32.lt_iff_toInt_lt, ← Int32.toInt_inj, ne_eq] at *; omega
theorem zz_a6d3c79845 {a1 a2 a3 : Int32} (h0 : a1 = 0) (h1 : a2 = a3) (h2 : (0 ≤ a3) ∧ (a3 ≤ 600)) : a1 + a2 ≤ a3 := by simp only [Int32.le_iff_toInt_le, Int32.lt_iff_toInt_lt, ← Int32.toInt_inj, ne_eq] at *; have b0 := Int32.le_toInt a1; have c0 := Int32.toInt_lt a1; have b1 := Int32.le_toInt a2; have c1 := Int32.toInt_lt a2; have l0 : (0 : Int32).toInt = 0 := (by decide); have l1 : (600 : Int32).toInt = 600 := (by decide); have s0 : (a1 + a2).toInt = a1.toInt + a2.toInt := q_tA rfl (by omega) (by omega); omega
set_option maxHeartbeats 1000000 in
theorem p_Mod_tellText {L : q_L} {W : Nat → Prop} {h0 : z_H} {π : Nat → Nat → Option Nat} {N : Nat} {h : z_H} {v0 : Nat} {v1 : Int32} (T : q_U L W h0 π h) (kv0 : q_M L π v0) (wM : ∀ a, v0 ≤ a → a < v0 + 46 → W a) (s0 : 0 ≤ v1) (s1 : v1 < 80) (tf : vA h (v0 + 11) v1 ≤ vA h (v0 + 10) v1 + 300) (hN : 100000 ≤ N) : qk (f_Mod_tellText N v0 v1 h) (fun r => q_U L W h0 π r.2 ∧ (r.1 = 0 ∨ r.1 = 1) ∧ (r.1 = 0 → vI r.2 v0 76 = 1) ∧ (∀ a k, ¬ (a = v0 ∧ (k = 6 ∨ k = 76 ∨ k = 69 ∨ k = 67)) → vI r.2 a k = vI h a k) ∧ (∀ a j, 0 ≤ j → ¬ (a = v0 + 43 ∨ a = v0 + 41) → vA r.2 a j = vA h a j)) := by
  unfold f_Mod_tellText
  refine w_Mo_67 T kv0 (wM _ (by omega) (by omega)) (by show (0 : Int32) ≤ 0; decide) (by show (0 : Int32) ≤ 400; decide) ?_
  intro h1 Th1 ih1 ah1
  refine r_Mo_15 Th1 kv0 ?_
  refine r_Mo_e10 Th1 kv0 s0 s1 ?_
  intro x3 ex3 lx3 ux3
  have sx3 : (vA h (v0 + 10) v1) = x3 := (ex3.trans (by rw [ah1 (v0 + 10) v1])).symm
  subst sx3
  have o1 : vA h1 (v0 + 11) v1 = vA h (v0 + 11) v1 := (by rw [ah1 (v0 + 11) v1])
  have o2 : vA h1 (v0 + 10) v1 = vA h (v0 + 10) v1 := (by rw [ah1 (v0 + 10) v1])
  have o3 := g_Mo_e10 T kv0 v1
  have o4 : vI h1 v0 67 = 0 := (by rw [ih1 v0 67, if_pos ⟨rfl, rfl⟩])
  refine qk_mono (p_Mod_tellText_12 (v0 := v0) (v1 := v1) (v2 := (vA h (v0 + 10) v1)) Th1 kv0 wM s0 s1 (zz_cb0bdadb1e o1 o2 tf o3) lx3 (zz_d51f8e161e o2) ux3 (zz_a6d3c79845 o4 o2 o3) hN) ?_
  rintro ⟨y, hz⟩ ⟨Tz, g0, g1, g2, g3⟩
  try dsimp only at *
  exact ⟨Tz, (zz_2eca02bf2d g0), (zz_89d5dbace5 g1), (by show ∀ a k, ¬ (a = v0 ∧ (k = 6 ∨ k = 76 ∨ k = 69 ∨ k = 67)) → vI hz a k = vI h a k; intro a k n0; rw [g2 a k (by omega), ih1, if_neg (by omega)]), (by show ∀ a j, 0 ≤ j → ¬ (a = v0 + 43 ∨ a = v0 + 41) → vA hz a j = vA h a j; intro a j j0 n0; rw [g3 a j j0 (by omega), ah1])⟩
theorem c_Mod_tellText {L : q_L} {W : Nat → Prop} {h0 : z_H} {π : Nat → Nat → Option Nat} {N : Nat} {h : z_H} {v0 : Nat} {v1 : Int32} {β : Type} {f : Int32 × z_H → Option β} {Q : β → Prop} (T : q_U L W h0 π h) (kv0 : q_M L π v0) (wM : ∀ a, v0 ≤ a → a < v0 + 46 → W a) (s0 : 0 ≤ v1) (s1 : v1 < 80) (tf : vA h (v0 + 11) v1 ≤ vA h (v0 + 10) v1 + 300) (hN : 100000 ≤ N) (H : ∀ y h', q_U L W h0 π h' → (y = 0 ∨ y = 1) → (y = 0 → vI h' v0 76 = 1) → (∀ a k, ¬ (a = v0 ∧ (k = 6 ∨ k = 76 ∨ k = 69 ∨ k = 67)) → vI h' a k = vI h a k) → (∀ a j, 0 ≤ j → ¬ (a = v0 + 43 ∨ a = v0 + 41) → vA h' a j = vA h a j) → qk (f (y, h')) Q) : qk (z_b (f_Mod_tellText N v0 v1 h) f) Q := by
  refine qk_b (p_Mod_tellText T kv0 wM s0 s1 tf hN) ?_
  rintro ⟨y, hz⟩ ⟨Tz, g0, g1, g2, g3⟩
  exact H y hz Tz g0 g1 g2 g3
