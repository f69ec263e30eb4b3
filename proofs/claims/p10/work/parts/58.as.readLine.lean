theorem zz_07871f873a {a1 : Int32} (h0 : (0 ≤ a1) ∧ (a1 ≤ 24)) : 0 ≤ a1 := by simp only [Int32.le_iff_toInt_le, Int32.lt_iff_toInt_lt, ← Int32.toInt_inj, ne_eq] at *; have l0 : (0 : Int32).toInt = 0 := (by decide); have l1 : (24 : Int32).toInt = 24 := (by decide); omega
set_option maxHeartbeats 1000000 in
theorem p_Mod_readLine {L : q_L} {W : Nat → Prop} {h0 : z_H} {π : Nat → Nat → Option Nat} {N : Nat} {h : z_H} {v0 : Nat} (T : q_U L W h0 π h) (kv0 : q_M L π v0) (wM : ∀ a, v0 ≤ a → a < v0 + 46 → W a) (rl : vI h v0 70 < 12) (hN : 100000 ≤ N) : qk (f_Mod_readLine N v0 h) (fun r => q_U L W h0 π r ∧ (∀ a k, ¬ (a = v0 ∧ (k = 65 ∨ k = 70)) → vI r a k = vI h a k) ∧ (∀ a j, 0 ≤ j → ¬ (a = v0 + 39) → vA r a j = vA h a j) ∧ (vI r v0 70 = vI h v0 70 + 1)) := by
  unfold f_Mod_readLine
  refine r_Mo_1 T kv0 ?_
  refine r_Mo_70 T kv0 ?_
  intro x2 ex2 lx2 ux2
  subst ex2
  refine r_Mo_e2 T kv0 lx2 rl ?_
  intro x3 ex3 lx3 ux3
  subst ex3
  have o1 := g_Mo_e2 T kv0 (vI h v0 70)
  refine w_Mo_65 T kv0 (wM _ (by omega) (by omega)) (zz_07871f873a o1) (zz_dab72e485a o1) ?_
  intro h4 Th4 ih4 ah4
  have o2 : vI h4 v0 65 = vA h (v0 + 2) (vI h v0 70) := (by rw [ih4 v0 65, if_pos ⟨rfl, rfl⟩])
  have o3 : vI h4 v0 70 = vI h v0 70 := (by rw [ih4 v0 70, if_neg (fun z => absurd z.2 (by decide))])
  refine qk_mono (p_Mod_readLine_15 (v0 := v0) (v1 := 0) Th4 kv0 wM (by show (0 : Int32) ≤ 0; decide) (by show (0 : Int32) ≤ 24; decide) (zz_34cd08f39b o2 o1) (zz_03a7628a21 o3 rl) hN) ?_
  rintro hz ⟨Tz, g0, g1, g2⟩
  try dsimp only at *
  have o5 := g_Mo_70 T kv0
  exact ⟨Tz, (by show ∀ a k, ¬ (a = v0 ∧ (k = 65 ∨ k = 70)) → vI hz a k = vI h a k; intro a k n0; rw [g0 a k (by omega), ih4, if_neg (by omega)]), (by show ∀ a j, 0 ≤ j → ¬ (a = v0 + 39) → vA hz a j = vA h a j; intro a j j0 n0; rw [g1 a j j0 (by omega), ah4]), (zz_f220de7a07 o3 g2 o5)⟩
theorem c_Mod_readLine {L : q_L} {W : Nat → Prop} {h0 : z_H} {π : Nat → Nat → Option Nat} {N : Nat} {h : z_H} {v0 : Nat} {β : Type} {f : z_H → Option β} {Q : β → Prop} (T : q_U L W h0 π h) (kv0 : q_M L π v0) (wM : ∀ a, v0 ≤ a → a < v0 + 46 → W a) (rl : vI h v0 70 < 12) (hN : 100000 ≤ N) (H : ∀ h', q_U L W h0 π h' → (∀ a k, ¬ (a = v0 ∧ (k = 65 ∨ k = 70)) → vI h' a k = vI h a k) → (∀ a j, 0 ≤ j → ¬ (a = v0 + 39) → vA h' a j = vA h a j) → (vI h' v0 70 = vI h v0 70 + 1) → qk (f h') Q) : qk (z_b (f_Mod_readLine N v0 h) f) Q := by
  refine qk_b (p_Mod_readLine T kv0 wM rl hN) ?_
  rintro hz ⟨Tz, g0, g1, g2⟩
  exact H hz Tz g0 g1 g2
