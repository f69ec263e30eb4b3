theorem zz_357e37317b  : (32 : Int32) ≠ -1 := by lia
theorem zz_ced8b53db7 {a1 a2 a3 a4 a5 a6 a7 a8 a9 a10 : Int32} (h0 : a1 = a2) (h1 : a3 = a4) (h2 : a5 ≤ a4) (h3 : a6 = 1) (h4 : (a7 = 0) → ((a6 = 0) ∧ ((a2 = a8 + 1) ∧ (a8 < a9)))) (h5 : a8 = a5) (h6 : (a7 ≠ 0) → (a2 = a8)) (h7 : (0 ≤ a5) ∧ (a5 ≤ 250)) : (a10 = 0) → (a1 ≤ a3) := by simp only [Int32.le_iff_toInt_le, Int32.lt_iff_toInt_lt, ← Int32.toInt_inj, ne_eq] at *; have l0 : (1 : Int32).toInt = 1 := (by decide); have l1 : (0 : Int32).toInt = 0 := (by decide); have l2 : (250 : Int32).toInt = 250 := (by decide); have s0 : (a8 + 1).toInt = a8.toInt + 1 := q_tA (by decide) (by omega) (by omega); omega
theorem zz_d19b31b711 {a1 a2 a3 a4 a5 a6 a7 a8 a9 : Int32} (h0 : a1 = a2) (h1 : a3 = a4) (h2 : a2 ≤ a5) (h3 : (a6 = 0) → ((a7 = 0) ∧ ((a4 = a8 + 1) ∧ (a8 < a9)))) (h4 : a8 = a5) (h5 : (a6 ≠ 0) → (a4 = a8)) (h6 : (0 ≤ a5) ∧ (a5 ≤ 250)) : a1 ≤ a3 := by simp only [Int32.le_iff_toInt_le, Int32.lt_iff_toInt_lt, ← Int32.toInt_inj, ne_eq] at *; have l0 : (0 : Int32).toInt = 0 := (by decide); have l1 : (1 : Int32).toInt = 1 := (by decide); have l2 : (250 : Int32).toInt = 250 := (by decide); have s0 : (a8 + 1).toInt = a8.toInt + 1 := q_tA (by decide) (by omega) (by omega); omega
theorem zz_c2e3ffd154 {a1 a2 a3 a4 a5 a6 a7 a8 : Int32} (h0 : a1 = a2) (h1 : (a3 = 0) → ((a4 = 0) ∧ ((a2 = a5 + 1) ∧ (a5 < a6)))) (h2 : a5 = a7) (h3 : (0 ≤ a8) ∧ (a8 ≤ 240)) (h4 : (a3 ≠ 0) → (a2 = a5)) (h5 : a7 ≤ a8) (h6 : (0 ≤ a7) ∧ (a7 ≤ 250)) : a1 ≤ 242 := by simp only [Int32.le_iff_toInt_le, Int32.lt_iff_toInt_lt, ← Int32.toInt_inj, ne_eq] at *; have l0 : (0 : Int32).toInt = 0 := (by decide); have l1 : (1 : Int32).toInt = 1 := (by decide); have l2 : (240 : Int32).toInt = 240 := (by decide); have l3 : (250 : Int32).toInt = 250 := (by decide); have l4 : (242 : Int32).toInt = 242 := (by decide); have s0 : (a5 + 1).toInt = a5.toInt + 1 := q_tA (by decide) (by omega) (by omega); omega
theorem zz_ee5234080b {a1 a2 a3 a4 a5 a6 a7 a8 a9 a10 a11 : Int32} (h0 : (a1 = 0) → ((a2 = 0) ∧ ((a3 = a4 + 1) ∧ (a4 < a5)))) (h1 : a4 = a6) (h2 : (a1 ≠ 0) → (a3 = a4)) (h3 : (a7 = 0) → ((a8 ≤ a9) ∧ (a9 ≤ a10))) (h4 : a8 = a3) (h5 : a10 = a11) (h6 : (0 ≤ a6) ∧ (a6 ≤ 250)) : (a7 = 0) → ((a6 ≤ a9) ∧ (a9 ≤ a11)) := by simp only [Int32.le_iff_toInt_le, Int32.lt_iff_toInt_lt, ← Int32.toInt_inj, ne_eq] at *; have l0 : (0 : Int32).toInt = 0 := (by decide); have l1 : (1 : Int32).toInt = 1 := (by decide); have l2 : (250 : Int32).toInt = 250 := (by decide); have s0 : (a4 + 1).toInt = a4.toInt + 1 := q_tA (by decide) (by omega) (by omega); omega
theorem zz_2b75d44b7b {a1 a2 a3 a4 a5 a6 a7 a8 : Int32} (h0 : (a1 = 0) → ((a2 = 0) ∧ ((a3 = a4 + 1) ∧ (a4 < a5)))) (h1 : a4 = a6) (h2 : (a1 ≠ 0) → (a3 = a4)) (h3 : a7 = a3) (h4 : (a7 ≤ a8) ∧ (a8 ≤ 244)) (h5 : (0 ≤ a6) ∧ (a6 ≤ 250)) : (a6 ≤ a8) ∧ (a8 ≤ 244) := by simp only [Int32.le_iff_toInt_le, Int32.lt_iff_toInt_lt, ← Int32.toInt_inj, ne_eq] at *; have l0 : (0 : Int32).toInt = 0 := (by decide); have l1 : (1 : Int32).toInt = 1 := (by decide); have l2 : (244 : Int32).toInt = 244 := (by decide); have l3 : (250 : Int32).toInt = 250 := (by decide); have s0 : (a4 + 1).toInt = a4.toInt + 1 := q_tA (by decide) (by omega) (by omega); omega
theorem zz_e521e06152 {a1 a2 a3 a4 a5 a6 a7 : Int32} (h0 : a1 = a2) (h1 : a2 = (300 * a3) + a4) (h2 : a4 = a5) (h3 : a6 = (300 * a3) + a7) (h4 : (0 ≤ a3) ∧ (a3 ≤ 1)) (h5 : (0 ≤ a7) ∧ (a7 ≤ 299)) (h6 : (0 ≤ a5) ∧ (a5 ≤ 299)) : (a6 = (300 * a3) + a7) ∧ (a1 = (300 * a3) + a5) := by simp only [Int32.le_iff_toInt_le, Int32.lt_iff_toInt_lt, ← Int32.toInt_inj, ne_eq] at *; have l0 : (300 : Int32).toInt = 300 := (by decide); have l1 : (0 : Int32).toInt = 0 := (by decide); have l2 : (1 : Int32).toInt = 1 := (by decide); have l3 : (299 : Int32).toInt = 299 := (by decide); have s0 : (300 * a3).toInt = 300 * a3.toInt := q_tM (by decide) (by omega) (by omega); have s1 : ((300 * a3) + a4).toInt = (300 * a3).toInt + a4.toInt := q_tA rfl (by omega) (by omega); have s2 : ((300 * a3) + a7).toInt = (300 * a3).toInt + a7.toInt := q_tA rfl (by omega) (by omega); have s3 : ((300 * a3) + a5).toInt = (300 * a3).toInt + a5.toInt := q_tA rfl (by omega) (by omega); omega
theorem zz_456bb0739e {a1 a2 a3 a4 a5 a6 a7 a8 a9 : Int32} (h0 : (a1 = 0) → ((a2 = 0) ∧ ((a3 = a4 + 1) ∧ (a4 < a5)))) (h1 : (a1 ≠ 0) → (a3 = a4)) (h2 : (a6 = 0) → ((a7 ≤ a8) ∧ (a8 ≤ a9))) (h3 : a7 = a3) (h4 : a9 = a5) (h5 : (0 ≤ a4) ∧ (a4 ≤ 250)) : (a6 = 0) → ((a4 ≤ a8) ∧ (a8 ≤ a5)) := by simp only [Int32.le_iff_toInt_le, Int32.lt_iff_toInt_lt, ← Int32.toInt_inj, ne_eq] at *; have l0 : (0 : Int32).toInt = 0 := (by decide); have l1 : (1 : Int32).toInt = 1 := (by decide); have l2 : (250 : Int32).toInt = 250 := (by decide); have s0 : (a4 + 1).toInt = a4.toInt + 1 := q_tA (by decide) (by omega) (by omega); omega
theorem zz_868d5b0293 {a1 a2 a3 a4 a5 a6 a7 : Int32} (h0 : (a1 = 0) → ((a2 = 0) ∧ ((a3 = a4 + 1) ∧ (a4 < a5)))) (h1 : (a1 ≠ 0) → (a3 = a4)) (h2 : a6 = a3) (h3 : (a6 ≤ a7) ∧ (a7 ≤ 244)) (h4 : (0 ≤ a4) ∧ (a4 ≤ 250)) : (a4 ≤ a7) ∧ (a7 ≤ 244) := by simp only [Int32.le_iff_toInt_le, Int32.lt_iff_toInt_lt, ← Int32.toInt_inj, ne_eq] at *; have l0 : (0 : Int32).toInt = 0 := (by decide); have l1 : (1 : Int32).toInt = 1 := (by decide); have l2 : (244 : Int32).toInt = 244 := (by decide); have l3 : (250 : Int32).toInt = 250 := (by decide); have s0 : (a4 + 1).toInt = a4.toInt + 1 := q_tA (by decide) (by omega) (by omega); omega
set_option maxHeartbeats 4000000 in
theorem p_Mod_readText {L : q_L} {W : Nat → Prop} {h0 : z_H} {π : Nat → Nat → Option Nat} {N : Nat} {h : z_H} {v0 : Nat} {v1 : Int32} (T : q_U L W h0 π h) (kv0 : q_M L π v0) (wM : ∀ a, v0 ≤ a → a < v0 + 46 → W a) (s0 : 0 ≤ v1) (s1 : v1 < 80) (bd : vI h v0 48 = 0) (hl : vI h v0 41 ≤ vI h v0 3) (hc : vA h (v0 + 22) (vI h v0 42) ≤ vI h v0 41) (hN : 100000 ≤ N) : qk (f_Mod_readText N v0 v1 h) (fun r => q_U L W h0 π r ∧ (∀ a k, ¬ (a = v0 ∧ (k = 5 ∨ k = 48 ∨ k = 41)) → vI r a k = vI h a k) ∧ (∀ a j, 0 ≤ j → ¬ (a = v0 + 10 ∨ a = v0 + 11 ∨ a = v0 + 22 ∨ a = v0 + 28) → vA r a j = vA h a j) ∧ (∀ j, 0 ≤ j → j ≠ vI h v0 42 → vA r (v0 + 22) j = vA h (v0 + 22) j) ∧ (∀ j, 0 ≤ j → (j < (300 * vI h v0 42 + vA h (v0 + 22) (vI h v0 42)) ∨ 300 * vI h v0 42 + 300 ≤ j) → vA r (v0 + 28) j = vA h (v0 + 28) j) ∧ (∀ j, 0 ≤ j → j ≠ v1 → vA r (v0 + 10) j = vA h (v0 + 10) j ∧ vA r (v0 + 11) j = vA h (v0 + 11) j) ∧ (vI r v0 48 = 0 → vI h v0 41 ≤ vI r v0 41 ∧ vI r v0 41 ≤ vI h v0 3) ∧ (vA h (v0 + 22) (vI h v0 42) ≤ vA r (v0 + 22) (vI h v0 42) ∧ vA r (v0 + 22) (vI h v0 42) ≤ vI r v0 41) ∧ (vI h v0 41 ≤ vI r v0 41 ∧ vI r v0 41 ≤ 244) ∧ (vA r (v0 + 11) v1 = 300 * vI h v0 42 + vA r (v0 + 22) (vI h v0 42) ∧ vA r (v0 + 10) v1 = (300 * vI h v0 42 + vA h (v0 + 22) (vI h v0 42)))) := by
  unfold f_Mod_readText
  refine r_Mo_o T kv0 ?_
  refine c_Mod_here2 (v0 := v0) T kv0 ?_
  intro yr2 gr2_0 gr2_1 gr2_2 gr2_3 gr2_4
  dsimp only
  refine qk_if (fun cc1 => ?_) (fun cc1 => ?_)
  · skip
    refine r_Mo_3 T kv0 ?_
    intro x4 ex4 lx4 ux4
    subst ex4
    refine r_Mo_o T kv0 ?_
    refine c_Mod_wrong (v0 := v0) (v1 := (vI h v0 3)) T kv0 wM ?_
    intro r6 Tr6 gr6_0 gr6_1 gr6_2
    unfold f_Mod_readText_16
    refine r_Mo_o Tr6 kv0 ?_
    refine c_Mod_expect (v0 := v0) (v1 := 32) Tr6 kv0 wM (zz_357e37317b) ?_
    intro r2i2 Tr2i2 gr2i2_0 gr2i2_1 gr2i2_2 gr2i2_3
    refine r_Mo_15 Tr2i2 kv0 ?_
    refine r_Mo_o Tr2i2 kv0 ?_
    refine c_Mod_stored (v0 := v0) Tr2i2 kv0 ?_
    intro yr5i2 gr5i2_0
    have qh42_gr5i2_0 : vI r2i2 v0 42 = (vI h v0 42) := by rw [gr2i2_0 v0 42 (by omega), gr6_0 v0 42 (by omega)]
    rw [qh42_gr5i2_0] at gr5i2_0
    dsimp only
    have o3 := g_Mo_42 T kv0
    have o4 : vA r2i2 (v0 + 22) (vI h v0 42) = vA h (v0 + 22) (vI h v0 42) := (by rw [gr2i2_1 (v0 + 22) (vI h v0 42), gr6_2 (v0 + 22) (vI h v0 42)])
    have o5 := g_Mo_e22 T kv0 (vI h v0 42)
    refine w_Mo_e10 Tr2i2 kv0 (wM _ (by omega) (by omega)) s0 s1 (zz_5c2d5e4809 gr5i2_0 o3 o4 o5) (zz_cfc7a49901 gr5i2_0 o3 o4 o5) ?_
    intro h6i2 Th6i2 ih6i2 ah6i2
    have o6 : vI h6i2 v0 41 = vI r2i2 v0 41 := (by rw [ih6i2 v0 41])
    have o7 : vI h6i2 v0 3 = vI h v0 3 := (by rw [ih6i2 v0 3, gr2i2_0 v0 3 (by omega), gr6_0 v0 3 (by omega)])
    have o8 : vI r6 v0 48 = 1 := (by rw [gr6_1])
    have o9 : vI r6 v0 41 = vI h v0 41 := (by rw [gr6_0 v0 41 (by omega)])
    have o10 := g_Mo_41 T kv0
    have o11 : vA h6i2 (v0 + 22) (vI h v0 42) = vA h (v0 + 22) (vI h v0 42) := (by rw [ah6i2 (v0 + 22) (vI h v0 42) (g_Mo_42 T kv0).1, if_neg (fun z => absurd z.1 (by omega)), gr2i2_1 (v0 + 22) (vI h v0 42), gr6_2 (v0 + 22) (vI h v0 42)])
    have o12 := g_Mo_3 T kv0
    refine qk_mono (p_Mod_readText_32 (v0 := v0) (v1 := v1) Th6i2 kv0 wM s0 s1 (zz_ced8b53db7 o6 o7 hl o8 gr2i2_2 o9 gr2i2_3 o10) (by show vA h6i2 (v0 + 22) (vI h6i2 v0 42) ≤ vI h6i2 v0 41; have qc1 : vI h6i2 v0 42 = (vI h v0 42) := (by rw [ih6i2 v0 42, gr2i2_0 v0 42 (by omega), gr6_0 v0 42 (by omega)]); rw [qc1]; exact zz_d19b31b711 o11 o6 hc gr2i2_2 o9 gr2i2_3 o10) (zz_c2e3ffd154 o6 gr2i2_2 o9 o12 gr2i2_3 hl o10) hN) ?_
    rintro hz ⟨Tz, g0, g1, g2, g3, g4, g5, g6, g7, g8⟩
    try dsimp only at *
    have qh42_g0 : vI h6i2 v0 42 = (vI h v0 42) := by rw [ih6i2 v0 42, gr2i2_0 v0 42 (by omega), gr6_0 v0 42 (by omega)]
    rw [qh42_g0] at g2
    rw [qh42_g0] at g3
    rw [qh42_g0] at g6
    rw [qh42_g0] at g8
    have o14 : vA hz (v0 + 10) v1 = yr5i2 := (by rw [g1 (v0 + 10) v1 s0 (by omega), ah6i2 (v0 + 10) v1 s0, if_pos ⟨rfl, rfl⟩])
    have o15 := g_Mo_e22 Tz kv0 (vI h v0 42)
    exact ⟨Tz, (by show ∀ a k, ¬ (a = v0 ∧ (k = 5 ∨ k = 48 ∨ k = 41)) → vI hz a k = vI h a k; intro a k n0; rw [g0 a k (by omega), ih6i2, gr2i2_0 a k (by omega), gr6_0 a k (by omega)]), (by show ∀ a j, 0 ≤ j → ¬ (a = v0 + 10 ∨ a = v0 + 11 ∨ a = v0 + 22 ∨ a = v0 + 28) → vA hz a j = vA h a j; intro a j j0 n0; rw [g1 a j j0 (by omega), ah6i2 a j j0, if_neg (by omega), gr2i2_1 a j, gr6_2 a j]), (by show ∀ j, 0 ≤ j → j ≠ vI h v0 42 → vA hz (v0 + 22) j = vA h (v0 + 22) j; intro j j0 n0; rw [g2 j j0 n0, ah6i2 (v0 + 22) j j0, if_neg (fun z => absurd z.1 (by omega)), gr2i2_1 (v0 + 22) j, gr6_2 (v0 + 22) j]), (by show ∀ j, 0 ≤ j → (j < (300 * vI h v0 42 + vA h (v0 + 22) (vI h v0 42)) ∨ 300 * vI h v0 42 + 300 ≤ j) → vA hz (v0 + 28) j = vA h (v0 + 28) j; intro j j0 n0; rw [g3 j j0 (zz_ced763ca4e o11 n0 o3 o5), ah6i2 (v0 + 28) j j0, if_neg (fun z => absurd z.1 (by omega)), gr2i2_1 (v0 + 28) j, gr6_2 (v0 + 28) j]), (by show ∀ j, 0 ≤ j → j ≠ v1 → vA hz (v0 + 10) j = vA h (v0 + 10) j ∧ vA hz (v0 + 11) j = vA h (v0 + 11) j; intro j j0 n0; exact ⟨(by rw [g1 (v0 + 10) j j0 (by omega), ah6i2 (v0 + 10) j j0, if_neg (fun z => absurd z.2 (zz_946771669d n0)), gr2i2_1 (v0 + 10) j, gr6_2 (v0 + 10) j]), (by rw [g4 j j0 n0, ah6i2 (v0 + 11) j j0, if_neg (fun z => absurd z.1 (by omega)), gr2i2_1 (v0 + 11) j, gr6_2 (v0 + 11) j])⟩), (zz_ee5234080b gr2i2_2 o9 gr2i2_3 g5 o6 o7 o10), (zz_3745968dd1 g6 o11), (zz_2b75d44b7b gr2i2_2 o9 gr2i2_3 o6 g7 o10), (zz_e521e06152 o14 gr5i2_0 o4 g8 o3 o15 o5)⟩
  · skip
    unfold f_Mod_readText_16
    refine r_Mo_o T kv0 ?_
    refine c_Mod_expect (v0 := v0) (v1 := 32) T kv0 wM (zz_357e37317b) ?_
    intro r2i16 Tr2i16 gr2i16_0 gr2i16_1 gr2i16_2 gr2i16_3
    refine r_Mo_15 Tr2i16 kv0 ?_
    refine r_Mo_o Tr2i16 kv0 ?_
    refine c_Mod_stored (v0 := v0) Tr2i16 kv0 ?_
    intro yr5i16 gr5i16_0
    have qh42_gr5i16_0 : vI r2i16 v0 42 = (vI h v0 42) := by rw [gr2i16_0 v0 42 (by omega)]
    rw [qh42_gr5i16_0] at gr5i16_0
    dsimp only
    have o17 := g_Mo_42 T kv0
    have o18 : vA r2i16 (v0 + 22) (vI h v0 42) = vA h (v0 + 22) (vI h v0 42) := (by rw [gr2i16_1 (v0 + 22) (vI h v0 42)])
    have o19 := g_Mo_e22 T kv0 (vI h v0 42)
    refine w_Mo_e10 Tr2i16 kv0 (wM _ (by omega) (by omega)) s0 s1 (zz_5c2d5e4809 gr5i16_0 o17 o18 o19) (zz_cfc7a49901 gr5i16_0 o17 o18 o19) ?_
    intro h6i16 Th6i16 ih6i16 ah6i16
    have o20 : vI h6i16 v0 41 = vI r2i16 v0 41 := (by rw [ih6i16 v0 41])
    have o21 : vI h6i16 v0 3 = vI h v0 3 := (by rw [ih6i16 v0 3, gr2i16_0 v0 3 (by omega)])
    have o22 := g_Mo_41 T kv0
    have o23 : vA h6i16 (v0 + 22) (vI h v0 42) = vA h (v0 + 22) (vI h v0 42) := (by rw [ah6i16 (v0 + 22) (vI h v0 42) (g_Mo_42 T kv0).1, if_neg (fun z => absurd z.1 (by omega)), gr2i16_1 (v0 + 22) (vI h v0 42)])
    have o24 := g_Mo_3 T kv0
    refine qk_mono (p_Mod_readText_32 (v0 := v0) (v1 := v1) Th6i16 kv0 wM s0 s1 (zz_d59e59909a o20 o21 hl gr2i16_2 gr2i16_3 o22) (by show vA h6i16 (v0 + 22) (vI h6i16 v0 42) ≤ vI h6i16 v0 41; have qc1 : vI h6i16 v0 42 = (vI h v0 42) := (by rw [ih6i16 v0 42, gr2i16_0 v0 42 (by omega)]); rw [qc1]; exact zz_bd3cc1970f o23 o20 hc gr2i16_2 gr2i16_3 o22) (zz_25765b3cac o20 gr2i16_2 o24 gr2i16_3 hl o22) hN) ?_
    rintro hz ⟨Tz, g0, g1, g2, g3, g4, g5, g6, g7, g8⟩
    try dsimp only at *
    have qh42_g0 : vI h6i16 v0 42 = (vI h v0 42) := by rw [ih6i16 v0 42, gr2i16_0 v0 42 (by omega)]
    rw [qh42_g0] at g2
    rw [qh42_g0] at g3
    rw [qh42_g0] at g6
    rw [qh42_g0] at g8
    have o26 : vA hz (v0 + 10) v1 = yr5i16 := (by rw [g1 (v0 + 10) v1 s0 (by omega), ah6i16 (v0 + 10) v1 s0, if_pos ⟨rfl, rfl⟩])
    have o27 := g_Mo_e22 Tz kv0 (vI h v0 42)
    exact ⟨Tz, (by show ∀ a k, ¬ (a = v0 ∧ (k = 5 ∨ k = 48 ∨ k = 41)) → vI hz a k = vI h a k; intro a k n0; rw [g0 a k (by omega), ih6i16, gr2i16_0 a k (by omega)]), (by show ∀ a j, 0 ≤ j → ¬ (a = v0 + 10 ∨ a = v0 + 11 ∨ a = v0 + 22 ∨ a = v0 + 28) → vA hz a j = vA h a j; intro a j j0 n0; rw [g1 a j j0 (by omega), ah6i16 a j j0, if_neg (by omega), gr2i16_1 a j]), (by show ∀ j, 0 ≤ j → j ≠ vI h v0 42 → vA hz (v0 + 22) j = vA h (v0 + 22) j; intro j j0 n0; rw [g2 j j0 n0, ah6i16 (v0 + 22) j j0, if_neg (fun z => absurd z.1 (by omega)), gr2i16_1 (v0 + 22) j]), (by show ∀ j, 0 ≤ j → (j < (300 * vI h v0 42 + vA h (v0 + 22) (vI h v0 42)) ∨ 300 * vI h v0 42 + 300 ≤ j) → vA hz (v0 + 28) j = vA h (v0 + 28) j; intro j j0 n0; rw [g3 j j0 (zz_ced763ca4e o23 n0 o17 o19), ah6i16 (v0 + 28) j j0, if_neg (fun z => absurd z.1 (by omega)), gr2i16_1 (v0 + 28) j]), (by show ∀ j, 0 ≤ j → j ≠ v1 → vA hz (v0 + 10) j = vA h (v0 + 10) j ∧ vA hz (v0 + 11) j = vA h (v0 + 11) j; intro j j0 n0; exact ⟨(by rw [g1 (v0 + 10) j j0 (by omega), ah6i16 (v0 + 10) j j0, if_neg (fun z => absurd z.2 (zz_946771669d n0)), gr2i16_1 (v0 + 10) j]), (by rw [g4 j j0 n0, ah6i16 (v0 + 11) j j0, if_neg (fun z => absurd z.1 (by omega)), gr2i16_1 (v0 + 11) j])⟩), (zz_456bb0739e gr2i16_2 gr2i16_3 g5 o20 o21 o22), (zz_3745968dd1 g6 o23), (zz_868d5b0293 gr2i16_2 gr2i16_3 o20 g7 o22), (zz_e521e06152 o26 gr5i16_0 o18 g8 o17 o27 o19)⟩
theorem c_Mod_readText {L : q_L} {W : Nat → Prop} {h0 : z_H} {π : Nat → Nat → Option Nat} {N : Nat} {h : z_H} {v0 : Nat} {v1 : Int32} {β : Type} {f : z_H → Option β} {Q : β → Prop} (T : q_U L W h0 π h) (kv0 : q_M L π v0) (wM : ∀ a, v0 ≤ a → a < v0 + 46 → W a) (s0 : 0 ≤ v1) (s1 : v1 < 80) (bd : vI h v0 48 = 0) (hl : vI h v0 41 ≤ vI h v0 3) (hc : vA h (v0 + 22) (vI h v0 42) ≤ vI h v0 41) (hN : 100000 ≤ N) (H : ∀ h', q_U L W h0 π h' → (∀ a k, ¬ (a = v0 ∧ (k = 5 ∨ k = 48 ∨ k = 41)) → vI h' a k = vI h a k) → (∀ a j, 0 ≤ j → ¬ (a = v0 + 10 ∨ a = v0 + 11 ∨ a = v0 + 22 ∨ a = v0 + 28) → vA h' a j = vA h a j) → (∀ j, 0 ≤ j → j ≠ vI h v0 42 → vA h' (v0 + 22) j = vA h (v0 + 22) j) → (∀ j, 0 ≤ j → (j < (300 * vI h v0 42 + vA h (v0 + 22) (vI h v0 42)) ∨ 300 * vI h v0 42 + 300 ≤ j) → vA h' (v0 + 28) j = vA h (v0 + 28) j) → (∀ j, 0 ≤ j → j ≠ v1 → vA h' (v0 + 10) j = vA h (v0 + 10) j ∧ vA h' (v0 + 11) j = vA h (v0 + 11) j) → (vI h' v0 48 = 0 → vI h v0 41 ≤ vI h' v0 41 ∧ vI h' v0 41 ≤ vI h v0 3) → (vA h (v0 + 22) (vI h v0 42) ≤ vA h' (v0 + 22) (vI h v0 42) ∧ vA h' (v0 + 22) (vI h v0 42) ≤ vI h' v0 41) → (vI h v0 41 ≤ vI h' v0 41 ∧ vI h' v0 41 ≤ 244) → (vA h' (v0 + 11) v1 = 300 * vI h v0 42 + vA h' (v0 + 22) (vI h v0 42) ∧ vA h' (v0 + 10) v1 = (300 * vI h v0 42 + vA h (v0 + 22) (vI h v0 42))) → qk (f h') Q) : qk (z_b (f_Mod_readText N v0 v1 h) f) Q := by
  refine qk_b (p_Mod_readText T kv0 wM s0 s1 bd hl hc hN) ?_
  rintro hz ⟨Tz, g0, g1, g2, g3, g4, g5, g6, g7, g8⟩
  exact H hz Tz g0 g1 g2 g3 g4 g5 g6 g7 g8
