theorem zz_ad811dcdda {a1 : Int32} (h0 : a1 ≤ 126) : a1 ≤ 203 := by simp only [Int32.le_iff_toInt_le, Int32.lt_iff_toInt_lt, ← Int32.toInt_inj, ne_eq] at *; have l0 : (126 : Int32).toInt = 126 := (by decide); have l1 : (203 : Int32).toInt = 203 := (by decide); omega
theorem zz_b2a9ae3e9b {a1 : Int32} (h0 : a1 ≤ 245) : a1 ≤ 260 := by simp only [Int32.le_iff_toInt_le, Int32.lt_iff_toInt_lt, ← Int32.toInt_inj, ne_eq] at *; have l0 : (245 : Int32).toInt = 245 := (by decide); have l1 : (260 : Int32).toInt = 260 := (by decide); omega
theorem zz_cf856790c4 {a1 a2 a3 : Int32} (h0 : a1 ≤ 245) (h1 : (a2 < (300 * a3) + a1) ∨ ((300 * a3) + 300 ≤ a2)) (h2 : (0 ≤ a3) ∧ (a3 ≤ 1)) (h3 : (0 ≤ a1) ∧ (a1 ≤ 299)) : ¬ (a2 = (300 * a3) + a1) := by simp only [Int32.le_iff_toInt_le, Int32.lt_iff_toInt_lt, ← Int32.toInt_inj, ne_eq] at *; have l0 : (245 : Int32).toInt = 245 := (by decide); have l1 : (300 : Int32).toInt = 300 := (by decide); have l2 : (0 : Int32).toInt = 0 := (by decide); have l3 : (1 : Int32).toInt = 1 := (by decide); have l4 : (299 : Int32).toInt = 299 := (by decide); have s0 : (300 * a3).toInt = 300 * a3.toInt := q_tM (by decide) (by omega) (by omega); have s1 : ((300 * a3) + a1).toInt = (300 * a3).toInt + a1.toInt := q_tA rfl (by omega) (by omega); have s2 : ((300 * a3) + 300).toInt = (300 * a3).toInt + 300 := q_tA (by decide) (by omega) (by omega); omega
theorem zz_66fcbc509c {a1 a2 : Int32} (h0 : a1 = a2 + 1) (h1 : (0 ≤ a2) ∧ (a2 ≤ 250)) : a1 = a2 + 1 := by simp only [Int32.le_iff_toInt_le, Int32.lt_iff_toInt_lt, ← Int32.toInt_inj, ne_eq] at *; have l0 : (1 : Int32).toInt = 1 := (by decide); have l1 : (0 : Int32).toInt = 0 := (by decide); have l2 : (250 : Int32).toInt = 250 := (by decide); have s0 : (a2 + 1).toInt = a2.toInt + 1 := q_tA (by decide) (by omega) (by omega); omega
theorem zz_3cded4400d {a1 a2 : Int32} (h0 : a1 = a2 + 1) (h1 : (0 ≤ a2) ∧ (a2 ≤ 299)) : a1 = a2 + 1 := by simp only [Int32.le_iff_toInt_le, Int32.lt_iff_toInt_lt, ← Int32.toInt_inj, ne_eq] at *; have l0 : (1 : Int32).toInt = 1 := (by decide); have l1 : (0 : Int32).toInt = 0 := (by decide); have l2 : (299 : Int32).toInt = 299 := (by decide); have s0 : (a2 + 1).toInt = a2.toInt + 1 := q_tA (by decide) (by omega) (by omega); omega
theorem zz_97fc03edb2 {a1 a2 : Int32} (h0 : a1 = a2) : (a1 = 0) → (a2 = 0) := by simp only [Int32.le_iff_toInt_le, Int32.lt_iff_toInt_lt, ← Int32.toInt_inj, ne_eq] at *; have l0 : (0 : Int32).toInt = 0 := (by decide); omega
theorem zz_fbcab601f3 {a1 a2 a3 a4 : Int32} (h0 : ¬ (a1 ≤ a2)) (h1 : a1 = (300 * a3) + a4) (h2 : (0 ≤ a3) ∧ (a3 ≤ 1)) (h3 : (0 ≤ a4) ∧ (a4 ≤ 299)) : a2 < 600 := by simp only [Int32.le_iff_toInt_le, Int32.lt_iff_toInt_lt, ← Int32.toInt_inj, ne_eq] at *; have l0 : (300 : Int32).toInt = 300 := (by decide); have l1 : (0 : Int32).toInt = 0 := (by decide); have l2 : (1 : Int32).toInt = 1 := (by decide); have l3 : (299 : Int32).toInt = 299 := (by decide); have l4 : (600 : Int32).toInt = 600 := (by decide); have s0 : (300 * a3).toInt = 300 * a3.toInt := q_tM (by decide) (by omega) (by omega); have s1 : ((300 * a3) + a4).toInt = (300 * a3).toInt + a4.toInt := q_tA rfl (by omega) (by omega); omega
theorem zz_7c75936822 {a1 : Int32} (h0 : 0 ≤ a1) (h1 : a1 ≤ 600) : 0 ≤ a1 + 1 := by simp only [Int32.le_iff_toInt_le, Int32.lt_iff_toInt_lt, ← Int32.toInt_inj, ne_eq] at *; have l0 : (0 : Int32).toInt = 0 := (by decide); have l1 : (600 : Int32).toInt = 600 := (by decide); have l2 : (1 : Int32).toInt = 1 := (by decide); have s0 : (a1 + 1).toInt = a1.toInt + 1 := q_tA (by decide) (by omega) (by omega); omega
theorem zz_61a6dc2edf {a1 a2 a3 a4 : Int32} (h0 : ¬ (a1 ≤ a2)) (h1 : a1 = (300 * a3) + a4) (h2 : (0 ≤ a3) ∧ (a3 ≤ 1)) (h3 : (0 ≤ a4) ∧ (a4 ≤ 299)) (h4 : 0 ≤ a2) (h5 : a2 ≤ 600) : a2 + 1 ≤ 600 := by simp only [Int32.le_iff_toInt_le, Int32.lt_iff_toInt_lt, ← Int32.toInt_inj, ne_eq] at *; have l0 : (300 : Int32).toInt = 300 := (by decide); have l1 : (0 : Int32).toInt = 0 := (by decide); have l2 : (1 : Int32).toInt = 1 := (by decide); have l3 : (299 : Int32).toInt = 299 := (by decide); have l4 : (600 : Int32).toInt = 600 := (by decide); have s0 : (300 * a3).toInt = 300 * a3.toInt := q_tM (by decide) (by omega) (by omega); have s1 : ((300 * a3) + a4).toInt = (300 * a3).toInt + a4.toInt := q_tA rfl (by omega) (by omega); have s2 : (a2 + 1).toInt = a2.toInt + 1 := q_tA (by decide) (by omega) (by omega); omega
theorem zz_3fcfb7760a {a1 a2 : Int32} (h0 : a1 = a2) (h1 : a2 ≤ 245) : a1 ≤ 245 := by simp only [Int32.le_iff_toInt_le, Int32.lt_iff_toInt_lt, ← Int32.toInt_inj, ne_eq] at *; have l0 : (245 : Int32).toInt = 245 := (by decide); omega
theorem zz_a9b30669af {a1 a2 a3 : Int32} (h0 : a1 ≤ a2) (h1 : a3 ≤ a1 + 1) (h2 : -100000 ≤ a1) (h3 : a1 ≤ 100000) (h4 : 0 ≤ a2) (h5 : a2 ≤ 600) : a3 ≤ a2 + 1 := by simp only [Int32.le_iff_toInt_le, Int32.lt_iff_toInt_lt, ← Int32.toInt_inj, ne_eq] at *; have l0 : (1 : Int32).toInt = 1 := (by decide); have l1 : (-100000 : Int32).toInt = -100000 := (by decide); have l2 : (100000 : Int32).toInt = 100000 := (by decide); have l3 : (0 : Int32).toInt = 0 := (by decide); have l4 : (600 : Int32).toInt = 600 := (by decide); have s0 : (a1 + 1).toInt = a1.toInt + 1 := q_tA (by decide) (by omega) (by omega); have s1 : (a2 + 1).toInt = a2.toInt + 1 := q_tA (by decide) (by omega) (by omega); omega
theorem zz_624d50f238 {a1 a2 a3 : Int32} (h0 : a1 = a2) (h1 : a3 = a1 + 1) (h2 : (0 ≤ a2) ∧ (a2 ≤ 250)) : a3 = a2 + 1 := by simp only [Int32.le_iff_toInt_le, Int32.lt_iff_toInt_lt, ← Int32.toInt_inj, ne_eq] at *; have l0 : (1 : Int32).toInt = 1 := (by decide); have l1 : (0 : Int32).toInt = 0 := (by decide); have l2 : (250 : Int32).toInt = 250 := (by decide); have s0 : (a1 + 1).toInt = a1.toInt + 1 := q_tA (by decide) (by omega) (by omega); have s1 : (a2 + 1).toInt = a2.toInt + 1 := q_tA (by decide) (by omega) (by omega); omega
theorem zz_1bc90f38ac {a1 a2 a3 : Int32} (h0 : a1 = a2) (h1 : a3 = a1 + 1) (h2 : (0 ≤ a2) ∧ (a2 ≤ 299)) : a3 = a2 + 1 := by simp only [Int32.le_iff_toInt_le, Int32.lt_iff_toInt_lt, ← Int32.toInt_inj, ne_eq] at *; have l0 : (1 : Int32).toInt = 1 := (by decide); have l1 : (0 : Int32).toInt = 0 := (by decide); have l2 : (299 : Int32).toInt = 299 := (by decide); have s0 : (a1 + 1).toInt = a1.toInt + 1 := q_tA (by decide) (by omega) (by omega); have s1 : (a2 + 1).toInt = a2.toInt + 1 := q_tA (by decide) (by omega) (by omega); omega
theorem zz_8b8768a235 {a1 a2 : Int32} (h0 : a1 = 0) : (a2 = 0) → (a1 = 0) := by simp only [Int32.le_iff_toInt_le, Int32.lt_iff_toInt_lt, ← Int32.toInt_inj, ne_eq] at *; have l0 : (0 : Int32).toInt = 0 := (by decide); omega
theorem zz_40abd58e02 {a1 a2 a3 : Int32} (h0 : (a1 < (300 * a2) + a3) ∨ ((300 * a2) + 300 ≤ a1)) (h1 : (0 ≤ a2) ∧ (a2 ≤ 1)) (h2 : (0 ≤ a3) ∧ (a3 ≤ 299)) : (a1 < (300 * a2) + a3) ∨ ((300 * a2) + 300 ≤ a1) := by simp only [Int32.le_iff_toInt_le, Int32.lt_iff_toInt_lt, ← Int32.toInt_inj, ne_eq] at *; have l0 : (300 : Int32).toInt = 300 := (by decide); have l1 : (0 : Int32).toInt = 0 := (by decide); have l2 : (1 : Int32).toInt = 1 := (by decide); have l3 : (299 : Int32).toInt = 299 := (by decide); have s0 : (300 * a2).toInt = 300 * a2.toInt := q_tM (by decide) (by omega) (by omega); have s1 : ((300 * a2) + a3).toInt = (300 * a2).toInt + a3.toInt := q_tA rfl (by omega) (by omega); have s2 : ((300 * a2) + 300).toInt = (300 * a2).toInt + 300 := q_tA (by decide) (by omega) (by omega); omega
set_option maxHeartbeats 2000000 in
theorem p_Mod_exchange_81_n {L : q_L} {W : Nat → Prop} {h0 : z_H} {π : Nat → Nat → Option Nat} {N : Nat} {Q : z_H → Prop} {k16 : Nat → Int32 → z_H → Option z_H} {lo : Nat → Int32} (hqn : q_Q lo 601) : ∀ (n : Nat) (v0 : Nat) (v1 : Int32) (v2 : Int32) (v3 : Int32) (h : z_H), q_U L W h0 π h → q_M L π v0 → (∀ a, v0 ≤ a → a < v0 + 46 → W a) → (0 ≤ v1) → (v1 < 80) → (0 ≤ v3) → (v3 ≤ 600) → (-1 ≤ v2) → (v2 ≤ 126) → (vI h v0 41 ≤ 245) → (vA h (v0 + 22) (vI h v0 42) ≤ 245) → (100000 ≤ N) → (lo n ≤ v3) → (∀  (h1 : z_H), q_U L W h0 π h1 → (∀ a k, ¬ (a = v0 ∧ (k = 5 ∨ k = 48 ∨ k = 41)) → vI h1 a k = vI h a k) → (∀ a j, 0 ≤ j → ¬ (a = v0 + 22 ∨ a = v0 + 28) → vA h1 a j = vA h a j) → (∀ j, 0 ≤ j → j ≠ vI h v0 42 → vA h1 (v0 + 22) j = vA h (v0 + 22) j) → (∀ j, 0 ≤ j → (j < (300 * vI h v0 42 + vA h (v0 + 22) (vI h v0 42)) ∨ 300 * vI h v0 42 + 300 ≤ j) → vA h1 (v0 + 28) j = vA h (v0 + 28) j) → (vI h1 v0 41 = vI h v0 41 + 1) → (vA h1 (v0 + 22) (vI h v0 42) = vA h (v0 + 22) (vI h v0 42) + 1) → (vI h1 v0 48 = 0 → vI h v0 48 = 0) → qk (k16 v0 v1 h1) Q) → qk (f_Mod_exchange_81 N k16 n v0 v1 v2 v3 h) Q := by
  intro n
  induction n with
  | zero => intro v0 v1 v2 v3 h T kv0 wM s0 s1 c0 c1 d0 d1 ab cb hN hms hk16; have hz := hqn.1; exact absurd hms (by clear hk16; grind)
  | succ n ih =>
    intro v0 v1 v2 v3 h T kv0 wM s0 s1 c0 c1 d0 d1 ab cb hN hms hk16
    obtain ⟨hq1, hq2, hq3⟩ := hqn.2 n
    rw [f_Mod_exchange_81]
    refine r_Mo_o T kv0 ?_
    refine c_Mod_stored (v0 := v0) T kv0 ?_
    intro yr2 gr2_0
    dsimp only
    refine qk_if (fun cc1 => ?_) (fun cc1 => ?_)
    · skip
      unfold f_Mod_exchange_120
      refine r_Mo_o T kv0 ?_
      refine c_Mod_keep (v0 := v0) (v1 := v2) T kv0 wM d0 (zz_ad811dcdda d1) (zz_b2a9ae3e9b cb) ?_
      intro r2i2 Tr2i2 gr2i2_0 gr2i2_1
      refine r_Mo_41 Tr2i2 kv0 ?_
      intro x3i2 ex3i2 lx3i2 ux3i2
      have sx3i2 : (vI h v0 41) = x3i2 := (ex3i2.trans (by rw [gr2i2_0 v0 41])).symm
      subst sx3i2
      have o3 := g_Mo_41 T kv0
      refine w_Mo_41 Tr2i2 kv0 (wM _ (by omega) (by omega)) (zz_5664edf06b o3) (zz_be4928651b ab o3) ?_
      intro h4i2 Th4i2 ih4i2 ah4i2
      have o4 := g_Mo_42 T kv0
      have o5 := g_Mo_e22 T kv0 (vI h v0 42)
      have o6 : vI h4i2 v0 41 = (vI h v0 41) + 1 := (by rw [ih4i2 v0 41, if_pos ⟨rfl, rfl⟩])
      have o7 : vA h4i2 (v0 + 22) (vI h v0 42) = (vA h (v0 + 22) (vI h v0 42)) + 1 := (by rw [ah4i2 (v0 + 22) (vI h v0 42), gr2i2_1 (v0 + 22) (vI h v0 42) (g_Mo_42 T kv0).1, if_pos ⟨rfl, rfl⟩])
      have o8 : vI h4i2 v0 48 = vI h v0 48 := (by rw [ih4i2 v0 48, if_neg (fun z => absurd z.2 (by decide)), gr2i2_0 v0 48])
      exact hk16  h4i2 Th4i2 (by show ∀ a k, ¬ (a = v0 ∧ (k = 5 ∨ k = 48 ∨ k = 41)) → vI h4i2 a k = vI h a k; intro a k n0; rw [ih4i2, if_neg (by omega), gr2i2_0 a k]) (by show ∀ a j, 0 ≤ j → ¬ (a = v0 + 22 ∨ a = v0 + 28) → vA h4i2 a j = vA h a j; intro a j j0 n0; rw [ah4i2, gr2i2_1 a j j0, if_neg (by omega), if_neg (by omega)]) (by show ∀ j, 0 ≤ j → j ≠ vI h v0 42 → vA h4i2 (v0 + 22) j = vA h (v0 + 22) j; intro j j0 n0; rw [ah4i2 (v0 + 22) j, gr2i2_1 (v0 + 22) j j0, if_neg (fun z => absurd z.2 (zz_946771669d n0)), if_neg (fun z => absurd z.1 (by omega))]) (by show ∀ j, 0 ≤ j → (j < (300 * vI h v0 42 + vA h (v0 + 22) (vI h v0 42)) ∨ 300 * vI h v0 42 + 300 ≤ j) → vA h4i2 (v0 + 28) j = vA h (v0 + 28) j; intro j j0 n0; rw [ah4i2 (v0 + 28) j, gr2i2_1 (v0 + 28) j j0, if_neg (fun z => absurd z.1 (by omega)), if_neg (fun z => absurd z.2 (zz_cf856790c4 cb n0 o4 o5))]) (zz_66fcbc509c o6 o3) (zz_3cded4400d o7 o5) (zz_97fc03edb2 o8)
    · skip
      refine r_Mo_48 T kv0 ?_
      intro x4 ex4
      subst ex4
      refine qk_if (fun cc9 => ?_) (fun cc9 => ?_)
      · skip
        refine r_Mo_33 T kv0 ?_
        have o10 := g_Mo_42 T kv0
        have o11 := g_Mo_e22 T kv0 (vI h v0 42)
        refine r_Mo_e28 T kv0 c0 (zz_fbcab601f3 cc1 gr2_0 o10 o11) ?_
        intro x7 ex7 lx7 ux7
        subst ex7
        refine qk_if (fun cc12 => ?_) (fun cc12 => ?_)
        · skip
          refine r_Mo_41 T kv0 ?_
          intro x10 ex10 lx10 ux10
          subst ex10
          refine r_Mo_o T kv0 ?_
          refine c_Mod_wrong (v0 := v0) (v1 := (vI h v0 41)) T kv0 wM ?_
          intro r12 Tr12 gr12_0 gr12_1 gr12_2
          refine qk_bs ?_
          have o13 : vI r12 v0 41 = vI h v0 41 := (by rw [gr12_0 v0 41 (by omega)])
          have o14 : vA r12 (v0 + 22) (vI h v0 42) = vA h (v0 + 22) (vI h v0 42) := (by rw [gr12_2 (v0 + 22) (vI h v0 42)])
          refine ih (v0) (v1) (v2) ((v3 + 1)) r12 Tr12 kv0 wM s0 s1 (zz_7c75936822 c0 c1) (zz_61a6dc2edf cc1 gr2_0 o10 o11 c0 c1) d0 d1 (zz_3fcfb7760a o13 ab) (by show vA r12 (v0 + 22) (vI r12 v0 42) ≤ 245; have qc1 : vI r12 v0 42 = (vI h v0 42) := (by rw [gr12_0 v0 42 (by omega)]); rw [qc1]; exact zz_3fcfb7760a o14 cb) hN (zz_a9b30669af hms hq1 hq2 hq3 c0 c1) ?_
          · intro  h_w15 Tw15 gw15_0 gw15_1 gw15_2 gw15_3 gw15_4 gw15_5 gw15_6
            have qh42_gw15_0 : vI r12 v0 42 = (vI h v0 42) := by rw [gr12_0 v0 42 (by omega)]
            rw [qh42_gw15_0] at gw15_2
            rw [qh42_gw15_0] at gw15_3
            rw [qh42_gw15_0] at gw15_5
            have o16 := g_Mo_41 T kv0
            exact hk16  h_w15 Tw15 (by show ∀ a k, ¬ (a = v0 ∧ (k = 5 ∨ k = 48 ∨ k = 41)) → vI h_w15 a k = vI h a k; intro a k n0; rw [gw15_0 a k (by omega), gr12_0 a k (by omega)]) (by show ∀ a j, 0 ≤ j → ¬ (a = v0 + 22 ∨ a = v0 + 28) → vA h_w15 a j = vA h a j; intro a j j0 n0; rw [gw15_1 a j j0 (by omega), gr12_2 a j]) (by show ∀ j, 0 ≤ j → j ≠ vI h v0 42 → vA h_w15 (v0 + 22) j = vA h (v0 + 22) j; intro j j0 n0; rw [gw15_2 j j0 n0, gr12_2 (v0 + 22) j]) (by show ∀ j, 0 ≤ j → (j < (300 * vI h v0 42 + vA h (v0 + 22) (vI h v0 42)) ∨ 300 * vI h v0 42 + 300 ≤ j) → vA h_w15 (v0 + 28) j = vA h (v0 + 28) j; intro j j0 n0; rw [gw15_3 j j0 (zz_ced763ca4e o14 n0 o10 o11), gr12_2 (v0 + 28) j]) (zz_624d50f238 o13 gw15_4 o16) (zz_1bc90f38ac o14 gw15_5 o11) (zz_8b8768a235 cc9)
        · skip
          refine qk_bs ?_
          refine ih (v0) (v1) (v2) ((v3 + 1)) h T kv0 wM s0 s1 (zz_7c75936822 c0 c1) (zz_61a6dc2edf cc1 gr2_0 o10 o11 c0 c1) d0 d1 ab cb hN (zz_a9b30669af hms hq1 hq2 hq3 c0 c1) ?_
          · intro  h_w17 Tw17 gw17_0 gw17_1 gw17_2 gw17_3 gw17_4 gw17_5 gw17_6
            exact hk16  h_w17 Tw17 (by show ∀ a k, ¬ (a = v0 ∧ (k = 5 ∨ k = 48 ∨ k = 41)) → vI h_w17 a k = vI h a k; intro a k n0; rw [gw17_0 a k (by omega)]) (by show ∀ a j, 0 ≤ j → ¬ (a = v0 + 22 ∨ a = v0 + 28) → vA h_w17 a j = vA h a j; intro a j j0 n0; rw [gw17_1 a j j0 (by omega)]) (by show ∀ j, 0 ≤ j → j ≠ vI h v0 42 → vA h_w17 (v0 + 22) j = vA h (v0 + 22) j; intro j j0 n0; rw [gw17_2 j j0 n0]) (by show ∀ j, 0 ≤ j → (j < (300 * vI h v0 42 + vA h (v0 + 22) (vI h v0 42)) ∨ 300 * vI h v0 42 + 300 ≤ j) → vA h_w17 (v0 + 28) j = vA h (v0 + 28) j; intro j j0 n0; rw [gw17_3 j j0 (zz_40abd58e02 n0 o10 o11)]) gw17_4 (zz_3cded4400d gw17_5 o11) gw17_6
      · skip
        unfold f_Mod_exchange_120
        refine r_Mo_o T kv0 ?_
        refine c_Mod_keep (v0 := v0) (v1 := v2) T kv0 wM d0 (zz_ad811dcdda d1) (zz_b2a9ae3e9b cb) ?_
        intro r2i18 Tr2i18 gr2i18_0 gr2i18_1
        refine r_Mo_41 Tr2i18 kv0 ?_
        intro x3i18 ex3i18 lx3i18 ux3i18
        have sx3i18 : (vI h v0 41) = x3i18 := (ex3i18.trans (by rw [gr2i18_0 v0 41])).symm
        subst sx3i18
        have o19 := g_Mo_41 T kv0
        refine w_Mo_41 Tr2i18 kv0 (wM _ (by omega) (by omega)) (zz_5664edf06b o19) (zz_be4928651b ab o19) ?_
        intro h4i18 Th4i18 ih4i18 ah4i18
        have o20 := g_Mo_42 T kv0
        have o21 := g_Mo_e22 T kv0 (vI h v0 42)
        have o22 : vI h4i18 v0 41 = (vI h v0 41) + 1 := (by rw [ih4i18 v0 41, if_pos ⟨rfl, rfl⟩])
        have o23 : vA h4i18 (v0 + 22) (vI h v0 42) = (vA h (v0 + 22) (vI h v0 42)) + 1 := (by rw [ah4i18 (v0 + 22) (vI h v0 42), gr2i18_1 (v0 + 22) (vI h v0 42) (g_Mo_42 T kv0).1, if_pos ⟨rfl, rfl⟩])
        have o24 : vI h4i18 v0 48 = vI h v0 48 := (by rw [ih4i18 v0 48, if_neg (fun z => absurd z.2 (by decide)), gr2i18_0 v0 48])
        exact hk16  h4i18 Th4i18 (by show ∀ a k, ¬ (a = v0 ∧ (k = 5 ∨ k = 48 ∨ k = 41)) → vI h4i18 a k = vI h a k; intro a k n0; rw [ih4i18, if_neg (by omega), gr2i18_0 a k]) (by show ∀ a j, 0 ≤ j → ¬ (a = v0 + 22 ∨ a = v0 + 28) → vA h4i18 a j = vA h a j; intro a j j0 n0; rw [ah4i18, gr2i18_1 a j j0, if_neg (by omega), if_neg (by omega)]) (by show ∀ j, 0 ≤ j → j ≠ vI h v0 42 → vA h4i18 (v0 + 22) j = vA h (v0 + 22) j; intro j j0 n0; rw [ah4i18 (v0 + 22) j, gr2i18_1 (v0 + 22) j j0, if_neg (fun z => absurd z.2 (zz_946771669d n0)), if_neg (fun z => absurd z.1 (by omega))]) (by show ∀ j, 0 ≤ j → (j < (300 * vI h v0 42 + vA h (v0 + 22) (vI h v0 42)) ∨ 300 * vI h v0 42 + 300 ≤ j) → vA h4i18 (v0 + 28) j = vA h (v0 + 28) j; intro j j0 n0; rw [ah4i18 (v0 + 28) j, gr2i18_1 (v0 + 28) j j0, if_neg (fun z => absurd z.1 (by omega)), if_neg (fun z => absurd z.2 (zz_cf856790c4 cb n0 o20 o21))]) (zz_66fcbc509c o22 o19) (zz_3cded4400d o23 o21) (zz_97fc03edb2 o24)
theorem p_Mod_exchange_81 {L : q_L} {W : Nat → Prop} {h0 : z_H} {π : Nat → Nat → Option Nat} {N : Nat} {Q : z_H → Prop} {k16 : Nat → Int32 → z_H → Option z_H} {h : z_H} {v0 : Nat} {v1 : Int32} {v2 : Int32} {v3 : Int32} (T : q_U L W h0 π h) (kv0 : q_M L π v0) (wM : ∀ a, v0 ≤ a → a < v0 + 46 → W a) (s0 : 0 ≤ v1) (s1 : v1 < 80) (c0 : 0 ≤ v3) (c1 : v3 ≤ 600) (d0 : -1 ≤ v2) (d1 : v2 ≤ 126) (ab : vI h v0 41 ≤ 245) (cb : vA h (v0 + 22) (vI h v0 42) ≤ 245) (hN : 100000 ≤ N) (hk16 : (∀  (h1 : z_H), q_U L W h0 π h1 → (∀ a k, ¬ (a = v0 ∧ (k = 5 ∨ k = 48 ∨ k = 41)) → vI h1 a k = vI h a k) → (∀ a j, 0 ≤ j → ¬ (a = v0 + 22 ∨ a = v0 + 28) → vA h1 a j = vA h a j) → (∀ j, 0 ≤ j → j ≠ vI h v0 42 → vA h1 (v0 + 22) j = vA h (v0 + 22) j) → (∀ j, 0 ≤ j → (j < (300 * vI h v0 42 + vA h (v0 + 22) (vI h v0 42)) ∨ 300 * vI h v0 42 + 300 ≤ j) → vA h1 (v0 + 28) j = vA h (v0 + 28) j) → (vI h1 v0 41 = vI h v0 41 + 1) → (vA h1 (v0 + 22) (vI h v0 42) = vA h (v0 + 22) (vI h v0 42) + 1) → (vI h1 v0 48 = 0 → vI h v0 48 = 0) → qk (k16 v0 v1 h1) Q)) : qk (f_Mod_exchange_81 N k16 N v0 v1 v2 v3 h) Q := by
  have hq := q_qnN hN
  refine p_Mod_exchange_81_n (q_lo (M := 601) (by decide) (by decide)) N v0 v1 v2 v3 h T kv0 wM s0 s1 c0 c1 d0 d1 ab cb hN ?_ hk16
  show 601 - q_n N ≤ _
  rw [hq]
  lia
