theorem zz_1abbd7ede0 {a1 a2 : Int32} (h0 : a1 = 1) (h1 : (a2 = 0) → (a1 = 0)) : ¬ (a2 = 0) := by simp only [Int32.le_iff_toInt_le, Int32.lt_iff_toInt_lt, ← Int32.toInt_inj, ne_eq] at *; have l0 : (1 : Int32).toInt = 1 := (by decide); have l1 : (0 : Int32).toInt = 0 := (by decide); omega
theorem zz_c9211604f5 {a1 a2 : Int32} (h0 : a1 = 0) (h1 : ¬ (a1 = 0)) : a2 ≤ 0 := by simp only [Int32.le_iff_toInt_le, Int32.lt_iff_toInt_lt, ← Int32.toInt_inj, ne_eq] at *; have l0 : (0 : Int32).toInt = 0 := (by decide); omega
theorem zz_9422ca4c01 {a1 a2 : Int32} (h0 : (0 ≤ a1) ∧ (a1 ≤ 240)) (h1 : ¬ (a1 ≤ a2)) : a2 < 240 := by simp only [Int32.le_iff_toInt_le, Int32.lt_iff_toInt_lt, ← Int32.toInt_inj, ne_eq] at *; have l0 : (0 : Int32).toInt = 0 := (by decide); have l1 : (240 : Int32).toInt = 240 := (by decide); omega
theorem zz_28e3c2c5fa {a1 a2 : Int32} (h0 : (0 ≤ a1) ∧ (a1 ≤ 240)) (h1 : ¬ (a1 ≤ a2)) (h2 : (0 ≤ a2) ∧ (a2 ≤ 250)) : a2 + 1 ≤ 250 := by simp only [Int32.le_iff_toInt_le, Int32.lt_iff_toInt_lt, ← Int32.toInt_inj, ne_eq] at *; have l0 : (0 : Int32).toInt = 0 := (by decide); have l1 : (240 : Int32).toInt = 240 := (by decide); have l2 : (250 : Int32).toInt = 250 := (by decide); have l3 : (1 : Int32).toInt = 1 := (by decide); have s0 : (a2 + 1).toInt = a2.toInt + 1 := q_tA (by decide) (by omega) (by omega); omega
theorem zz_552f7b81ed {a1 a2 a3 a4 a5 : Int32} (h0 : a1 = a2 + 1) (h1 : a3 = a4) (h2 : ¬ (a4 ≤ a2)) (h3 : (0 ≤ a2) ∧ (a2 ≤ 250)) : (a5 = 0) → (a1 ≤ a3) := by simp only [Int32.le_iff_toInt_le, Int32.lt_iff_toInt_lt, ← Int32.toInt_inj, ne_eq] at *; have l0 : (1 : Int32).toInt = 1 := (by decide); have l1 : (0 : Int32).toInt = 0 := (by decide); have l2 : (250 : Int32).toInt = 250 := (by decide); have s0 : (a2 + 1).toInt = a2.toInt + 1 := q_tA (by decide) (by omega) (by omega); omega
theorem zz_3c800e74c6 {a1 a2 a3 a4 a5 a6 : Int32} (h0 : a1 = a2) (h1 : a3 = a4 + 1) (h2 : (a5 = 0) → (2 * a2 ≤ a4)) (h3 : a5 = 0) (h4 : (0 ≤ a2) ∧ (a2 ≤ 130)) (h5 : (0 ≤ a4) ∧ (a4 ≤ 250)) : (a6 = 0) → (2 * a1 ≤ a3) := by simp only [Int32.le_iff_toInt_le, Int32.lt_iff_toInt_lt, ← Int32.toInt_inj, ne_eq] at *; have l0 : (1 : Int32).toInt = 1 := (by decide); have l1 : (0 : Int32).toInt = 0 := (by decide); have l2 : (2 : Int32).toInt = 2 := (by decide); have l3 : (130 : Int32).toInt = 130 := (by decide); have l4 : (250 : Int32).toInt = 250 := (by decide); have s0 : (a4 + 1).toInt = a4.toInt + 1 := q_tA (by decide) (by omega) (by omega); have s1 : (2 * a2).toInt = 2 * a2.toInt := q_tM (by decide) (by omega) (by omega); have s2 : (2 * a1).toInt = 2 * a1.toInt := q_tM (by decide) (by omega) (by omega); omega
theorem zz_d40b784e6c {a1 a2 a3 : Int32} (h0 : a1 = a2) (h1 : a2 = 1 - a3) (h2 : (0 ≤ a3) ∧ (a3 ≤ 1)) : a1 = 1 - a3 := by simp only [Int32.le_iff_toInt_le, Int32.lt_iff_toInt_lt, ← Int32.toInt_inj, ne_eq] at *; have l0 : (1 : Int32).toInt = 1 := (by decide); have l1 : (0 : Int32).toInt = 0 := (by decide); have s0 : (1 - a3).toInt = 1 - a3.toInt := q_tS rfl (by omega) (by omega); omega
theorem zz_b40d8e9755 {a1 a2 a3 a4 a5 a6 a7 : Int32} (h0 : a1 = a2 + 1) (h1 : (0 ≤ a3) ∧ (a3 ≤ 240)) (h2 : a4 ≤ (if a5 = 0 then a2 else 300)) (h3 : a6 ≤ a4 + 1) (h4 : a5 = 0) (h5 : ¬ (a3 ≤ a2)) (h6 : -100000 ≤ a4) (h7 : a4 ≤ 100000) (h8 : (0 ≤ a2) ∧ (a2 ≤ 250)) : a6 ≤ (if a7 = 0 then a1 else 300) := by split at h2 <;> split <;> (simp only [Int32.le_iff_toInt_le, Int32.lt_iff_toInt_lt, ← Int32.toInt_inj, ne_eq] at *; have l0 : (1 : Int32).toInt = 1 := (by decide); have l1 : (0 : Int32).toInt = 0 := (by decide); have l2 : (240 : Int32).toInt = 240 := (by decide); have l3 : (300 : Int32).toInt = 300 := (by decide); have l4 : (-100000 : Int32).toInt = -100000 := (by decide); have l5 : (100000 : Int32).toInt = 100000 := (by decide); have l6 : (250 : Int32).toInt = 250 := (by decide); have s0 : (a2 + 1).toInt = a2.toInt + 1 := q_tA (by decide) (by omega) (by omega); have s1 : (a4 + 1).toInt = a4.toInt + 1 := q_tA (by decide) (by omega) (by omega); omega)
theorem zz_7199ec1ef7 {a1 a2 a3 a4 a5 a6 a7 : Int32} (h0 : a1 = 1) (h1 : (0 ≤ a2) ∧ (a2 ≤ 240)) (h2 : a3 ≤ (if a4 = 0 then a5 else 300)) (h3 : a6 ≤ a3 + 1) (h4 : ¬ (a2 ≤ a5)) (h5 : a4 = 0) (h6 : -100000 ≤ a3) (h7 : a3 ≤ 100000) : a6 ≤ (if a1 = 0 then a7 else 300) := by split at h2 <;> split <;> (simp only [Int32.le_iff_toInt_le, Int32.lt_iff_toInt_lt, ← Int32.toInt_inj, ne_eq] at *; have l0 : (1 : Int32).toInt = 1 := (by decide); have l1 : (0 : Int32).toInt = 0 := (by decide); have l2 : (240 : Int32).toInt = 240 := (by decide); have l3 : (300 : Int32).toInt = 300 := (by decide); have l4 : (-100000 : Int32).toInt = -100000 := (by decide); have l5 : (100000 : Int32).toInt = 100000 := (by decide); have s0 : (a3 + 1).toInt = a3.toInt + 1 := q_tA (by decide) (by omega) (by omega); omega)
theorem zz_b16b4edaa4 {a1 : Int32} (h0 : (0 ≤ a1) ∧ (a1 ≤ 4)) (h1 : ¬ (a1 = 0)) : 0 ≤ a1 - 1 := by simp only [Int32.le_iff_toInt_le, Int32.lt_iff_toInt_lt, ← Int32.toInt_inj, ne_eq] at *; have l0 : (0 : Int32).toInt = 0 := (by decide); have l1 : (4 : Int32).toInt = 4 := (by decide); have l2 : (1 : Int32).toInt = 1 := (by decide); have s0 : (a1 - 1).toInt = a1.toInt - 1 := q_tS (by decide) (by omega) (by omega); omega
theorem zz_1ab7778528 {a1 : Int32} (h0 : (0 ≤ a1) ∧ (a1 ≤ 4)) : a1 - 1 ≤ 4 := by simp only [Int32.le_iff_toInt_le, Int32.lt_iff_toInt_lt, ← Int32.toInt_inj, ne_eq] at *; have l0 : (0 : Int32).toInt = 0 := (by decide); have l1 : (4 : Int32).toInt = 4 := (by decide); have l2 : (1 : Int32).toInt = 1 := (by decide); have s0 : (a1 - 1).toInt = a1.toInt - 1 := q_tS (by decide) (by omega) (by omega); omega
theorem zz_c269e88b84 {a1 : Int32} (h0 : 0 ≤ a1 - 1) (h1 : (0 ≤ a1) ∧ (a1 ≤ 4)) : 0 ≤ a1 - 1 := by simp only [Int32.le_iff_toInt_le, Int32.lt_iff_toInt_lt, ← Int32.toInt_inj, ne_eq] at *; have l0 : (0 : Int32).toInt = 0 := (by decide); have l1 : (1 : Int32).toInt = 1 := (by decide); have l2 : (4 : Int32).toInt = 4 := (by decide); have s0 : (a1 - 1).toInt = a1.toInt - 1 := q_tS (by decide) (by omega) (by omega); omega
theorem zz_53de2dda8e {a1 : Int32} (h0 : (0 ≤ a1) ∧ (a1 ≤ 4)) : a1 - 1 < 5 := by simp only [Int32.le_iff_toInt_le, Int32.lt_iff_toInt_lt, ← Int32.toInt_inj, ne_eq] at *; have l0 : (0 : Int32).toInt = 0 := (by decide); have l1 : (4 : Int32).toInt = 4 := (by decide); have l2 : (1 : Int32).toInt = 1 := (by decide); have l3 : (5 : Int32).toInt = 5 := (by decide); have s0 : (a1 - 1).toInt = a1.toInt - 1 := q_tS (by decide) (by omega) (by omega); omega
theorem zz_98ac44a59f {a1 : Int32} (h0 : (0 ≤ a1) ∧ (a1 ≤ 79)) : 0 ≤ a1 := by simp only [Int32.le_iff_toInt_le, Int32.lt_iff_toInt_lt, ← Int32.toInt_inj, ne_eq] at *; have l0 : (0 : Int32).toInt = 0 := (by decide); have l1 : (79 : Int32).toInt = 79 := (by decide); omega
theorem zz_ce1fd79a2a {a1 : Int32} (h0 : (0 ≤ a1) ∧ (a1 ≤ 79)) : a1 < 80 := by simp only [Int32.le_iff_toInt_le, Int32.lt_iff_toInt_lt, ← Int32.toInt_inj, ne_eq] at *; have l0 : (0 : Int32).toInt = 0 := (by decide); have l1 : (79 : Int32).toInt = 79 := (by decide); have l2 : (80 : Int32).toInt = 80 := (by decide); omega
theorem zz_42d6175e32 {a1 : Int32} (h0 : (0 ≤ a1) ∧ (a1 ≤ 40)) : -1 ≤ a1 := by simp only [Int32.le_iff_toInt_le, Int32.lt_iff_toInt_lt, ← Int32.toInt_inj, ne_eq] at *; have l0 : (0 : Int32).toInt = 0 := (by decide); have l1 : (40 : Int32).toInt = 40 := (by decide); have l2 : (-1 : Int32).toInt = -1 := (by decide); omega
theorem zz_db60e9ac98 {a1 a2 : Int32} (h0 : ¬ (a1 ≤ a2)) : a2 ≤ a1 := by simp only [Int32.le_iff_toInt_le, Int32.lt_iff_toInt_lt, ← Int32.toInt_inj, ne_eq] at *; omega
theorem zz_683774fdb6 {a1 a2 a3 : Int32} (h0 : (a1 = 0) → (2 * a2 ≤ a3)) (h1 : a1 = 0) (h2 : (0 ≤ a2) ∧ (a2 ≤ 130)) : 2 * a2 ≤ a3 := by simp only [Int32.le_iff_toInt_le, Int32.lt_iff_toInt_lt, ← Int32.toInt_inj, ne_eq] at *; have l0 : (0 : Int32).toInt = 0 := (by decide); have l1 : (2 : Int32).toInt = 2 := (by decide); have l2 : (130 : Int32).toInt = 130 := (by decide); have s0 : (2 * a2).toInt = 2 * a2.toInt := q_tM (by decide) (by omega) (by omega); omega
theorem zz_243310493b {a1 a2 a3 a4 : Int32} (h0 : (a1 ≤ a2) ∧ ((a3 = 0) → (a2 ≤ a4))) : (a3 = 0) → (a2 ≤ a4) := by simp only [Int32.le_iff_toInt_le, Int32.lt_iff_toInt_lt, ← Int32.toInt_inj, ne_eq] at *; have l0 : (0 : Int32).toInt = 0 := (by decide); omega
theorem zz_f23f963669 {a1 a2 a3 a4 a5 a6 a7 : Int32} (h0 : a1 ≤ (if a2 = 0 then a3 else 300)) (h1 : a4 ≤ a1 + 1) (h2 : (a5 = 0) → ((a3 < a6) ∧ (a6 ≤ a7))) (h3 : (0 ≤ a7) ∧ (a7 ≤ 240)) (h4 : a2 = 0) (h5 : ¬ (a7 ≤ a3)) (h6 : -100000 ≤ a1) (h7 : a1 ≤ 100000) : a4 ≤ (if a5 = 0 then a6 else 300) := by split at h0 <;> split <;> (simp only [Int32.le_iff_toInt_le, Int32.lt_iff_toInt_lt, ← Int32.toInt_inj, ne_eq] at *; have l0 : (0 : Int32).toInt = 0 := (by decide); have l1 : (300 : Int32).toInt = 300 := (by decide); have l2 : (1 : Int32).toInt = 1 := (by decide); have l3 : (240 : Int32).toInt = 240 := (by decide); have l4 : (-100000 : Int32).toInt = -100000 := (by decide); have l5 : (100000 : Int32).toInt = 100000 := (by decide); have s0 : (a1 + 1).toInt = a1.toInt + 1 := q_tA (by decide) (by omega) (by omega); omega)
theorem zz_5e79a8627b {a1 a2 a3 : Int32} (h0 : ¬ (a1 = 0)) (h1 : (a2 = 0) → (a1 = 0)) (h2 : a2 = 0) : a3 ≤ 0 := by simp only [Int32.le_iff_toInt_le, Int32.lt_iff_toInt_lt, ← Int32.toInt_inj, ne_eq] at *; have l0 : (0 : Int32).toInt = 0 := (by decide); omega
set_option maxHeartbeats 8000000 in
theorem p_Mod_parse_92_n {L : q_L} {W : Nat → Prop} {h0 : z_H} {π : Nat → Nat → Option Nat} {N : Nat} {lo : Nat → Int32} (hqn : q_Q lo 301) : ∀ (n : Nat) (v0 : Nat) (h : z_H), q_U L W h0 π h → q_M L π v0 → (∀ a, v0 ≤ a → a < v0 + 46 → W a) → (vI h v0 48 = 0 → vI h v0 41 ≤ vI h v0 3) → (vI h v0 48 = 0 → vA h (v0 + 21) (vI h v0 42) ≤ vI h v0 41) → (vI h v0 48 = 0 → 2 * vA h (v0 + 20) (vI h v0 42) ≤ vI h v0 41) → (vI h v0 48 = 0 → vA h (v0 + 22) (vI h v0 42) ≤ vI h v0 41) → (vI h v0 7 = 1 - vI h v0 42) → (vI h v0 48 = 0 → q_CS h v0 (vI h v0 42)) → (vI h v0 48 = 0 → q_GO h v0 (vI h v0 42) 0) → (q_LB h v0 (vI h v0 42)) → (vI h v0 48 = 0 → q_BL h v0 (vI h v0 42) (vI h v0 43)) → (vI h v0 8 ≠ 0 → q_LV h v0 (vI h v0 7)) → (100000 ≤ N) → (lo n ≤ (if vI h v0 48 = 0 then vI h v0 41 else 300)) → qk (f_Mod_parse_92 N  n v0 h) (fun r => q_U L W h0 π r.2 ∧ (∀ a k, ¬ (a = v0 ∧ (k = 5 ∨ k = 46 ∨ k = 48 ∨ k = 50 ∨ k = 41 ∨ k = 44 ∨ k = 49 ∨ k = 45 ∨ k = 47 ∨ k = 43 ∨ k = 6 ∨ k = 7 ∨ k = 8)) → vI r.2 a k = vI h a k) ∧ (∀ a j, 0 ≤ j → ¬ (a = v0 + 4 ∨ a = v0 + 9 ∨ a = v0 + 10 ∨ a = v0 + 11 ∨ a = v0 + 12 ∨ a = v0 + 13 ∨ a = v0 + 14 ∨ a = v0 + 17 ∨ a = v0 + 18 ∨ a = v0 + 15 ∨ a = v0 + 34 ∨ a = v0 + 35 ∨ a = v0 + 22 ∨ a = v0 + 28 ∨ a = v0 + 21 ∨ a = v0 + 26 ∨ a = v0 + 27 ∨ a = v0 + 29 ∨ a = v0 + 23 ∨ a = v0 + 24 ∨ a = v0 + 25 ∨ a = v0 + 30 ∨ a = v0 + 31 ∨ a = v0 + 20 ∨ a = v0 + 5 ∨ a = v0 + 6 ∨ a = v0 + 7 ∨ a = v0 + 8 ∨ a = v0 + 16 ∨ a = v0 + 19) → vA r.2 a j = vA h a j) ∧ (vI r.2 v0 8 ≠ 0 → q_LV r.2 v0 (vI r.2 v0 7))) := by
  intro n
  induction n with
  | zero => intro v0 h T kv0 wM hl hi hp hc lh CS GO LB BL LV hN hms; have rg_at := g_Mo_41 T kv0; have hz := hqn.1; exact absurd hms (by grind)
  | succ n ih =>
    intro v0 h T kv0 wM hl hi hp hc lh CS GO LB BL LV hN hms
    obtain ⟨hq1, hq2, hq3⟩ := hqn.2 n
    rw [f_Mod_parse_92]
    have O1 : vI h v0 48 = 0 → 0 ≤ vI h v0 43 - 1 → vI h v0 43 - 1 < vI h v0 43 → 40 * vI h v0 42 ≤ vA h (v0 + 35) (vI h v0 43 - 1) ∧ vA h (v0 + 35) (vI h v0 43 - 1) < 40 * vI h v0 42 + vA h (v0 + 19) (vI h v0 42) := fun b i j => ⟨((BL b).1 _ i j).1, ((BL b).1 _ i j).2.1⟩
    refine r_Mo_48 T kv0 ?_
    intro x1 ex1
    subst ex1
    refine qk_if (fun cc1 => ?_) (fun cc1 => ?_)
    · skip
      refine r_Mo_41 T kv0 ?_
      intro x3 ex3 lx3 ux3
      subst ex3
      refine r_Mo_3 T kv0 ?_
      intro x4 ex4 lx4 ux4
      subst ex4
      refine qk_if (fun cc2 => ?_) (fun cc2 => ?_)
      · skip
        unfold f_Mod_parse_228
        refine r_Mo_48 T kv0 ?_
        intro x1i3 ex1i3
        subst ex1i3
        refine qk_if (fun cc4 => ?_) (fun cc4 => ?_)
        · skip
          refine r_Mo_43 T kv0 ?_
          intro x3i3 ex3i3 lx3i3 ux3i3
          subst ex3i3
          refine qk_if (fun cc5 => ?_) (fun cc5 => ?_)
          · skip
            unfold f_Mod_parse_250
            refine r_Mo_o T kv0 ?_
            refine c_Mod_goals (v0 := v0) T kv0 wM (by clear ih; exact GO) (by clear ih; exact LB) hN ?_
            intro r2i6 Tr2i6 gr2i6_0 gr2i6_1 gr2i6_2 gr2i6_3 gr2i6_4
            refine r_Mo_48 Tr2i6 kv0 ?_
            intro x3i6 ex3i6
            subst ex3i6
            refine qk_if (fun cc7 => ?_) (fun cc7 => ?_)
            · skip
              refine w_Mo_6 Tr2i6 kv0 (wM _ (by omega) (by omega)) ?_
              intro h5i6 Th5i6 ih5i6 ah5i6
              refine r_Mo_42 Th5i6 kv0 ?_
              intro x6i6 ex6i6 lx6i6 ux6i6
              have sx6i6 : (vI h v0 42) = x6i6 := (ex6i6.trans (by rw [ih5i6 v0 42, if_neg (fun z => absurd z.2 (by decide)), gr2i6_0 v0 42 (by omega)])).symm
              subst sx6i6
              refine w_Mo_7 Th5i6 kv0 (wM _ (by omega) (by omega)) lx6i6 ux6i6 ?_
              intro h7i6 Th7i6 ih7i6 ah7i6
              refine w_Mo_8 Th7i6 kv0 (wM _ (by omega) (by omega)) ?_
              intro h8i6 Th8i6 ih8i6 ah8i6
              refine r_Mo_24 Th8i6 kv0 ?_
              refine r_Mo_7 Th8i6 kv0 ?_
              intro x10i6 ex10i6 lx10i6 ux10i6
              have sx10i6 : vI h v0 42 = x10i6 := (ex10i6.trans (by rw [ih8i6 v0 7, if_neg (fun z => absurd z.2 (by decide)), ih7i6 v0 7, if_pos ⟨rfl, rfl⟩])).symm
              subst sx10i6
              have o8 := g_Mo_42 T kv0
              refine r_Mo_e19 Th8i6 kv0 lx10i6 (zz_e1f2e57bfa o8) ?_
              intro x11i6 ex11i6 lx11i6 ux11i6
              have sx11i6 : (vA h (v0 + 19) (vI h v0 42)) = x11i6 := (ex11i6.trans (by rw [ah8i6 (v0 + 19) (vI h v0 42), ah7i6 (v0 + 19) (vI h v0 42), ah5i6 (v0 + 19) (vI h v0 42), gr2i6_1 (v0 + 19) (vI h v0 42) lx10i6 (by omega)])).symm
              subst sx11i6
              refine qk_some ?_
              exact ⟨Th8i6, (by clear ih; show ∀ a k, ¬ (a = v0 ∧ (k = 5 ∨ k = 46 ∨ k = 48 ∨ k = 50 ∨ k = 41 ∨ k = 44 ∨ k = 49 ∨ k = 45 ∨ k = 47 ∨ k = 43 ∨ k = 6 ∨ k = 7 ∨ k = 8)) → vI h8i6 a k = vI h a k; intro a k n0; rw [ih8i6, if_neg (by omega), ih7i6, if_neg (by omega), ih5i6, if_neg (by omega), gr2i6_0 a k (by omega)]), (by clear ih; show ∀ a j, 0 ≤ j → ¬ (a = v0 + 4 ∨ a = v0 + 9 ∨ a = v0 + 10 ∨ a = v0 + 11 ∨ a = v0 + 12 ∨ a = v0 + 13 ∨ a = v0 + 14 ∨ a = v0 + 17 ∨ a = v0 + 18 ∨ a = v0 + 15 ∨ a = v0 + 34 ∨ a = v0 + 35 ∨ a = v0 + 22 ∨ a = v0 + 28 ∨ a = v0 + 21 ∨ a = v0 + 26 ∨ a = v0 + 27 ∨ a = v0 + 29 ∨ a = v0 + 23 ∨ a = v0 + 24 ∨ a = v0 + 25 ∨ a = v0 + 30 ∨ a = v0 + 31 ∨ a = v0 + 20 ∨ a = v0 + 5 ∨ a = v0 + 6 ∨ a = v0 + 7 ∨ a = v0 + 8 ∨ a = v0 + 16 ∨ a = v0 + 19) → vA h8i6 a j = vA h a j; intro a j j0 n0; rw [ah8i6, ah7i6, ah5i6, gr2i6_1 a j j0 (by omega)]), (by clear ih; show vI h8i6 v0 8 ≠ 0 → q_LV h8i6 v0 (vI h8i6 v0 7); intro p8; rw [ih8i6 v0 7, if_neg (fun z => absurd z.2 (by decide)), ih7i6 v0 7, if_pos ⟨rfl, rfl⟩]; exact q_LV_fin (CS cc4) (BL cc4) (g_Mo_42 T kv0).1 (g_Mo_42 T kv0).2 (g_Mo_e19 T kv0 (vI h v0 42)).2 (g_Mo_e22 T kv0 (vI h v0 42)).1 (g_Mo_e22 T kv0 (vI h v0 42)).2 cc5 (fun a j j0 na => by rw [ah8i6, ah7i6, ah5i6, gr2i6_1 a j j0 (by omega)]) (fun j j0 n0 n1 => by rw [ah8i6 (v0 + 13) j, ah7i6 (v0 + 13) j, ah5i6 (v0 + 13) j]; exact gr2i6_3 j j0 n0 n1))⟩
            · skip
              refine r_Mo_o Tr2i6 kv0 ?_
              refine c_Mod_fail (v0 := v0) (v1 := 1) Tr2i6 kv0 wM ?_
              intro yr13i6 hr13i6 Tr13i6 gr13i6_0 gr13i6_1 gr13i6_2
              dsimp only
              refine qk_some ?_
              have o9 := g_Mo_42 T kv0
              exact ⟨Tr13i6, (by clear ih; show ∀ a k, ¬ (a = v0 ∧ (k = 5 ∨ k = 46 ∨ k = 48 ∨ k = 50 ∨ k = 41 ∨ k = 44 ∨ k = 49 ∨ k = 45 ∨ k = 47 ∨ k = 43 ∨ k = 6 ∨ k = 7 ∨ k = 8)) → vI hr13i6 a k = vI h a k; intro a k n0; rw [gr13i6_1 a k, if_neg (by omega), gr2i6_0 a k (by omega)]), (by clear ih; show ∀ a j, 0 ≤ j → ¬ (a = v0 + 4 ∨ a = v0 + 9 ∨ a = v0 + 10 ∨ a = v0 + 11 ∨ a = v0 + 12 ∨ a = v0 + 13 ∨ a = v0 + 14 ∨ a = v0 + 17 ∨ a = v0 + 18 ∨ a = v0 + 15 ∨ a = v0 + 34 ∨ a = v0 + 35 ∨ a = v0 + 22 ∨ a = v0 + 28 ∨ a = v0 + 21 ∨ a = v0 + 26 ∨ a = v0 + 27 ∨ a = v0 + 29 ∨ a = v0 + 23 ∨ a = v0 + 24 ∨ a = v0 + 25 ∨ a = v0 + 30 ∨ a = v0 + 31 ∨ a = v0 + 20 ∨ a = v0 + 5 ∨ a = v0 + 6 ∨ a = v0 + 7 ∨ a = v0 + 8 ∨ a = v0 + 16 ∨ a = v0 + 19) → vA hr13i6 a j = vA h a j; intro a j j0 n0; rw [gr13i6_2 a j, gr2i6_1 a j j0 (by omega)]), (by clear ih; show vI hr13i6 v0 8 ≠ 0 → q_LV hr13i6 v0 (vI hr13i6 v0 7); intro p8; rw [gr13i6_1 v0 8, if_neg (fun z => absurd z.2 (by decide)), gr2i6_0 v0 8 (by omega)] at p8; rw [gr13i6_1 v0 7, if_neg (fun z => absurd z.2 (by decide)), gr2i6_0 v0 7 (by omega)]; exact q_LV_goals (LV p8) (g_Mo_42 T kv0).1 (g_Mo_42 T kv0).2 lh (g_Mo_e19 T kv0 (vI h v0 7)).2 (g_Mo_e22 T kv0 (vI h v0 7)).1 (g_Mo_e22 T kv0 (vI h v0 7)).2 (fun a j j0 na => by rw [gr13i6_2 a j, gr2i6_1 a j j0 (by omega)]) (fun j j0 jj => by rw [gr13i6_2 (v0 + 13) j, gr2i6_2 j j0 (zz_098ca6c8f2 jj o9)]))⟩
          · skip
            refine r_Mo_3 T kv0 ?_
            intro x5i3 ex5i3 lx5i3 ux5i3
            subst ex5i3
            refine r_Mo_o T kv0 ?_
            refine c_Mod_wrong (v0 := v0) (v1 := (vI h v0 3)) T kv0 wM ?_
            intro r7i3 Tr7i3 gr7i3_0 gr7i3_1 gr7i3_2
            unfold f_Mod_parse_250
            refine r_Mo_o Tr7i3 kv0 ?_
            refine c_Mod_goals (v0 := v0) Tr7i3 kv0 wM (by clear ih; intro bb; exact absurd bb (zz_f5f80cd091 gr7i3_1)) (by clear ih; rw [show vI r7i3 v0 42 = vI h v0 42 from (by rw [gr7i3_0 v0 42 (by omega)])]; exact q_LB_eq LB (fun j j0 => by rw [gr7i3_2 (v0 + 34) j])) hN ?_
            intro r2i10 Tr2i10 gr2i10_0 gr2i10_1 gr2i10_2 gr2i10_3 gr2i10_4
            have qh42_gr2i10_0 : vI r7i3 v0 42 = (vI h v0 42) := by rw [gr7i3_0 v0 42 (by omega)]
            rw [qh42_gr2i10_0] at gr2i10_2
            refine r_Mo_48 Tr2i10 kv0 ?_
            intro x3i10 ex3i10
            subst ex3i10
            refine qk_if (fun cc11 => ?_) (fun cc11 => ?_)
            · skip
              refine w_Mo_6 Tr2i10 kv0 (wM _ (by omega) (by omega)) ?_
              intro h5i10 Th5i10 ih5i10 ah5i10
              refine r_Mo_42 Th5i10 kv0 ?_
              intro x6i10 ex6i10 lx6i10 ux6i10
              have sx6i10 : (vI h v0 42) = x6i10 := (ex6i10.trans (by rw [ih5i10 v0 42, if_neg (fun z => absurd z.2 (by decide)), gr2i10_0 v0 42 (by omega), gr7i3_0 v0 42 (by omega)])).symm
              subst sx6i10
              refine w_Mo_7 Th5i10 kv0 (wM _ (by omega) (by omega)) lx6i10 ux6i10 ?_
              intro h7i10 Th7i10 ih7i10 ah7i10
              refine w_Mo_8 Th7i10 kv0 (wM _ (by omega) (by omega)) ?_
              intro h8i10 Th8i10 ih8i10 ah8i10
              refine r_Mo_24 Th8i10 kv0 ?_
              refine r_Mo_7 Th8i10 kv0 ?_
              intro x10i10 ex10i10 lx10i10 ux10i10
              have sx10i10 : vI h v0 42 = x10i10 := (ex10i10.trans (by rw [ih8i10 v0 7, if_neg (fun z => absurd z.2 (by decide)), ih7i10 v0 7, if_pos ⟨rfl, rfl⟩])).symm
              subst sx10i10
              have o12 := g_Mo_42 T kv0
              refine r_Mo_e19 Th8i10 kv0 lx10i10 (zz_e1f2e57bfa o12) ?_
              intro x11i10 ex11i10 lx11i10 ux11i10
              have sx11i10 : (vA h (v0 + 19) (vI h v0 42)) = x11i10 := (ex11i10.trans (by rw [ah8i10 (v0 + 19) (vI h v0 42), ah7i10 (v0 + 19) (vI h v0 42), ah5i10 (v0 + 19) (vI h v0 42), gr2i10_1 (v0 + 19) (vI h v0 42) lx10i10 (by omega), gr7i3_2 (v0 + 19) (vI h v0 42)])).symm
              subst sx11i10
              refine qk_some ?_
              have o13 : vI r7i3 v0 48 = 1 := (by rw [gr7i3_1])
              exact ⟨Th8i10, (by clear ih; show ∀ a k, ¬ (a = v0 ∧ (k = 5 ∨ k = 46 ∨ k = 48 ∨ k = 50 ∨ k = 41 ∨ k = 44 ∨ k = 49 ∨ k = 45 ∨ k = 47 ∨ k = 43 ∨ k = 6 ∨ k = 7 ∨ k = 8)) → vI h8i10 a k = vI h a k; intro a k n0; rw [ih8i10, if_neg (by omega), ih7i10, if_neg (by omega), ih5i10, if_neg (by omega), gr2i10_0 a k (by omega), gr7i3_0 a k (by omega)]), (by clear ih; show ∀ a j, 0 ≤ j → ¬ (a = v0 + 4 ∨ a = v0 + 9 ∨ a = v0 + 10 ∨ a = v0 + 11 ∨ a = v0 + 12 ∨ a = v0 + 13 ∨ a = v0 + 14 ∨ a = v0 + 17 ∨ a = v0 + 18 ∨ a = v0 + 15 ∨ a = v0 + 34 ∨ a = v0 + 35 ∨ a = v0 + 22 ∨ a = v0 + 28 ∨ a = v0 + 21 ∨ a = v0 + 26 ∨ a = v0 + 27 ∨ a = v0 + 29 ∨ a = v0 + 23 ∨ a = v0 + 24 ∨ a = v0 + 25 ∨ a = v0 + 30 ∨ a = v0 + 31 ∨ a = v0 + 20 ∨ a = v0 + 5 ∨ a = v0 + 6 ∨ a = v0 + 7 ∨ a = v0 + 8 ∨ a = v0 + 16 ∨ a = v0 + 19) → vA h8i10 a j = vA h a j; intro a j j0 n0; rw [ah8i10, ah7i10, ah5i10, gr2i10_1 a j j0 (by omega), gr7i3_2 a j]), (by clear ih; show vI h8i10 v0 8 ≠ 0 → q_LV h8i10 v0 (vI h8i10 v0 7); exact absurd cc11 (zz_1abbd7ede0 o13 gr2i10_4))⟩
            · skip
              refine r_Mo_o Tr2i10 kv0 ?_
              refine c_Mod_fail (v0 := v0) (v1 := 1) Tr2i10 kv0 wM ?_
              intro yr13i10 hr13i10 Tr13i10 gr13i10_0 gr13i10_1 gr13i10_2
              dsimp only
              refine qk_some ?_
              have o14 := g_Mo_42 T kv0
              exact ⟨Tr13i10, (by clear ih; show ∀ a k, ¬ (a = v0 ∧ (k = 5 ∨ k = 46 ∨ k = 48 ∨ k = 50 ∨ k = 41 ∨ k = 44 ∨ k = 49 ∨ k = 45 ∨ k = 47 ∨ k = 43 ∨ k = 6 ∨ k = 7 ∨ k = 8)) → vI hr13i10 a k = vI h a k; intro a k n0; rw [gr13i10_1 a k, if_neg (by omega), gr2i10_0 a k (by omega), gr7i3_0 a k (by omega)]), (by clear ih; show ∀ a j, 0 ≤ j → ¬ (a = v0 + 4 ∨ a = v0 + 9 ∨ a = v0 + 10 ∨ a = v0 + 11 ∨ a = v0 + 12 ∨ a = v0 + 13 ∨ a = v0 + 14 ∨ a = v0 + 17 ∨ a = v0 + 18 ∨ a = v0 + 15 ∨ a = v0 + 34 ∨ a = v0 + 35 ∨ a = v0 + 22 ∨ a = v0 + 28 ∨ a = v0 + 21 ∨ a = v0 + 26 ∨ a = v0 + 27 ∨ a = v0 + 29 ∨ a = v0 + 23 ∨ a = v0 + 24 ∨ a = v0 + 25 ∨ a = v0 + 30 ∨ a = v0 + 31 ∨ a = v0 + 20 ∨ a = v0 + 5 ∨ a = v0 + 6 ∨ a = v0 + 7 ∨ a = v0 + 8 ∨ a = v0 + 16 ∨ a = v0 + 19) → vA hr13i10 a j = vA h a j; intro a j j0 n0; rw [gr13i10_2 a j, gr2i10_1 a j j0 (by omega), gr7i3_2 a j]), (by clear ih; show vI hr13i10 v0 8 ≠ 0 → q_LV hr13i10 v0 (vI hr13i10 v0 7); intro p8; rw [gr13i10_1 v0 8, if_neg (fun z => absurd z.2 (by decide)), gr2i10_0 v0 8 (by omega), gr7i3_0 v0 8 (by omega)] at p8; rw [gr13i10_1 v0 7, if_neg (fun z => absurd z.2 (by decide)), gr2i10_0 v0 7 (by omega), gr7i3_0 v0 7 (by omega)]; exact q_LV_goals (LV p8) (g_Mo_42 T kv0).1 (g_Mo_42 T kv0).2 lh (g_Mo_e19 T kv0 (vI h v0 7)).2 (g_Mo_e22 T kv0 (vI h v0 7)).1 (g_Mo_e22 T kv0 (vI h v0 7)).2 (fun a j j0 na => by rw [gr13i10_2 a j, gr2i10_1 a j j0 (by omega), gr7i3_2 a j]) (fun j j0 jj => by rw [gr13i10_2 (v0 + 13) j, gr2i10_2 j j0 (zz_098ca6c8f2 jj o14), gr7i3_2 (v0 + 13) j]))⟩
        · skip
          unfold f_Mod_parse_250
          refine r_Mo_o T kv0 ?_
          refine c_Mod_goals (v0 := v0) T kv0 wM (by clear ih; exact GO) (by clear ih; exact LB) hN ?_
          intro r2i15 Tr2i15 gr2i15_0 gr2i15_1 gr2i15_2 gr2i15_3 gr2i15_4
          refine r_Mo_48 Tr2i15 kv0 ?_
          intro x3i15 ex3i15
          subst ex3i15
          refine qk_if (fun cc16 => ?_) (fun cc16 => ?_)
          · skip
            refine w_Mo_6 Tr2i15 kv0 (wM _ (by omega) (by omega)) ?_
            intro h5i15 Th5i15 ih5i15 ah5i15
            refine r_Mo_42 Th5i15 kv0 ?_
            intro x6i15 ex6i15 lx6i15 ux6i15
            have sx6i15 : (vI h v0 42) = x6i15 := (ex6i15.trans (by rw [ih5i15 v0 42, if_neg (fun z => absurd z.2 (by decide)), gr2i15_0 v0 42 (by omega)])).symm
            subst sx6i15
            refine w_Mo_7 Th5i15 kv0 (wM _ (by omega) (by omega)) lx6i15 ux6i15 ?_
            intro h7i15 Th7i15 ih7i15 ah7i15
            refine w_Mo_8 Th7i15 kv0 (wM _ (by omega) (by omega)) ?_
            intro h8i15 Th8i15 ih8i15 ah8i15
            refine r_Mo_24 Th8i15 kv0 ?_
            refine r_Mo_7 Th8i15 kv0 ?_
            intro x10i15 ex10i15 lx10i15 ux10i15
            have sx10i15 : vI h v0 42 = x10i15 := (ex10i15.trans (by rw [ih8i15 v0 7, if_neg (fun z => absurd z.2 (by decide)), ih7i15 v0 7, if_pos ⟨rfl, rfl⟩])).symm
            subst sx10i15
            have o17 := g_Mo_42 T kv0
            refine r_Mo_e19 Th8i15 kv0 lx10i15 (zz_e1f2e57bfa o17) ?_
            intro x11i15 ex11i15 lx11i15 ux11i15
            have sx11i15 : (vA h (v0 + 19) (vI h v0 42)) = x11i15 := (ex11i15.trans (by rw [ah8i15 (v0 + 19) (vI h v0 42), ah7i15 (v0 + 19) (vI h v0 42), ah5i15 (v0 + 19) (vI h v0 42), gr2i15_1 (v0 + 19) (vI h v0 42) lx10i15 (by omega)])).symm
            subst sx11i15
            refine qk_some ?_
            exact ⟨Th8i15, (by clear ih; show ∀ a k, ¬ (a = v0 ∧ (k = 5 ∨ k = 46 ∨ k = 48 ∨ k = 50 ∨ k = 41 ∨ k = 44 ∨ k = 49 ∨ k = 45 ∨ k = 47 ∨ k = 43 ∨ k = 6 ∨ k = 7 ∨ k = 8)) → vI h8i15 a k = vI h a k; intro a k n0; rw [ih8i15, if_neg (by omega), ih7i15, if_neg (by omega), ih5i15, if_neg (by omega), gr2i15_0 a k (by omega)]), (by clear ih; show ∀ a j, 0 ≤ j → ¬ (a = v0 + 4 ∨ a = v0 + 9 ∨ a = v0 + 10 ∨ a = v0 + 11 ∨ a = v0 + 12 ∨ a = v0 + 13 ∨ a = v0 + 14 ∨ a = v0 + 17 ∨ a = v0 + 18 ∨ a = v0 + 15 ∨ a = v0 + 34 ∨ a = v0 + 35 ∨ a = v0 + 22 ∨ a = v0 + 28 ∨ a = v0 + 21 ∨ a = v0 + 26 ∨ a = v0 + 27 ∨ a = v0 + 29 ∨ a = v0 + 23 ∨ a = v0 + 24 ∨ a = v0 + 25 ∨ a = v0 + 30 ∨ a = v0 + 31 ∨ a = v0 + 20 ∨ a = v0 + 5 ∨ a = v0 + 6 ∨ a = v0 + 7 ∨ a = v0 + 8 ∨ a = v0 + 16 ∨ a = v0 + 19) → vA h8i15 a j = vA h a j; intro a j j0 n0; rw [ah8i15, ah7i15, ah5i15, gr2i15_1 a j j0 (by omega)]), (by clear ih; show vI h8i15 v0 8 ≠ 0 → q_LV h8i15 v0 (vI h8i15 v0 7); intro p8; rw [ih8i15 v0 7, if_neg (fun z => absurd z.2 (by decide)), ih7i15 v0 7, if_pos ⟨rfl, rfl⟩]; exact q_LV_fin (CS cc1) (BL cc1) (g_Mo_42 T kv0).1 (g_Mo_42 T kv0).2 (g_Mo_e19 T kv0 (vI h v0 42)).2 (g_Mo_e22 T kv0 (vI h v0 42)).1 (g_Mo_e22 T kv0 (vI h v0 42)).2 (zz_c9211604f5 cc1 cc4) (fun a j j0 na => by rw [ah8i15, ah7i15, ah5i15, gr2i15_1 a j j0 (by omega)]) (fun j j0 n0 n1 => by rw [ah8i15 (v0 + 13) j, ah7i15 (v0 + 13) j, ah5i15 (v0 + 13) j]; exact gr2i15_3 j j0 n0 n1))⟩
          · skip
            refine r_Mo_o Tr2i15 kv0 ?_
            refine c_Mod_fail (v0 := v0) (v1 := 1) Tr2i15 kv0 wM ?_
            intro yr13i15 hr13i15 Tr13i15 gr13i15_0 gr13i15_1 gr13i15_2
            dsimp only
            refine qk_some ?_
            have o18 := g_Mo_42 T kv0
            exact ⟨Tr13i15, (by clear ih; show ∀ a k, ¬ (a = v0 ∧ (k = 5 ∨ k = 46 ∨ k = 48 ∨ k = 50 ∨ k = 41 ∨ k = 44 ∨ k = 49 ∨ k = 45 ∨ k = 47 ∨ k = 43 ∨ k = 6 ∨ k = 7 ∨ k = 8)) → vI hr13i15 a k = vI h a k; intro a k n0; rw [gr13i15_1 a k, if_neg (by omega), gr2i15_0 a k (by omega)]), (by clear ih; show ∀ a j, 0 ≤ j → ¬ (a = v0 + 4 ∨ a = v0 + 9 ∨ a = v0 + 10 ∨ a = v0 + 11 ∨ a = v0 + 12 ∨ a = v0 + 13 ∨ a = v0 + 14 ∨ a = v0 + 17 ∨ a = v0 + 18 ∨ a = v0 + 15 ∨ a = v0 + 34 ∨ a = v0 + 35 ∨ a = v0 + 22 ∨ a = v0 + 28 ∨ a = v0 + 21 ∨ a = v0 + 26 ∨ a = v0 + 27 ∨ a = v0 + 29 ∨ a = v0 + 23 ∨ a = v0 + 24 ∨ a = v0 + 25 ∨ a = v0 + 30 ∨ a = v0 + 31 ∨ a = v0 + 20 ∨ a = v0 + 5 ∨ a = v0 + 6 ∨ a = v0 + 7 ∨ a = v0 + 8 ∨ a = v0 + 16 ∨ a = v0 + 19) → vA hr13i15 a j = vA h a j; intro a j j0 n0; rw [gr13i15_2 a j, gr2i15_1 a j j0 (by omega)]), (by clear ih; show vI hr13i15 v0 8 ≠ 0 → q_LV hr13i15 v0 (vI hr13i15 v0 7); intro p8; rw [gr13i15_1 v0 8, if_neg (fun z => absurd z.2 (by decide)), gr2i15_0 v0 8 (by omega)] at p8; rw [gr13i15_1 v0 7, if_neg (fun z => absurd z.2 (by decide)), gr2i15_0 v0 7 (by omega)]; exact q_LV_goals (LV p8) (g_Mo_42 T kv0).1 (g_Mo_42 T kv0).2 lh (g_Mo_e19 T kv0 (vI h v0 7)).2 (g_Mo_e22 T kv0 (vI h v0 7)).1 (g_Mo_e22 T kv0 (vI h v0 7)).2 (fun a j j0 na => by rw [gr13i15_2 a j, gr2i15_1 a j j0 (by omega)]) (fun j j0 jj => by rw [gr13i15_2 (v0 + 13) j, gr2i15_2 j j0 (zz_098ca6c8f2 jj o18)]))⟩
      · skip
        refine r_Mo_0 T kv0 ?_
        refine r_Mo_41 T kv0 ?_
        intro x7 ex7 lx7 ux7
        subst ex7
        have o19 := g_Mo_3 T kv0
        refine r_Mo_e1 T kv0 lx7 (zz_9422ca4c01 o19 cc2) ?_
        intro x8 ex8 lx8 ux8
        subst ex8
        refine qk_if (fun cc20 => ?_) (fun cc20 => ?_)
        · skip
          unfold f_Mod_parse_138
          refine r_Mo_41 T kv0 ?_
          intro x1i21 ex1i21 lx1i21 ux1i21
          subst ex1i21
          have o22 := g_Mo_41 T kv0
          refine w_Mo_41 T kv0 (wM _ (by omega) (by omega)) (zz_5664edf06b o22) (zz_28e3c2c5fa o19 cc2 o22) ?_
          intro h2i21 Th2i21 ih2i21 ah2i21
          have o23 : vI h2i21 v0 41 = (vI h v0 41) + 1 := (by rw [ih2i21 v0 41, if_pos ⟨rfl, rfl⟩])
          have o24 : vI h2i21 v0 3 = vI h v0 3 := (by rw [ih2i21 v0 3, if_neg (fun z => absurd z.2 (by decide))])
          have o25 : vA h2i21 (v0 + 21) (vI h v0 42) = vA h (v0 + 21) (vI h v0 42) := (by rw [ah2i21 (v0 + 21) (vI h v0 42)])
          have o26 : vA h2i21 (v0 + 20) (vI h v0 42) = vA h (v0 + 20) (vI h v0 42) := (by rw [ah2i21 (v0 + 20) (vI h v0 42)])
          have o27 := g_Mo_e20 T kv0 (vI h v0 42)
          have o28 : vA h2i21 (v0 + 22) (vI h v0 42) = vA h (v0 + 22) (vI h v0 42) := (by rw [ah2i21 (v0 + 22) (vI h v0 42)])
          have o29 : vI h2i21 v0 7 = vI h v0 7 := (by rw [ih2i21 v0 7, if_neg (fun z => absurd z.2 (by decide))])
          have o30 := g_Mo_42 T kv0
          refine qk_mono (ih (v0) h2i21 Th2i21 kv0 wM (zz_552f7b81ed o23 o24 cc2 o22) (by show vI h2i21 v0 48 = 0 → vA h2i21 (v0 + 21) (vI h2i21 v0 42) ≤ vI h2i21 v0 41; have qc1 : vI h2i21 v0 42 = (vI h v0 42) := (by rw [ih2i21 v0 42, if_neg (fun z => absurd z.2 (by decide))]); rw [qc1]; exact zz_b62e0579eb o25 o23 hi cc1 o22) (by show vI h2i21 v0 48 = 0 → 2 * vA h2i21 (v0 + 20) (vI h2i21 v0 42) ≤ vI h2i21 v0 41; have qc1 : vI h2i21 v0 42 = (vI h v0 42) := (by rw [ih2i21 v0 42, if_neg (fun z => absurd z.2 (by decide))]); rw [qc1]; exact zz_3c800e74c6 o26 o23 hp cc1 o27 o22) (by show vI h2i21 v0 48 = 0 → vA h2i21 (v0 + 22) (vI h2i21 v0 42) ≤ vI h2i21 v0 41; have qc1 : vI h2i21 v0 42 = (vI h v0 42) := (by rw [ih2i21 v0 42, if_neg (fun z => absurd z.2 (by decide))]); rw [qc1]; exact zz_b62e0579eb o28 o23 hc cc1 o22) (by show vI h2i21 v0 7 = 1 - vI h2i21 v0 42; have qc1 : vI h2i21 v0 42 = (vI h v0 42) := (by rw [ih2i21 v0 42, if_neg (fun z => absurd z.2 (by decide))]); rw [qc1]; exact zz_d40b784e6c o29 lh o30) (by clear ih; intro bb; rw [show vI h2i21 v0 42 = vI h v0 42 from (by rw [ih2i21 v0 42, if_neg (fun z => absurd z.2 (by decide))])]; exact q_CS_same (CS cc1) (g_Mo_42 T kv0).1 (g_Mo_42 T kv0).2 (g_Mo_e19 T kv0 (vI h v0 42)).2 (g_Mo_e22 T kv0 (vI h v0 42)).1 (g_Mo_e22 T kv0 (vI h v0 42)).2 (fun a j j0 na => by rw [ah2i21])) (by clear ih; intro bb; rw [show vI h2i21 v0 42 = vI h v0 42 from (by rw [ih2i21 v0 42, if_neg (fun z => absurd z.2 (by decide))])]; have z := GO cc1; unfold q_GO at z ⊢; simp only [ah2i21]; exact z) (by clear ih; rw [show vI h2i21 v0 42 = vI h v0 42 from (by rw [ih2i21 v0 42, if_neg (fun z => absurd z.2 (by decide))])]; exact q_LB_eq LB (fun j j0 => by rw [ah2i21 (v0 + 34) j])) (by clear ih; intro bb; rw [show vI h2i21 v0 42 = vI h v0 42 from (by rw [ih2i21 v0 42, if_neg (fun z => absurd z.2 (by decide))])]; rw [show vI h2i21 v0 43 = vI h v0 43 from (by rw [ih2i21 v0 43, if_neg (fun z => absurd z.2 (by decide))])]; have z := BL cc1; unfold q_BL at z ⊢; simp only [ah2i21]; exact z) (by clear ih; intro p8; rw [ih2i21 v0 8, if_neg (fun z => absurd z.2 (by decide))] at p8; rw [ih2i21 v0 7, if_neg (fun z => absurd z.2 (by decide))]; exact q_LV_same (LV p8) (q_hl (g_Mo_42 T kv0).1 (g_Mo_42 T kv0).2 lh).1 (q_hl (g_Mo_42 T kv0).1 (g_Mo_42 T kv0).2 lh).2.1 (g_Mo_e19 T kv0 (vI h v0 7)).2 (g_Mo_e22 T kv0 (vI h v0 7)).1 (g_Mo_e22 T kv0 (vI h v0 7)).2 (fun a j j0 na => by rw [ah2i21]) (fun j j0 _ _ => by rw [ah2i21])) hN (zz_b40d8e9755 o23 o19 hms hq1 cc1 cc2 hq2 hq3 o22)) ?_
          rintro ⟨y, hz⟩ ⟨Tz, g0, g1, g2⟩
          try dsimp only at *
          exact ⟨Tz, (by clear ih; show ∀ a k, ¬ (a = v0 ∧ (k = 5 ∨ k = 46 ∨ k = 48 ∨ k = 50 ∨ k = 41 ∨ k = 44 ∨ k = 49 ∨ k = 45 ∨ k = 47 ∨ k = 43 ∨ k = 6 ∨ k = 7 ∨ k = 8)) → vI hz a k = vI h a k; intro a k n0; rw [g0 a k (by omega), ih2i21, if_neg (by omega)]), (by clear ih; show ∀ a j, 0 ≤ j → ¬ (a = v0 + 4 ∨ a = v0 + 9 ∨ a = v0 + 10 ∨ a = v0 + 11 ∨ a = v0 + 12 ∨ a = v0 + 13 ∨ a = v0 + 14 ∨ a = v0 + 17 ∨ a = v0 + 18 ∨ a = v0 + 15 ∨ a = v0 + 34 ∨ a = v0 + 35 ∨ a = v0 + 22 ∨ a = v0 + 28 ∨ a = v0 + 21 ∨ a = v0 + 26 ∨ a = v0 + 27 ∨ a = v0 + 29 ∨ a = v0 + 23 ∨ a = v0 + 24 ∨ a = v0 + 25 ∨ a = v0 + 30 ∨ a = v0 + 31 ∨ a = v0 + 20 ∨ a = v0 + 5 ∨ a = v0 + 6 ∨ a = v0 + 7 ∨ a = v0 + 8 ∨ a = v0 + 16 ∨ a = v0 + 19) → vA hz a j = vA h a j; intro a j j0 n0; rw [g1 a j j0 (by omega), ah2i21]), (by clear ih; show vI hz v0 8 ≠ 0 → q_LV hz v0 (vI hz v0 7); exact g2)⟩
        · skip
          refine qk_if (fun cc32 => ?_) (fun cc32 => ?_)
          · skip
            unfold f_Mod_parse_138
            refine r_Mo_41 T kv0 ?_
            intro x1i33 ex1i33 lx1i33 ux1i33
            subst ex1i33
            have o34 := g_Mo_41 T kv0
            refine w_Mo_41 T kv0 (wM _ (by omega) (by omega)) (zz_5664edf06b o34) (zz_28e3c2c5fa o19 cc2 o34) ?_
            intro h2i33 Th2i33 ih2i33 ah2i33
            have o35 : vI h2i33 v0 41 = (vI h v0 41) + 1 := (by rw [ih2i33 v0 41, if_pos ⟨rfl, rfl⟩])
            have o36 : vI h2i33 v0 3 = vI h v0 3 := (by rw [ih2i33 v0 3, if_neg (fun z => absurd z.2 (by decide))])
            have o37 : vA h2i33 (v0 + 21) (vI h v0 42) = vA h (v0 + 21) (vI h v0 42) := (by rw [ah2i33 (v0 + 21) (vI h v0 42)])
            have o38 : vA h2i33 (v0 + 20) (vI h v0 42) = vA h (v0 + 20) (vI h v0 42) := (by rw [ah2i33 (v0 + 20) (vI h v0 42)])
            have o39 := g_Mo_e20 T kv0 (vI h v0 42)
            have o40 : vA h2i33 (v0 + 22) (vI h v0 42) = vA h (v0 + 22) (vI h v0 42) := (by rw [ah2i33 (v0 + 22) (vI h v0 42)])
            have o41 : vI h2i33 v0 7 = vI h v0 7 := (by rw [ih2i33 v0 7, if_neg (fun z => absurd z.2 (by decide))])
            have o42 := g_Mo_42 T kv0
            refine qk_mono (ih (v0) h2i33 Th2i33 kv0 wM (zz_552f7b81ed o35 o36 cc2 o34) (by show vI h2i33 v0 48 = 0 → vA h2i33 (v0 + 21) (vI h2i33 v0 42) ≤ vI h2i33 v0 41; have qc1 : vI h2i33 v0 42 = (vI h v0 42) := (by rw [ih2i33 v0 42, if_neg (fun z => absurd z.2 (by decide))]); rw [qc1]; exact zz_b62e0579eb o37 o35 hi cc1 o34) (by show vI h2i33 v0 48 = 0 → 2 * vA h2i33 (v0 + 20) (vI h2i33 v0 42) ≤ vI h2i33 v0 41; have qc1 : vI h2i33 v0 42 = (vI h v0 42) := (by rw [ih2i33 v0 42, if_neg (fun z => absurd z.2 (by decide))]); rw [qc1]; exact zz_3c800e74c6 o38 o35 hp cc1 o39 o34) (by show vI h2i33 v0 48 = 0 → vA h2i33 (v0 + 22) (vI h2i33 v0 42) ≤ vI h2i33 v0 41; have qc1 : vI h2i33 v0 42 = (vI h v0 42) := (by rw [ih2i33 v0 42, if_neg (fun z => absurd z.2 (by decide))]); rw [qc1]; exact zz_b62e0579eb o40 o35 hc cc1 o34) (by show vI h2i33 v0 7 = 1 - vI h2i33 v0 42; have qc1 : vI h2i33 v0 42 = (vI h v0 42) := (by rw [ih2i33 v0 42, if_neg (fun z => absurd z.2 (by decide))]); rw [qc1]; exact zz_d40b784e6c o41 lh o42) (by clear ih; intro bb; rw [show vI h2i33 v0 42 = vI h v0 42 from (by rw [ih2i33 v0 42, if_neg (fun z => absurd z.2 (by decide))])]; exact q_CS_same (CS cc1) (g_Mo_42 T kv0).1 (g_Mo_42 T kv0).2 (g_Mo_e19 T kv0 (vI h v0 42)).2 (g_Mo_e22 T kv0 (vI h v0 42)).1 (g_Mo_e22 T kv0 (vI h v0 42)).2 (fun a j j0 na => by rw [ah2i33])) (by clear ih; intro bb; rw [show vI h2i33 v0 42 = vI h v0 42 from (by rw [ih2i33 v0 42, if_neg (fun z => absurd z.2 (by decide))])]; have z := GO cc1; unfold q_GO at z ⊢; simp only [ah2i33]; exact z) (by clear ih; rw [show vI h2i33 v0 42 = vI h v0 42 from (by rw [ih2i33 v0 42, if_neg (fun z => absurd z.2 (by decide))])]; exact q_LB_eq LB (fun j j0 => by rw [ah2i33 (v0 + 34) j])) (by clear ih; intro bb; rw [show vI h2i33 v0 42 = vI h v0 42 from (by rw [ih2i33 v0 42, if_neg (fun z => absurd z.2 (by decide))])]; rw [show vI h2i33 v0 43 = vI h v0 43 from (by rw [ih2i33 v0 43, if_neg (fun z => absurd z.2 (by decide))])]; have z := BL cc1; unfold q_BL at z ⊢; simp only [ah2i33]; exact z) (by clear ih; intro p8; rw [ih2i33 v0 8, if_neg (fun z => absurd z.2 (by decide))] at p8; rw [ih2i33 v0 7, if_neg (fun z => absurd z.2 (by decide))]; exact q_LV_same (LV p8) (q_hl (g_Mo_42 T kv0).1 (g_Mo_42 T kv0).2 lh).1 (q_hl (g_Mo_42 T kv0).1 (g_Mo_42 T kv0).2 lh).2.1 (g_Mo_e19 T kv0 (vI h v0 7)).2 (g_Mo_e22 T kv0 (vI h v0 7)).1 (g_Mo_e22 T kv0 (vI h v0 7)).2 (fun a j j0 na => by rw [ah2i33]) (fun j j0 _ _ => by rw [ah2i33])) hN (zz_b40d8e9755 o35 o19 hms hq1 cc1 cc2 hq2 hq3 o34)) ?_
            rintro ⟨y, hz⟩ ⟨Tz, g0, g1, g2⟩
            try dsimp only at *
            exact ⟨Tz, (by clear ih; show ∀ a k, ¬ (a = v0 ∧ (k = 5 ∨ k = 46 ∨ k = 48 ∨ k = 50 ∨ k = 41 ∨ k = 44 ∨ k = 49 ∨ k = 45 ∨ k = 47 ∨ k = 43 ∨ k = 6 ∨ k = 7 ∨ k = 8)) → vI hz a k = vI h a k; intro a k n0; rw [g0 a k (by omega), ih2i33, if_neg (by omega)]), (by clear ih; show ∀ a j, 0 ≤ j → ¬ (a = v0 + 4 ∨ a = v0 + 9 ∨ a = v0 + 10 ∨ a = v0 + 11 ∨ a = v0 + 12 ∨ a = v0 + 13 ∨ a = v0 + 14 ∨ a = v0 + 17 ∨ a = v0 + 18 ∨ a = v0 + 15 ∨ a = v0 + 34 ∨ a = v0 + 35 ∨ a = v0 + 22 ∨ a = v0 + 28 ∨ a = v0 + 21 ∨ a = v0 + 26 ∨ a = v0 + 27 ∨ a = v0 + 29 ∨ a = v0 + 23 ∨ a = v0 + 24 ∨ a = v0 + 25 ∨ a = v0 + 30 ∨ a = v0 + 31 ∨ a = v0 + 20 ∨ a = v0 + 5 ∨ a = v0 + 6 ∨ a = v0 + 7 ∨ a = v0 + 8 ∨ a = v0 + 16 ∨ a = v0 + 19) → vA hz a j = vA h a j; intro a j j0 n0; rw [g1 a j j0 (by omega), ah2i33]), (by clear ih; show vI hz v0 8 ≠ 0 → q_LV hz v0 (vI hz v0 7); exact g2)⟩
          · skip
            refine qk_if (fun cc44 => ?_) (fun cc44 => ?_)
            · skip
              unfold f_Mod_parse_138
              refine r_Mo_41 T kv0 ?_
              intro x1i45 ex1i45 lx1i45 ux1i45
              subst ex1i45
              have o46 := g_Mo_41 T kv0
              refine w_Mo_41 T kv0 (wM _ (by omega) (by omega)) (zz_5664edf06b o46) (zz_28e3c2c5fa o19 cc2 o46) ?_
              intro h2i45 Th2i45 ih2i45 ah2i45
              have o47 : vI h2i45 v0 41 = (vI h v0 41) + 1 := (by rw [ih2i45 v0 41, if_pos ⟨rfl, rfl⟩])
              have o48 : vI h2i45 v0 3 = vI h v0 3 := (by rw [ih2i45 v0 3, if_neg (fun z => absurd z.2 (by decide))])
              have o49 : vA h2i45 (v0 + 21) (vI h v0 42) = vA h (v0 + 21) (vI h v0 42) := (by rw [ah2i45 (v0 + 21) (vI h v0 42)])
              have o50 : vA h2i45 (v0 + 20) (vI h v0 42) = vA h (v0 + 20) (vI h v0 42) := (by rw [ah2i45 (v0 + 20) (vI h v0 42)])
              have o51 := g_Mo_e20 T kv0 (vI h v0 42)
              have o52 : vA h2i45 (v0 + 22) (vI h v0 42) = vA h (v0 + 22) (vI h v0 42) := (by rw [ah2i45 (v0 + 22) (vI h v0 42)])
              have o53 : vI h2i45 v0 7 = vI h v0 7 := (by rw [ih2i45 v0 7, if_neg (fun z => absurd z.2 (by decide))])
              have o54 := g_Mo_42 T kv0
              refine qk_mono (ih (v0) h2i45 Th2i45 kv0 wM (zz_552f7b81ed o47 o48 cc2 o46) (by show vI h2i45 v0 48 = 0 → vA h2i45 (v0 + 21) (vI h2i45 v0 42) ≤ vI h2i45 v0 41; have qc1 : vI h2i45 v0 42 = (vI h v0 42) := (by rw [ih2i45 v0 42, if_neg (fun z => absurd z.2 (by decide))]); rw [qc1]; exact zz_b62e0579eb o49 o47 hi cc1 o46) (by show vI h2i45 v0 48 = 0 → 2 * vA h2i45 (v0 + 20) (vI h2i45 v0 42) ≤ vI h2i45 v0 41; have qc1 : vI h2i45 v0 42 = (vI h v0 42) := (by rw [ih2i45 v0 42, if_neg (fun z => absurd z.2 (by decide))]); rw [qc1]; exact zz_3c800e74c6 o50 o47 hp cc1 o51 o46) (by show vI h2i45 v0 48 = 0 → vA h2i45 (v0 + 22) (vI h2i45 v0 42) ≤ vI h2i45 v0 41; have qc1 : vI h2i45 v0 42 = (vI h v0 42) := (by rw [ih2i45 v0 42, if_neg (fun z => absurd z.2 (by decide))]); rw [qc1]; exact zz_b62e0579eb o52 o47 hc cc1 o46) (by show vI h2i45 v0 7 = 1 - vI h2i45 v0 42; have qc1 : vI h2i45 v0 42 = (vI h v0 42) := (by rw [ih2i45 v0 42, if_neg (fun z => absurd z.2 (by decide))]); rw [qc1]; exact zz_d40b784e6c o53 lh o54) (by clear ih; intro bb; rw [show vI h2i45 v0 42 = vI h v0 42 from (by rw [ih2i45 v0 42, if_neg (fun z => absurd z.2 (by decide))])]; exact q_CS_same (CS cc1) (g_Mo_42 T kv0).1 (g_Mo_42 T kv0).2 (g_Mo_e19 T kv0 (vI h v0 42)).2 (g_Mo_e22 T kv0 (vI h v0 42)).1 (g_Mo_e22 T kv0 (vI h v0 42)).2 (fun a j j0 na => by rw [ah2i45])) (by clear ih; intro bb; rw [show vI h2i45 v0 42 = vI h v0 42 from (by rw [ih2i45 v0 42, if_neg (fun z => absurd z.2 (by decide))])]; have z := GO cc1; unfold q_GO at z ⊢; simp only [ah2i45]; exact z) (by clear ih; rw [show vI h2i45 v0 42 = vI h v0 42 from (by rw [ih2i45 v0 42, if_neg (fun z => absurd z.2 (by decide))])]; exact q_LB_eq LB (fun j j0 => by rw [ah2i45 (v0 + 34) j])) (by clear ih; intro bb; rw [show vI h2i45 v0 42 = vI h v0 42 from (by rw [ih2i45 v0 42, if_neg (fun z => absurd z.2 (by decide))])]; rw [show vI h2i45 v0 43 = vI h v0 43 from (by rw [ih2i45 v0 43, if_neg (fun z => absurd z.2 (by decide))])]; have z := BL cc1; unfold q_BL at z ⊢; simp only [ah2i45]; exact z) (by clear ih; intro p8; rw [ih2i45 v0 8, if_neg (fun z => absurd z.2 (by decide))] at p8; rw [ih2i45 v0 7, if_neg (fun z => absurd z.2 (by decide))]; exact q_LV_same (LV p8) (q_hl (g_Mo_42 T kv0).1 (g_Mo_42 T kv0).2 lh).1 (q_hl (g_Mo_42 T kv0).1 (g_Mo_42 T kv0).2 lh).2.1 (g_Mo_e19 T kv0 (vI h v0 7)).2 (g_Mo_e22 T kv0 (vI h v0 7)).1 (g_Mo_e22 T kv0 (vI h v0 7)).2 (fun a j j0 na => by rw [ah2i45]) (fun j j0 _ _ => by rw [ah2i45])) hN (zz_b40d8e9755 o47 o19 hms hq1 cc1 cc2 hq2 hq3 o46)) ?_
              rintro ⟨y, hz⟩ ⟨Tz, g0, g1, g2⟩
              try dsimp only at *
              exact ⟨Tz, (by clear ih; show ∀ a k, ¬ (a = v0 ∧ (k = 5 ∨ k = 46 ∨ k = 48 ∨ k = 50 ∨ k = 41 ∨ k = 44 ∨ k = 49 ∨ k = 45 ∨ k = 47 ∨ k = 43 ∨ k = 6 ∨ k = 7 ∨ k = 8)) → vI hz a k = vI h a k; intro a k n0; rw [g0 a k (by omega), ih2i45, if_neg (by omega)]), (by clear ih; show ∀ a j, 0 ≤ j → ¬ (a = v0 + 4 ∨ a = v0 + 9 ∨ a = v0 + 10 ∨ a = v0 + 11 ∨ a = v0 + 12 ∨ a = v0 + 13 ∨ a = v0 + 14 ∨ a = v0 + 17 ∨ a = v0 + 18 ∨ a = v0 + 15 ∨ a = v0 + 34 ∨ a = v0 + 35 ∨ a = v0 + 22 ∨ a = v0 + 28 ∨ a = v0 + 21 ∨ a = v0 + 26 ∨ a = v0 + 27 ∨ a = v0 + 29 ∨ a = v0 + 23 ∨ a = v0 + 24 ∨ a = v0 + 25 ∨ a = v0 + 30 ∨ a = v0 + 31 ∨ a = v0 + 20 ∨ a = v0 + 5 ∨ a = v0 + 6 ∨ a = v0 + 7 ∨ a = v0 + 8 ∨ a = v0 + 16 ∨ a = v0 + 19) → vA hz a j = vA h a j; intro a j j0 n0; rw [g1 a j j0 (by omega), ah2i45]), (by clear ih; show vI hz v0 8 ≠ 0 → q_LV hz v0 (vI hz v0 7); exact g2)⟩
            · skip
              refine qk_if (fun cc56 => ?_) (fun cc56 => ?_)
              · skip
                refine r_Mo_43 T kv0 ?_
                intro x15 ex15 lx15 ux15
                subst ex15
                refine qk_if (fun cc57 => ?_) (fun cc57 => ?_)
                · skip
                  refine r_Mo_41 T kv0 ?_
                  intro x27 ex27 lx27 ux27
                  subst ex27
                  refine r_Mo_o T kv0 ?_
                  refine c_Mod_wrong (v0 := v0) (v1 := (vI h v0 41)) T kv0 wM ?_
                  intro r29 Tr29 gr29_0 gr29_1 gr29_2
                  unfold f_Mod_parse_208
                  refine r_Mo_41 Tr29 kv0 ?_
                  intro x1i58 ex1i58 lx1i58 ux1i58
                  have sx1i58 : (vI h v0 41) = x1i58 := (ex1i58.trans (by rw [gr29_0 v0 41 (by omega)])).symm
                  subst sx1i58
                  have o59 := g_Mo_41 T kv0
                  refine w_Mo_41 Tr29 kv0 (wM _ (by omega) (by omega)) (zz_5664edf06b o59) (zz_28e3c2c5fa o19 cc2 o59) ?_
                  intro h2i58 Th2i58 ih2i58 ah2i58
                  have o60 : vI h2i58 v0 48 = 1 := (by rw [ih2i58 v0 48, if_neg (fun z => absurd z.2 (by decide)), gr29_1])
                  have o61 : vA h2i58 (v0 + 20) (vI h v0 42) = vA h (v0 + 20) (vI h v0 42) := (by rw [ah2i58 (v0 + 20) (vI h v0 42), gr29_2 (v0 + 20) (vI h v0 42)])
                  have o62 := g_Mo_e20 T kv0 (vI h v0 42)
                  have o63 : vI h2i58 v0 7 = vI h v0 7 := (by rw [ih2i58 v0 7, if_neg (fun z => absurd z.2 (by decide)), gr29_0 v0 7 (by omega)])
                  have o64 := g_Mo_42 T kv0
                  refine qk_mono (ih (v0) h2i58 Th2i58 kv0 wM (zz_72bcbc58f7 o60) (by show vI h2i58 v0 48 = 0 → vA h2i58 (v0 + 21) (vI h2i58 v0 42) ≤ vI h2i58 v0 41; have qc1 : vI h2i58 v0 42 = (vI h v0 42) := (by rw [ih2i58 v0 42, if_neg (fun z => absurd z.2 (by decide)), gr29_0 v0 42 (by omega)]); rw [qc1]; exact zz_72bcbc58f7 o60) (by show vI h2i58 v0 48 = 0 → 2 * vA h2i58 (v0 + 20) (vI h2i58 v0 42) ≤ vI h2i58 v0 41; have qc1 : vI h2i58 v0 42 = (vI h v0 42) := (by rw [ih2i58 v0 42, if_neg (fun z => absurd z.2 (by decide)), gr29_0 v0 42 (by omega)]); rw [qc1]; exact zz_374687c20a o60 o61 o62) (by show vI h2i58 v0 48 = 0 → vA h2i58 (v0 + 22) (vI h2i58 v0 42) ≤ vI h2i58 v0 41; have qc1 : vI h2i58 v0 42 = (vI h v0 42) := (by rw [ih2i58 v0 42, if_neg (fun z => absurd z.2 (by decide)), gr29_0 v0 42 (by omega)]); rw [qc1]; exact zz_72bcbc58f7 o60) (by show vI h2i58 v0 7 = 1 - vI h2i58 v0 42; have qc1 : vI h2i58 v0 42 = (vI h v0 42) := (by rw [ih2i58 v0 42, if_neg (fun z => absurd z.2 (by decide)), gr29_0 v0 42 (by omega)]); rw [qc1]; exact zz_d40b784e6c o63 lh o64) (by clear ih; intro bb; exact absurd bb (zz_f5f80cd091 o60)) (by clear ih; intro bb; exact absurd bb (zz_f5f80cd091 o60)) (by clear ih; rw [show vI h2i58 v0 42 = vI h v0 42 from (by rw [ih2i58 v0 42, if_neg (fun z => absurd z.2 (by decide)), gr29_0 v0 42 (by omega)])]; exact q_LB_eq LB (fun j j0 => by rw [ah2i58 (v0 + 34) j, gr29_2 (v0 + 34) j])) (by clear ih; intro bb; exact absurd bb (zz_f5f80cd091 o60)) (by clear ih; intro p8; rw [ih2i58 v0 8, if_neg (fun z => absurd z.2 (by decide)), gr29_0 v0 8 (by omega)] at p8; rw [ih2i58 v0 7, if_neg (fun z => absurd z.2 (by decide)), gr29_0 v0 7 (by omega)]; exact q_LV_same (LV p8) (q_hl (g_Mo_42 T kv0).1 (g_Mo_42 T kv0).2 lh).1 (q_hl (g_Mo_42 T kv0).1 (g_Mo_42 T kv0).2 lh).2.1 (g_Mo_e19 T kv0 (vI h v0 7)).2 (g_Mo_e22 T kv0 (vI h v0 7)).1 (g_Mo_e22 T kv0 (vI h v0 7)).2 (fun a j j0 na => by rw [ah2i58, gr29_2 a j]) (fun j j0 _ _ => by rw [ah2i58, gr29_2 (v0 + 13) j])) hN (zz_7199ec1ef7 o60 o19 hms hq1 cc2 cc1 hq2 hq3)) ?_
                  rintro ⟨y, hz⟩ ⟨Tz, g0, g1, g2⟩
                  try dsimp only at *
                  exact ⟨Tz, (by clear ih; show ∀ a k, ¬ (a = v0 ∧ (k = 5 ∨ k = 46 ∨ k = 48 ∨ k = 50 ∨ k = 41 ∨ k = 44 ∨ k = 49 ∨ k = 45 ∨ k = 47 ∨ k = 43 ∨ k = 6 ∨ k = 7 ∨ k = 8)) → vI hz a k = vI h a k; intro a k n0; rw [g0 a k (by omega), ih2i58, if_neg (by omega), gr29_0 a k (by omega)]), (by clear ih; show ∀ a j, 0 ≤ j → ¬ (a = v0 + 4 ∨ a = v0 + 9 ∨ a = v0 + 10 ∨ a = v0 + 11 ∨ a = v0 + 12 ∨ a = v0 + 13 ∨ a = v0 + 14 ∨ a = v0 + 17 ∨ a = v0 + 18 ∨ a = v0 + 15 ∨ a = v0 + 34 ∨ a = v0 + 35 ∨ a = v0 + 22 ∨ a = v0 + 28 ∨ a = v0 + 21 ∨ a = v0 + 26 ∨ a = v0 + 27 ∨ a = v0 + 29 ∨ a = v0 + 23 ∨ a = v0 + 24 ∨ a = v0 + 25 ∨ a = v0 + 30 ∨ a = v0 + 31 ∨ a = v0 + 20 ∨ a = v0 + 5 ∨ a = v0 + 6 ∨ a = v0 + 7 ∨ a = v0 + 8 ∨ a = v0 + 16 ∨ a = v0 + 19) → vA hz a j = vA h a j; intro a j j0 n0; rw [g1 a j j0 (by omega), ah2i58, gr29_2 a j]), (by clear ih; show vI hz v0 8 ≠ 0 → q_LV hz v0 (vI hz v0 7); exact g2)⟩
                · skip
                  refine r_Mo_43 T kv0 ?_
                  intro x17 ex17 lx17 ux17
                  subst ex17
                  have o66 := g_Mo_43 T kv0
                  refine w_Mo_43 T kv0 (wM _ (by omega) (by omega)) (zz_b16b4edaa4 o66 cc57) (zz_1ab7778528 o66) ?_
                  intro h18 Th18 ih18 ah18
                  refine r_Mo_18 Th18 kv0 ?_
                  refine r_Mo_40 Th18 kv0 ?_
                  refine r_Mo_43 Th18 kv0 ?_
                  intro x21 ex21 lx21 ux21
                  have sx21 : (vI h v0 43) - 1 = x21 := (ex21.trans (by rw [ih18 v0 43, if_pos ⟨rfl, rfl⟩])).symm
                  subst sx21
                  refine r_Mo_e35 Th18 kv0 (zz_c269e88b84 lx21 o66) (zz_53de2dda8e o66) ?_
                  intro x22 ex22 lx22 ux22
                  have sx22 : (vA h (v0 + 35) ((vI h v0 43) - 1)) = x22 := (ex22.trans (by rw [ah18 (v0 + 35) ((vI h v0 43) - 1)])).symm
                  subst sx22
                  refine r_Mo_24 Th18 kv0 ?_
                  refine r_Mo_42 Th18 kv0 ?_
                  intro x24 ex24 lx24 ux24
                  have sx24 : (vI h v0 42) = x24 := (ex24.trans (by rw [ih18 v0 42, if_neg (fun z => absurd z.2 (by decide))])).symm
                  subst sx24
                  have o67 := g_Mo_42 T kv0
                  refine r_Mo_e19 Th18 kv0 lx24 (zz_e1f2e57bfa o67) ?_
                  intro x25 ex25 lx25 ux25
                  have sx25 : (vA h (v0 + 19) (vI h v0 42)) = x25 := (ex25.trans (by rw [ah18 (v0 + 19) (vI h v0 42)])).symm
                  subst sx25
                  have o68 := g_Mo_e35 T kv0 ((vI h v0 43) - 1)
                  have o69 := g_Mo_e19 T kv0 (vI h v0 42)
                  refine w_Mo_e13 Th18 kv0 (wM _ (by omega) (by omega)) (zz_98ac44a59f o68) (zz_ce1fd79a2a o68) (zz_42d6175e32 o69) (zz_2fb5db7d90 o69) ?_
                  intro h26 Th26 ih26 ah26
                  unfold f_Mod_parse_208
                  refine r_Mo_41 Th26 kv0 ?_
                  intro x1i70 ex1i70 lx1i70 ux1i70
                  have sx1i70 : (vI h v0 41) = x1i70 := (ex1i70.trans (by rw [ih26 v0 41, ih18 v0 41, if_neg (fun z => absurd z.2 (by decide))])).symm
                  subst sx1i70
                  have o71 := g_Mo_41 T kv0
                  refine w_Mo_41 Th26 kv0 (wM _ (by omega) (by omega)) (zz_5664edf06b o71) (zz_28e3c2c5fa o19 cc2 o71) ?_
                  intro h2i70 Th2i70 ih2i70 ah2i70
                  have o72 : vI h2i70 v0 41 = (vI h v0 41) + 1 := (by rw [ih2i70 v0 41, if_pos ⟨rfl, rfl⟩])
                  have o73 : vI h2i70 v0 3 = vI h v0 3 := (by rw [ih2i70 v0 3, if_neg (fun z => absurd z.2 (by decide)), ih26 v0 3, ih18 v0 3, if_neg (fun z => absurd z.2 (by decide))])
                  have o74 : vA h2i70 (v0 + 21) (vI h v0 42) = vA h (v0 + 21) (vI h v0 42) := (by rw [ah2i70 (v0 + 21) (vI h v0 42), ah26 (v0 + 21) (vI h v0 42) lx24, if_neg (fun z => absurd z.1 (by omega)), ah18 (v0 + 21) (vI h v0 42)])
                  have o75 : vA h2i70 (v0 + 20) (vI h v0 42) = vA h (v0 + 20) (vI h v0 42) := (by rw [ah2i70 (v0 + 20) (vI h v0 42), ah26 (v0 + 20) (vI h v0 42) lx24, if_neg (fun z => absurd z.1 (by omega)), ah18 (v0 + 20) (vI h v0 42)])
                  have o76 := g_Mo_e20 T kv0 (vI h v0 42)
                  have o77 : vA h2i70 (v0 + 22) (vI h v0 42) = vA h (v0 + 22) (vI h v0 42) := (by rw [ah2i70 (v0 + 22) (vI h v0 42), ah26 (v0 + 22) (vI h v0 42) lx24, if_neg (fun z => absurd z.1 (by omega)), ah18 (v0 + 22) (vI h v0 42)])
                  have o78 : vI h2i70 v0 7 = vI h v0 7 := (by rw [ih2i70 v0 7, if_neg (fun z => absurd z.2 (by decide)), ih26 v0 7, ih18 v0 7, if_neg (fun z => absurd z.2 (by decide))])
                  refine qk_mono (ih (v0) h2i70 Th2i70 kv0 wM (zz_552f7b81ed o72 o73 cc2 o71) (by show vI h2i70 v0 48 = 0 → vA h2i70 (v0 + 21) (vI h2i70 v0 42) ≤ vI h2i70 v0 41; have qc1 : vI h2i70 v0 42 = (vI h v0 42) := (by rw [ih2i70 v0 42, if_neg (fun z => absurd z.2 (by decide)), ih26 v0 42, ih18 v0 42, if_neg (fun z => absurd z.2 (by decide))]); rw [qc1]; exact zz_b62e0579eb o74 o72 hi cc1 o71) (by show vI h2i70 v0 48 = 0 → 2 * vA h2i70 (v0 + 20) (vI h2i70 v0 42) ≤ vI h2i70 v0 41; have qc1 : vI h2i70 v0 42 = (vI h v0 42) := (by rw [ih2i70 v0 42, if_neg (fun z => absurd z.2 (by decide)), ih26 v0 42, ih18 v0 42, if_neg (fun z => absurd z.2 (by decide))]); rw [qc1]; exact zz_3c800e74c6 o75 o72 hp cc1 o76 o71) (by show vI h2i70 v0 48 = 0 → vA h2i70 (v0 + 22) (vI h2i70 v0 42) ≤ vI h2i70 v0 41; have qc1 : vI h2i70 v0 42 = (vI h v0 42) := (by rw [ih2i70 v0 42, if_neg (fun z => absurd z.2 (by decide)), ih26 v0 42, ih18 v0 42, if_neg (fun z => absurd z.2 (by decide))]); rw [qc1]; exact zz_b62e0579eb o77 o72 hc cc1 o71) (by show vI h2i70 v0 7 = 1 - vI h2i70 v0 42; have qc1 : vI h2i70 v0 42 = (vI h v0 42) := (by rw [ih2i70 v0 42, if_neg (fun z => absurd z.2 (by decide)), ih26 v0 42, ih18 v0 42, if_neg (fun z => absurd z.2 (by decide))]); rw [qc1]; exact zz_d40b784e6c o78 lh o67) (by clear ih; intro bb; rw [show vI h2i70 v0 42 = vI h v0 42 from (by rw [ih2i70 v0 42, if_neg (fun z => absurd z.2 (by decide)), ih26 v0 42, ih18 v0 42, if_neg (fun z => absurd z.2 (by decide))])]; exact q_CS_same (CS cc1) (g_Mo_42 T kv0).1 (g_Mo_42 T kv0).2 (g_Mo_e19 T kv0 (vI h v0 42)).2 (g_Mo_e22 T kv0 (vI h v0 42)).1 (g_Mo_e22 T kv0 (vI h v0 42)).2 (fun a j j0 na => by rw [ah2i70, ah26 a j j0, if_neg (by omega), ah18])) (by clear ih; intro bb; rw [show vI h2i70 v0 42 = vI h v0 42 from (by rw [ih2i70 v0 42, if_neg (fun z => absurd z.2 (by decide)), ih26 v0 42, ih18 v0 42, if_neg (fun z => absurd z.2 (by decide))])]; exact q_GO_close (GO cc1) (BL cc1) (g_Mo_42 T kv0).1 (g_Mo_42 T kv0).2 (g_Mo_e19 T kv0 (vI h v0 42)).2 (g_Mo_43 T kv0).1 (Int32.le_trans (g_Mo_43 T kv0).2 (by decide)) cc57 rfl (fun a j j0 na => by rw [ah2i70, ah26 a j j0, if_neg (by omega), ah18]) (fun j j0 => by rw [ah2i70 (v0 + 13) j, ah26 (v0 + 13) j j0]; by_cases c : j = (vA h (v0 + 35) ((vI h v0 43) - 1)); (rw [if_pos ⟨rfl, c⟩, if_pos c]); (rw [if_neg (fun z => c z.2), if_neg c, ah18 (v0 + 13) j]))) (by clear ih; rw [show vI h2i70 v0 42 = vI h v0 42 from (by rw [ih2i70 v0 42, if_neg (fun z => absurd z.2 (by decide)), ih26 v0 42, ih18 v0 42, if_neg (fun z => absurd z.2 (by decide))])]; exact q_LB_eq LB (fun j j0 => by rw [ah2i70 (v0 + 34) j, ah26 (v0 + 34) j j0, if_neg (fun z => absurd z.1 (by omega)), ah18 (v0 + 34) j])) (by clear ih; intro bb; rw [show vI h2i70 v0 42 = vI h v0 42 from (by rw [ih2i70 v0 42, if_neg (fun z => absurd z.2 (by decide)), ih26 v0 42, ih18 v0 42, if_neg (fun z => absurd z.2 (by decide))])]; rw [ih2i70 v0 43, if_neg (fun z => absurd z.2 (by decide)), ih26 v0 43, ih18 v0 43, if_pos ⟨rfl, rfl⟩]; exact q_BL_close (BL cc1) (g_Mo_42 T kv0).1 (g_Mo_42 T kv0).2 (g_Mo_e19 T kv0 (vI h v0 42)).1 (g_Mo_e19 T kv0 (vI h v0 42)).2 (g_Mo_43 T kv0).1 (Int32.le_trans (g_Mo_43 T kv0).2 (by decide)) cc57 rfl (fun a j j0 na => by rw [ah2i70, ah26 a j j0, if_neg (by omega), ah18]) (fun j j0 => by rw [ah2i70 (v0 + 13) j, ah26 (v0 + 13) j j0]; by_cases c : j = (vA h (v0 + 35) ((vI h v0 43) - 1)); (rw [if_pos ⟨rfl, c⟩, if_pos c]); (rw [if_neg (fun z => c z.2), if_neg c, ah18 (v0 + 13) j]))) (by clear ih; intro p8; rw [ih2i70 v0 8, if_neg (fun z => absurd z.2 (by decide)), ih26 v0 8, ih18 v0 8, if_neg (fun z => absurd z.2 (by decide))] at p8; rw [ih2i70 v0 7, if_neg (fun z => absurd z.2 (by decide)), ih26 v0 7, ih18 v0 7, if_neg (fun z => absurd z.2 (by decide))]; exact q_LV_close (LV p8) (g_Mo_42 T kv0).1 (g_Mo_42 T kv0).2 lh (g_Mo_e19 T kv0 (vI h v0 7)).2 (g_Mo_e22 T kv0 (vI h v0 7)).1 (g_Mo_e22 T kv0 (vI h v0 7)).2 (q_os (BL cc1) (g_Mo_42 T kv0).1 (g_Mo_42 T kv0).2 (g_Mo_e19 T kv0 (vI h v0 42)).2 (g_Mo_43 T kv0).1 (Int32.le_trans (g_Mo_43 T kv0).2 (by decide)) cc57 rfl) (fun a j j0 na => by rw [ah2i70, ah26 a j j0, if_neg (by omega), ah18]) (fun j j0 => by rw [ah2i70 (v0 + 13) j, ah26 (v0 + 13) j j0]; by_cases c : j = (vA h (v0 + 35) ((vI h v0 43) - 1)); (rw [if_pos ⟨rfl, c⟩, if_pos c]); (rw [if_neg (fun z => c z.2), if_neg c, ah18 (v0 + 13) j]))) hN (zz_b40d8e9755 o72 o19 hms hq1 cc1 cc2 hq2 hq3 o71)) ?_
                  rintro ⟨y, hz⟩ ⟨Tz, g0, g1, g2⟩
                  try dsimp only at *
                  exact ⟨Tz, (by clear ih; show ∀ a k, ¬ (a = v0 ∧ (k = 5 ∨ k = 46 ∨ k = 48 ∨ k = 50 ∨ k = 41 ∨ k = 44 ∨ k = 49 ∨ k = 45 ∨ k = 47 ∨ k = 43 ∨ k = 6 ∨ k = 7 ∨ k = 8)) → vI hz a k = vI h a k; intro a k n0; rw [g0 a k (by omega), ih2i70, if_neg (by omega), ih26, ih18, if_neg (by omega)]), (by clear ih; show ∀ a j, 0 ≤ j → ¬ (a = v0 + 4 ∨ a = v0 + 9 ∨ a = v0 + 10 ∨ a = v0 + 11 ∨ a = v0 + 12 ∨ a = v0 + 13 ∨ a = v0 + 14 ∨ a = v0 + 17 ∨ a = v0 + 18 ∨ a = v0 + 15 ∨ a = v0 + 34 ∨ a = v0 + 35 ∨ a = v0 + 22 ∨ a = v0 + 28 ∨ a = v0 + 21 ∨ a = v0 + 26 ∨ a = v0 + 27 ∨ a = v0 + 29 ∨ a = v0 + 23 ∨ a = v0 + 24 ∨ a = v0 + 25 ∨ a = v0 + 30 ∨ a = v0 + 31 ∨ a = v0 + 20 ∨ a = v0 + 5 ∨ a = v0 + 6 ∨ a = v0 + 7 ∨ a = v0 + 8 ∨ a = v0 + 16 ∨ a = v0 + 19) → vA hz a j = vA h a j; intro a j j0 n0; rw [g1 a j j0 (by omega), ah2i70, ah26 a j j0, if_neg (by omega), ah18]), (by clear ih; show vI hz v0 8 ≠ 0 → q_LV hz v0 (vI hz v0 7); exact g2)⟩
              · skip
                refine r_Mo_o T kv0 ?_
                have o80 := g_Mo_e20 T kv0 (vI h v0 42)
                refine c_Mod_command (v0 := v0) T kv0 wM cc1 (zz_db60e9ac98 cc2) (zz_3595f2c5ab hi cc1) (zz_683774fdb6 hp cc1 o80) (zz_3595f2c5ab hc cc1) hN ?_
                intro r14 Tr14 gr14_0 gr14_1 gr14_2 gr14_3 gr14_4 gr14_5 gr14_6 gr14_7 gr14_8 gr14_9 gr14_10 gr14_11 gr14_12 gr14_13 gr14_14 gr14_15 gr14_16 gr14_17 gr14_18 gr14_19 gr14_20 gr14_21 gr14_22 gr14_23 gr14_24 gr14_25
                have o81 : vI r14 v0 3 = vI h v0 3 := (by rw [gr14_0 v0 3 (by omega)])
                have o82 := g_Mo_e20 Tr14 kv0 (vI h v0 42)
                have o83 : vI r14 v0 7 = vI h v0 7 := (by rw [gr14_0 v0 7 (by omega)])
                have o84 := g_Mo_42 T kv0
                refine qk_mono (ih (v0) r14 Tr14 kv0 wM (zz_3547589d98 o81 gr14_13) (by show vI r14 v0 48 = 0 → vA r14 (v0 + 21) (vI r14 v0 42) ≤ vI r14 v0 41; have qc1 : vI r14 v0 42 = (vI h v0 42) := (by rw [gr14_0 v0 42 (by omega)]); rw [qc1]; exact zz_c52fc66c1a gr14_14) (by show vI r14 v0 48 = 0 → 2 * vA r14 (v0 + 20) (vI r14 v0 42) ≤ vI r14 v0 41; have qc1 : vI r14 v0 42 = (vI h v0 42) := (by rw [gr14_0 v0 42 (by omega)]); rw [qc1]; exact zz_509e57d417 gr14_15 o82) (by show vI r14 v0 48 = 0 → vA r14 (v0 + 22) (vI r14 v0 42) ≤ vI r14 v0 41; have qc1 : vI r14 v0 42 = (vI h v0 42) := (by rw [gr14_0 v0 42 (by omega)]); rw [qc1]; exact zz_243310493b gr14_16) (by show vI r14 v0 7 = 1 - vI r14 v0 42; have qc1 : vI r14 v0 42 = (vI h v0 42) := (by rw [gr14_0 v0 42 (by omega)]); rw [qc1]; exact zz_d40b784e6c o83 lh o84) (by clear ih; intro bb; rw [show vI r14 v0 42 = vI h v0 42 from (by rw [gr14_0 v0 42 (by omega)])]; exact q_CS_com (CS cc1) (g_Mo_42 T kv0).1 (g_Mo_42 T kv0).2 (g_Mo_e19 T kv0 (vI h v0 42)).1 gr14_8 (fun q P => q_PX_own P (g_Mo_42 T kv0).1 (g_Mo_42 T kv0).2 gr14_3 gr14_5 (g_Mo_e21 T kv0 (vI h v0 42)).1 gr14_18 (g_Mo_e21 Tr14 kv0 (vI h v0 42)).2 (g_Mo_e20 T kv0 (vI h v0 42)).1 gr14_12 (g_Mo_e20 Tr14 kv0 (vI h v0 42)).2) (gr14_11 bb) (g_Mo_e22 T kv0 (vI h v0 42)).1 gr14_16.1 (g_Mo_e22 Tr14 kv0 (vI h v0 42)).2 (gr14_19 bb)) (by clear ih; intro bb; rw [show vI r14 v0 42 = vI h v0 42 from (by rw [gr14_0 v0 42 (by omega)])]; exact q_GO_com (GO cc1) (g_Mo_42 T kv0).1 (g_Mo_42 T kv0).2 (g_Mo_e19 T kv0 (vI h v0 42)).1 gr14_8 (gr14_11 bb) (gr14_21 bb)) (by clear ih; rw [show vI r14 v0 42 = vI h v0 42 from (by rw [gr14_0 v0 42 (by omega)])]; exact q_LB_com LB (g_Mo_42 T kv0).1 (g_Mo_42 T kv0).2 (g_Mo_e19 T kv0 (vI h v0 42)).1 gr14_20) (by clear ih; intro bb; rw [show vI r14 v0 42 = vI h v0 42 from (by rw [gr14_0 v0 42 (by omega)])]; exact q_BL_com (BL cc1) (g_Mo_42 T kv0).1 (g_Mo_42 T kv0).2 (g_Mo_e19 T kv0 (vI h v0 42)).1 (g_Mo_43 T kv0).1 (Int32.le_trans (g_Mo_43 T kv0).2 (by decide)) gr14_8 (gr14_11 bb) gr14_22 gr14_23 (gr14_24 bb) (gr14_25 bb)) (by clear ih; intro p8; rw [gr14_0 v0 8 (by omega)] at p8; rw [gr14_0 v0 7 (by omega)]; exact q_LV_com (LV p8) (g_Mo_42 T kv0).1 (g_Mo_42 T kv0).2 lh (g_Mo_e19 T kv0 (vI h v0 42)).1 (g_Mo_e19 T kv0 (vI h v0 42)).2 (g_Mo_e19 T kv0 (vI h v0 7)).2 gr14_8 (fun q P => q_PX_oth P (g_Mo_42 T kv0).1 (g_Mo_42 T kv0).2 lh gr14_3 gr14_5 (g_Mo_e21 T kv0 (vI h v0 42)).1 (g_Mo_e21 T kv0 (vI h v0 42)).2 (g_Mo_e20 T kv0 (vI h v0 42)).1 (g_Mo_e20 T kv0 (vI h v0 42)).2 (g_Mo_e21 T kv0 (vI h v0 7)).1 (g_Mo_e21 T kv0 (vI h v0 7)).2 (g_Mo_e20 T kv0 (vI h v0 7)).1 (g_Mo_e20 T kv0 (vI h v0 7)).2 (gr14_2 _ (q_hl (g_Mo_42 T kv0).1 (g_Mo_42 T kv0).2 lh).1 (q_hl (g_Mo_42 T kv0).1 (g_Mo_42 T kv0).2 lh).2.2) (gr14_4 _ (q_hl (g_Mo_42 T kv0).1 (g_Mo_42 T kv0).2 lh).1 (q_hl (g_Mo_42 T kv0).1 (g_Mo_42 T kv0).2 lh).2.2)) gr14_9 gr14_6 (g_Mo_e22 T kv0 (vI h v0 7)).1 (g_Mo_e22 T kv0 (vI h v0 7)).2) hN (zz_f23f963669 hms hq1 gr14_13 o19 cc1 cc2 hq2 hq3)) ?_
                rintro ⟨y, hz⟩ ⟨Tz, g0, g1, g2⟩
                try dsimp only at *
                exact ⟨Tz, (by clear ih; show ∀ a k, ¬ (a = v0 ∧ (k = 5 ∨ k = 46 ∨ k = 48 ∨ k = 50 ∨ k = 41 ∨ k = 44 ∨ k = 49 ∨ k = 45 ∨ k = 47 ∨ k = 43 ∨ k = 6 ∨ k = 7 ∨ k = 8)) → vI hz a k = vI h a k; intro a k n0; rw [g0 a k (by omega), gr14_0 a k (by omega)]), (by clear ih; show ∀ a j, 0 ≤ j → ¬ (a = v0 + 4 ∨ a = v0 + 9 ∨ a = v0 + 10 ∨ a = v0 + 11 ∨ a = v0 + 12 ∨ a = v0 + 13 ∨ a = v0 + 14 ∨ a = v0 + 17 ∨ a = v0 + 18 ∨ a = v0 + 15 ∨ a = v0 + 34 ∨ a = v0 + 35 ∨ a = v0 + 22 ∨ a = v0 + 28 ∨ a = v0 + 21 ∨ a = v0 + 26 ∨ a = v0 + 27 ∨ a = v0 + 29 ∨ a = v0 + 23 ∨ a = v0 + 24 ∨ a = v0 + 25 ∨ a = v0 + 30 ∨ a = v0 + 31 ∨ a = v0 + 20 ∨ a = v0 + 5 ∨ a = v0 + 6 ∨ a = v0 + 7 ∨ a = v0 + 8 ∨ a = v0 + 16 ∨ a = v0 + 19) → vA hz a j = vA h a j; intro a j j0 n0; rw [g1 a j j0 (by omega), gr14_1 a j j0 (by omega)]), (by clear ih; show vI hz v0 8 ≠ 0 → q_LV hz v0 (vI hz v0 7); exact g2)⟩
    · skip
      unfold f_Mod_parse_228
      refine r_Mo_48 T kv0 ?_
      intro x1i86 ex1i86
      subst ex1i86
      refine qk_if (fun cc87 => ?_) (fun cc87 => ?_)
      · skip
        refine r_Mo_43 T kv0 ?_
        intro x3i86 ex3i86 lx3i86 ux3i86
        subst ex3i86
        refine qk_if (fun cc88 => ?_) (fun cc88 => ?_)
        · skip
          unfold f_Mod_parse_250
          refine r_Mo_o T kv0 ?_
          refine c_Mod_goals (v0 := v0) T kv0 wM (by clear ih; exact GO) (by clear ih; exact LB) hN ?_
          intro r2i89 Tr2i89 gr2i89_0 gr2i89_1 gr2i89_2 gr2i89_3 gr2i89_4
          refine r_Mo_48 Tr2i89 kv0 ?_
          intro x3i89 ex3i89
          subst ex3i89
          refine qk_if (fun cc90 => ?_) (fun cc90 => ?_)
          · skip
            refine w_Mo_6 Tr2i89 kv0 (wM _ (by omega) (by omega)) ?_
            intro h5i89 Th5i89 ih5i89 ah5i89
            refine r_Mo_42 Th5i89 kv0 ?_
            intro x6i89 ex6i89 lx6i89 ux6i89
            have sx6i89 : (vI h v0 42) = x6i89 := (ex6i89.trans (by rw [ih5i89 v0 42, if_neg (fun z => absurd z.2 (by decide)), gr2i89_0 v0 42 (by omega)])).symm
            subst sx6i89
            refine w_Mo_7 Th5i89 kv0 (wM _ (by omega) (by omega)) lx6i89 ux6i89 ?_
            intro h7i89 Th7i89 ih7i89 ah7i89
            refine w_Mo_8 Th7i89 kv0 (wM _ (by omega) (by omega)) ?_
            intro h8i89 Th8i89 ih8i89 ah8i89
            refine r_Mo_24 Th8i89 kv0 ?_
            refine r_Mo_7 Th8i89 kv0 ?_
            intro x10i89 ex10i89 lx10i89 ux10i89
            have sx10i89 : vI h v0 42 = x10i89 := (ex10i89.trans (by rw [ih8i89 v0 7, if_neg (fun z => absurd z.2 (by decide)), ih7i89 v0 7, if_pos ⟨rfl, rfl⟩])).symm
            subst sx10i89
            have o91 := g_Mo_42 T kv0
            refine r_Mo_e19 Th8i89 kv0 lx10i89 (zz_e1f2e57bfa o91) ?_
            intro x11i89 ex11i89 lx11i89 ux11i89
            have sx11i89 : (vA h (v0 + 19) (vI h v0 42)) = x11i89 := (ex11i89.trans (by rw [ah8i89 (v0 + 19) (vI h v0 42), ah7i89 (v0 + 19) (vI h v0 42), ah5i89 (v0 + 19) (vI h v0 42), gr2i89_1 (v0 + 19) (vI h v0 42) lx10i89 (by omega)])).symm
            subst sx11i89
            refine qk_some ?_
            exact ⟨Th8i89, (by clear ih; show ∀ a k, ¬ (a = v0 ∧ (k = 5 ∨ k = 46 ∨ k = 48 ∨ k = 50 ∨ k = 41 ∨ k = 44 ∨ k = 49 ∨ k = 45 ∨ k = 47 ∨ k = 43 ∨ k = 6 ∨ k = 7 ∨ k = 8)) → vI h8i89 a k = vI h a k; intro a k n0; rw [ih8i89, if_neg (by omega), ih7i89, if_neg (by omega), ih5i89, if_neg (by omega), gr2i89_0 a k (by omega)]), (by clear ih; show ∀ a j, 0 ≤ j → ¬ (a = v0 + 4 ∨ a = v0 + 9 ∨ a = v0 + 10 ∨ a = v0 + 11 ∨ a = v0 + 12 ∨ a = v0 + 13 ∨ a = v0 + 14 ∨ a = v0 + 17 ∨ a = v0 + 18 ∨ a = v0 + 15 ∨ a = v0 + 34 ∨ a = v0 + 35 ∨ a = v0 + 22 ∨ a = v0 + 28 ∨ a = v0 + 21 ∨ a = v0 + 26 ∨ a = v0 + 27 ∨ a = v0 + 29 ∨ a = v0 + 23 ∨ a = v0 + 24 ∨ a = v0 + 25 ∨ a = v0 + 30 ∨ a = v0 + 31 ∨ a = v0 + 20 ∨ a = v0 + 5 ∨ a = v0 + 6 ∨ a = v0 + 7 ∨ a = v0 + 8 ∨ a = v0 + 16 ∨ a = v0 + 19) → vA h8i89 a j = vA h a j; intro a j j0 n0; rw [ah8i89, ah7i89, ah5i89, gr2i89_1 a j j0 (by omega)]), (by clear ih; show vI h8i89 v0 8 ≠ 0 → q_LV h8i89 v0 (vI h8i89 v0 7); intro p8; rw [ih8i89 v0 7, if_neg (fun z => absurd z.2 (by decide)), ih7i89 v0 7, if_pos ⟨rfl, rfl⟩]; exact q_LV_fin (CS cc87) (BL cc87) (g_Mo_42 T kv0).1 (g_Mo_42 T kv0).2 (g_Mo_e19 T kv0 (vI h v0 42)).2 (g_Mo_e22 T kv0 (vI h v0 42)).1 (g_Mo_e22 T kv0 (vI h v0 42)).2 cc88 (fun a j j0 na => by rw [ah8i89, ah7i89, ah5i89, gr2i89_1 a j j0 (by omega)]) (fun j j0 n0 n1 => by rw [ah8i89 (v0 + 13) j, ah7i89 (v0 + 13) j, ah5i89 (v0 + 13) j]; exact gr2i89_3 j j0 n0 n1))⟩
          · skip
            refine r_Mo_o Tr2i89 kv0 ?_
            refine c_Mod_fail (v0 := v0) (v1 := 1) Tr2i89 kv0 wM ?_
            intro yr13i89 hr13i89 Tr13i89 gr13i89_0 gr13i89_1 gr13i89_2
            dsimp only
            refine qk_some ?_
            have o92 := g_Mo_42 T kv0
            exact ⟨Tr13i89, (by clear ih; show ∀ a k, ¬ (a = v0 ∧ (k = 5 ∨ k = 46 ∨ k = 48 ∨ k = 50 ∨ k = 41 ∨ k = 44 ∨ k = 49 ∨ k = 45 ∨ k = 47 ∨ k = 43 ∨ k = 6 ∨ k = 7 ∨ k = 8)) → vI hr13i89 a k = vI h a k; intro a k n0; rw [gr13i89_1 a k, if_neg (by omega), gr2i89_0 a k (by omega)]), (by clear ih; show ∀ a j, 0 ≤ j → ¬ (a = v0 + 4 ∨ a = v0 + 9 ∨ a = v0 + 10 ∨ a = v0 + 11 ∨ a = v0 + 12 ∨ a = v0 + 13 ∨ a = v0 + 14 ∨ a = v0 + 17 ∨ a = v0 + 18 ∨ a = v0 + 15 ∨ a = v0 + 34 ∨ a = v0 + 35 ∨ a = v0 + 22 ∨ a = v0 + 28 ∨ a = v0 + 21 ∨ a = v0 + 26 ∨ a = v0 + 27 ∨ a = v0 + 29 ∨ a = v0 + 23 ∨ a = v0 + 24 ∨ a = v0 + 25 ∨ a = v0 + 30 ∨ a = v0 + 31 ∨ a = v0 + 20 ∨ a = v0 + 5 ∨ a = v0 + 6 ∨ a = v0 + 7 ∨ a = v0 + 8 ∨ a = v0 + 16 ∨ a = v0 + 19) → vA hr13i89 a j = vA h a j; intro a j j0 n0; rw [gr13i89_2 a j, gr2i89_1 a j j0 (by omega)]), (by clear ih; show vI hr13i89 v0 8 ≠ 0 → q_LV hr13i89 v0 (vI hr13i89 v0 7); intro p8; rw [gr13i89_1 v0 8, if_neg (fun z => absurd z.2 (by decide)), gr2i89_0 v0 8 (by omega)] at p8; rw [gr13i89_1 v0 7, if_neg (fun z => absurd z.2 (by decide)), gr2i89_0 v0 7 (by omega)]; exact q_LV_goals (LV p8) (g_Mo_42 T kv0).1 (g_Mo_42 T kv0).2 lh (g_Mo_e19 T kv0 (vI h v0 7)).2 (g_Mo_e22 T kv0 (vI h v0 7)).1 (g_Mo_e22 T kv0 (vI h v0 7)).2 (fun a j j0 na => by rw [gr13i89_2 a j, gr2i89_1 a j j0 (by omega)]) (fun j j0 jj => by rw [gr13i89_2 (v0 + 13) j, gr2i89_2 j j0 (zz_098ca6c8f2 jj o92)]))⟩
        · skip
          refine r_Mo_3 T kv0 ?_
          intro x5i86 ex5i86 lx5i86 ux5i86
          subst ex5i86
          refine r_Mo_o T kv0 ?_
          refine c_Mod_wrong (v0 := v0) (v1 := (vI h v0 3)) T kv0 wM ?_
          intro r7i86 Tr7i86 gr7i86_0 gr7i86_1 gr7i86_2
          unfold f_Mod_parse_250
          refine r_Mo_o Tr7i86 kv0 ?_
          refine c_Mod_goals (v0 := v0) Tr7i86 kv0 wM (by clear ih; intro bb; exact absurd bb (zz_f5f80cd091 gr7i86_1)) (by clear ih; rw [show vI r7i86 v0 42 = vI h v0 42 from (by rw [gr7i86_0 v0 42 (by omega)])]; exact q_LB_eq LB (fun j j0 => by rw [gr7i86_2 (v0 + 34) j])) hN ?_
          intro r2i93 Tr2i93 gr2i93_0 gr2i93_1 gr2i93_2 gr2i93_3 gr2i93_4
          have qh42_gr2i93_0 : vI r7i86 v0 42 = (vI h v0 42) := by rw [gr7i86_0 v0 42 (by omega)]
          rw [qh42_gr2i93_0] at gr2i93_2
          refine r_Mo_48 Tr2i93 kv0 ?_
          intro x3i93 ex3i93
          subst ex3i93
          refine qk_if (fun cc94 => ?_) (fun cc94 => ?_)
          · skip
            refine w_Mo_6 Tr2i93 kv0 (wM _ (by omega) (by omega)) ?_
            intro h5i93 Th5i93 ih5i93 ah5i93
            refine r_Mo_42 Th5i93 kv0 ?_
            intro x6i93 ex6i93 lx6i93 ux6i93
            have sx6i93 : (vI h v0 42) = x6i93 := (ex6i93.trans (by rw [ih5i93 v0 42, if_neg (fun z => absurd z.2 (by decide)), gr2i93_0 v0 42 (by omega), gr7i86_0 v0 42 (by omega)])).symm
            subst sx6i93
            refine w_Mo_7 Th5i93 kv0 (wM _ (by omega) (by omega)) lx6i93 ux6i93 ?_
            intro h7i93 Th7i93 ih7i93 ah7i93
            refine w_Mo_8 Th7i93 kv0 (wM _ (by omega) (by omega)) ?_
            intro h8i93 Th8i93 ih8i93 ah8i93
            refine r_Mo_24 Th8i93 kv0 ?_
            refine r_Mo_7 Th8i93 kv0 ?_
            intro x10i93 ex10i93 lx10i93 ux10i93
            have sx10i93 : vI h v0 42 = x10i93 := (ex10i93.trans (by rw [ih8i93 v0 7, if_neg (fun z => absurd z.2 (by decide)), ih7i93 v0 7, if_pos ⟨rfl, rfl⟩])).symm
            subst sx10i93
            have o95 := g_Mo_42 T kv0
            refine r_Mo_e19 Th8i93 kv0 lx10i93 (zz_e1f2e57bfa o95) ?_
            intro x11i93 ex11i93 lx11i93 ux11i93
            have sx11i93 : (vA h (v0 + 19) (vI h v0 42)) = x11i93 := (ex11i93.trans (by rw [ah8i93 (v0 + 19) (vI h v0 42), ah7i93 (v0 + 19) (vI h v0 42), ah5i93 (v0 + 19) (vI h v0 42), gr2i93_1 (v0 + 19) (vI h v0 42) lx10i93 (by omega), gr7i86_2 (v0 + 19) (vI h v0 42)])).symm
            subst sx11i93
            refine qk_some ?_
            have o96 : vI r7i86 v0 48 = 1 := (by rw [gr7i86_1])
            exact ⟨Th8i93, (by clear ih; show ∀ a k, ¬ (a = v0 ∧ (k = 5 ∨ k = 46 ∨ k = 48 ∨ k = 50 ∨ k = 41 ∨ k = 44 ∨ k = 49 ∨ k = 45 ∨ k = 47 ∨ k = 43 ∨ k = 6 ∨ k = 7 ∨ k = 8)) → vI h8i93 a k = vI h a k; intro a k n0; rw [ih8i93, if_neg (by omega), ih7i93, if_neg (by omega), ih5i93, if_neg (by omega), gr2i93_0 a k (by omega), gr7i86_0 a k (by omega)]), (by clear ih; show ∀ a j, 0 ≤ j → ¬ (a = v0 + 4 ∨ a = v0 + 9 ∨ a = v0 + 10 ∨ a = v0 + 11 ∨ a = v0 + 12 ∨ a = v0 + 13 ∨ a = v0 + 14 ∨ a = v0 + 17 ∨ a = v0 + 18 ∨ a = v0 + 15 ∨ a = v0 + 34 ∨ a = v0 + 35 ∨ a = v0 + 22 ∨ a = v0 + 28 ∨ a = v0 + 21 ∨ a = v0 + 26 ∨ a = v0 + 27 ∨ a = v0 + 29 ∨ a = v0 + 23 ∨ a = v0 + 24 ∨ a = v0 + 25 ∨ a = v0 + 30 ∨ a = v0 + 31 ∨ a = v0 + 20 ∨ a = v0 + 5 ∨ a = v0 + 6 ∨ a = v0 + 7 ∨ a = v0 + 8 ∨ a = v0 + 16 ∨ a = v0 + 19) → vA h8i93 a j = vA h a j; intro a j j0 n0; rw [ah8i93, ah7i93, ah5i93, gr2i93_1 a j j0 (by omega), gr7i86_2 a j]), (by clear ih; show vI h8i93 v0 8 ≠ 0 → q_LV h8i93 v0 (vI h8i93 v0 7); exact absurd cc94 (zz_1abbd7ede0 o96 gr2i93_4))⟩
          · skip
            refine r_Mo_o Tr2i93 kv0 ?_
            refine c_Mod_fail (v0 := v0) (v1 := 1) Tr2i93 kv0 wM ?_
            intro yr13i93 hr13i93 Tr13i93 gr13i93_0 gr13i93_1 gr13i93_2
            dsimp only
            refine qk_some ?_
            have o97 := g_Mo_42 T kv0
            exact ⟨Tr13i93, (by clear ih; show ∀ a k, ¬ (a = v0 ∧ (k = 5 ∨ k = 46 ∨ k = 48 ∨ k = 50 ∨ k = 41 ∨ k = 44 ∨ k = 49 ∨ k = 45 ∨ k = 47 ∨ k = 43 ∨ k = 6 ∨ k = 7 ∨ k = 8)) → vI hr13i93 a k = vI h a k; intro a k n0; rw [gr13i93_1 a k, if_neg (by omega), gr2i93_0 a k (by omega), gr7i86_0 a k (by omega)]), (by clear ih; show ∀ a j, 0 ≤ j → ¬ (a = v0 + 4 ∨ a = v0 + 9 ∨ a = v0 + 10 ∨ a = v0 + 11 ∨ a = v0 + 12 ∨ a = v0 + 13 ∨ a = v0 + 14 ∨ a = v0 + 17 ∨ a = v0 + 18 ∨ a = v0 + 15 ∨ a = v0 + 34 ∨ a = v0 + 35 ∨ a = v0 + 22 ∨ a = v0 + 28 ∨ a = v0 + 21 ∨ a = v0 + 26 ∨ a = v0 + 27 ∨ a = v0 + 29 ∨ a = v0 + 23 ∨ a = v0 + 24 ∨ a = v0 + 25 ∨ a = v0 + 30 ∨ a = v0 + 31 ∨ a = v0 + 20 ∨ a = v0 + 5 ∨ a = v0 + 6 ∨ a = v0 + 7 ∨ a = v0 + 8 ∨ a = v0 + 16 ∨ a = v0 + 19) → vA hr13i93 a j = vA h a j; intro a j j0 n0; rw [gr13i93_2 a j, gr2i93_1 a j j0 (by omega), gr7i86_2 a j]), (by clear ih; show vI hr13i93 v0 8 ≠ 0 → q_LV hr13i93 v0 (vI hr13i93 v0 7); intro p8; rw [gr13i93_1 v0 8, if_neg (fun z => absurd z.2 (by decide)), gr2i93_0 v0 8 (by omega), gr7i86_0 v0 8 (by omega)] at p8; rw [gr13i93_1 v0 7, if_neg (fun z => absurd z.2 (by decide)), gr2i93_0 v0 7 (by omega), gr7i86_0 v0 7 (by omega)]; exact q_LV_goals (LV p8) (g_Mo_42 T kv0).1 (g_Mo_42 T kv0).2 lh (g_Mo_e19 T kv0 (vI h v0 7)).2 (g_Mo_e22 T kv0 (vI h v0 7)).1 (g_Mo_e22 T kv0 (vI h v0 7)).2 (fun a j j0 na => by rw [gr13i93_2 a j, gr2i93_1 a j j0 (by omega), gr7i86_2 a j]) (fun j j0 jj => by rw [gr13i93_2 (v0 + 13) j, gr2i93_2 j j0 (zz_098ca6c8f2 jj o97), gr7i86_2 (v0 + 13) j]))⟩
      · skip
        unfold f_Mod_parse_250
        refine r_Mo_o T kv0 ?_
        refine c_Mod_goals (v0 := v0) T kv0 wM (by clear ih; exact GO) (by clear ih; exact LB) hN ?_
        intro r2i98 Tr2i98 gr2i98_0 gr2i98_1 gr2i98_2 gr2i98_3 gr2i98_4
        refine r_Mo_48 Tr2i98 kv0 ?_
        intro x3i98 ex3i98
        subst ex3i98
        refine qk_if (fun cc99 => ?_) (fun cc99 => ?_)
        · skip
          refine w_Mo_6 Tr2i98 kv0 (wM _ (by omega) (by omega)) ?_
          intro h5i98 Th5i98 ih5i98 ah5i98
          refine r_Mo_42 Th5i98 kv0 ?_
          intro x6i98 ex6i98 lx6i98 ux6i98
          have sx6i98 : (vI h v0 42) = x6i98 := (ex6i98.trans (by rw [ih5i98 v0 42, if_neg (fun z => absurd z.2 (by decide)), gr2i98_0 v0 42 (by omega)])).symm
          subst sx6i98
          refine w_Mo_7 Th5i98 kv0 (wM _ (by omega) (by omega)) lx6i98 ux6i98 ?_
          intro h7i98 Th7i98 ih7i98 ah7i98
          refine w_Mo_8 Th7i98 kv0 (wM _ (by omega) (by omega)) ?_
          intro h8i98 Th8i98 ih8i98 ah8i98
          refine r_Mo_24 Th8i98 kv0 ?_
          refine r_Mo_7 Th8i98 kv0 ?_
          intro x10i98 ex10i98 lx10i98 ux10i98
          have sx10i98 : vI h v0 42 = x10i98 := (ex10i98.trans (by rw [ih8i98 v0 7, if_neg (fun z => absurd z.2 (by decide)), ih7i98 v0 7, if_pos ⟨rfl, rfl⟩])).symm
          subst sx10i98
          have o100 := g_Mo_42 T kv0
          refine r_Mo_e19 Th8i98 kv0 lx10i98 (zz_e1f2e57bfa o100) ?_
          intro x11i98 ex11i98 lx11i98 ux11i98
          have sx11i98 : (vA h (v0 + 19) (vI h v0 42)) = x11i98 := (ex11i98.trans (by rw [ah8i98 (v0 + 19) (vI h v0 42), ah7i98 (v0 + 19) (vI h v0 42), ah5i98 (v0 + 19) (vI h v0 42), gr2i98_1 (v0 + 19) (vI h v0 42) lx10i98 (by omega)])).symm
          subst sx11i98
          refine qk_some ?_
          exact ⟨Th8i98, (by clear ih; show ∀ a k, ¬ (a = v0 ∧ (k = 5 ∨ k = 46 ∨ k = 48 ∨ k = 50 ∨ k = 41 ∨ k = 44 ∨ k = 49 ∨ k = 45 ∨ k = 47 ∨ k = 43 ∨ k = 6 ∨ k = 7 ∨ k = 8)) → vI h8i98 a k = vI h a k; intro a k n0; rw [ih8i98, if_neg (by omega), ih7i98, if_neg (by omega), ih5i98, if_neg (by omega), gr2i98_0 a k (by omega)]), (by clear ih; show ∀ a j, 0 ≤ j → ¬ (a = v0 + 4 ∨ a = v0 + 9 ∨ a = v0 + 10 ∨ a = v0 + 11 ∨ a = v0 + 12 ∨ a = v0 + 13 ∨ a = v0 + 14 ∨ a = v0 + 17 ∨ a = v0 + 18 ∨ a = v0 + 15 ∨ a = v0 + 34 ∨ a = v0 + 35 ∨ a = v0 + 22 ∨ a = v0 + 28 ∨ a = v0 + 21 ∨ a = v0 + 26 ∨ a = v0 + 27 ∨ a = v0 + 29 ∨ a = v0 + 23 ∨ a = v0 + 24 ∨ a = v0 + 25 ∨ a = v0 + 30 ∨ a = v0 + 31 ∨ a = v0 + 20 ∨ a = v0 + 5 ∨ a = v0 + 6 ∨ a = v0 + 7 ∨ a = v0 + 8 ∨ a = v0 + 16 ∨ a = v0 + 19) → vA h8i98 a j = vA h a j; intro a j j0 n0; rw [ah8i98, ah7i98, ah5i98, gr2i98_1 a j j0 (by omega)]), (by clear ih; show vI h8i98 v0 8 ≠ 0 → q_LV h8i98 v0 (vI h8i98 v0 7); intro p8; rw [ih8i98 v0 7, if_neg (fun z => absurd z.2 (by decide)), ih7i98 v0 7, if_pos ⟨rfl, rfl⟩]; exact q_LV_fin (CS (zz_07e54754b7 gr2i98_4 cc99)) (BL (zz_07e54754b7 gr2i98_4 cc99)) (g_Mo_42 T kv0).1 (g_Mo_42 T kv0).2 (g_Mo_e19 T kv0 (vI h v0 42)).2 (g_Mo_e22 T kv0 (vI h v0 42)).1 (g_Mo_e22 T kv0 (vI h v0 42)).2 (zz_5e79a8627b cc1 gr2i98_4 cc99) (fun a j j0 na => by rw [ah8i98, ah7i98, ah5i98, gr2i98_1 a j j0 (by omega)]) (fun j j0 n0 n1 => by rw [ah8i98 (v0 + 13) j, ah7i98 (v0 + 13) j, ah5i98 (v0 + 13) j]; exact gr2i98_3 j j0 n0 n1))⟩
        · skip
          refine r_Mo_o Tr2i98 kv0 ?_
          refine c_Mod_fail (v0 := v0) (v1 := 1) Tr2i98 kv0 wM ?_
          intro yr13i98 hr13i98 Tr13i98 gr13i98_0 gr13i98_1 gr13i98_2
          dsimp only
          refine qk_some ?_
          have o101 := g_Mo_42 T kv0
          exact ⟨Tr13i98, (by clear ih; show ∀ a k, ¬ (a = v0 ∧ (k = 5 ∨ k = 46 ∨ k = 48 ∨ k = 50 ∨ k = 41 ∨ k = 44 ∨ k = 49 ∨ k = 45 ∨ k = 47 ∨ k = 43 ∨ k = 6 ∨ k = 7 ∨ k = 8)) → vI hr13i98 a k = vI h a k; intro a k n0; rw [gr13i98_1 a k, if_neg (by omega), gr2i98_0 a k (by omega)]), (by clear ih; show ∀ a j, 0 ≤ j → ¬ (a = v0 + 4 ∨ a = v0 + 9 ∨ a = v0 + 10 ∨ a = v0 + 11 ∨ a = v0 + 12 ∨ a = v0 + 13 ∨ a = v0 + 14 ∨ a = v0 + 17 ∨ a = v0 + 18 ∨ a = v0 + 15 ∨ a = v0 + 34 ∨ a = v0 + 35 ∨ a = v0 + 22 ∨ a = v0 + 28 ∨ a = v0 + 21 ∨ a = v0 + 26 ∨ a = v0 + 27 ∨ a = v0 + 29 ∨ a = v0 + 23 ∨ a = v0 + 24 ∨ a = v0 + 25 ∨ a = v0 + 30 ∨ a = v0 + 31 ∨ a = v0 + 20 ∨ a = v0 + 5 ∨ a = v0 + 6 ∨ a = v0 + 7 ∨ a = v0 + 8 ∨ a = v0 + 16 ∨ a = v0 + 19) → vA hr13i98 a j = vA h a j; intro a j j0 n0; rw [gr13i98_2 a j, gr2i98_1 a j j0 (by omega)]), (by clear ih; show vI hr13i98 v0 8 ≠ 0 → q_LV hr13i98 v0 (vI hr13i98 v0 7); intro p8; rw [gr13i98_1 v0 8, if_neg (fun z => absurd z.2 (by decide)), gr2i98_0 v0 8 (by omega)] at p8; rw [gr13i98_1 v0 7, if_neg (fun z => absurd z.2 (by decide)), gr2i98_0 v0 7 (by omega)]; exact q_LV_goals (LV p8) (g_Mo_42 T kv0).1 (g_Mo_42 T kv0).2 lh (g_Mo_e19 T kv0 (vI h v0 7)).2 (g_Mo_e22 T kv0 (vI h v0 7)).1 (g_Mo_e22 T kv0 (vI h v0 7)).2 (fun a j j0 na => by rw [gr13i98_2 a j, gr2i98_1 a j j0 (by omega)]) (fun j j0 jj => by rw [gr13i98_2 (v0 + 13) j, gr2i98_2 j j0 (zz_098ca6c8f2 jj o101)]))⟩
theorem p_Mod_parse_92 {L : q_L} {W : Nat → Prop} {h0 : z_H} {π : Nat → Nat → Option Nat} {N : Nat} {h : z_H} {v0 : Nat} (T : q_U L W h0 π h) (kv0 : q_M L π v0) (wM : ∀ a, v0 ≤ a → a < v0 + 46 → W a) (hl : vI h v0 48 = 0 → vI h v0 41 ≤ vI h v0 3) (hi : vI h v0 48 = 0 → vA h (v0 + 21) (vI h v0 42) ≤ vI h v0 41) (hp : vI h v0 48 = 0 → 2 * vA h (v0 + 20) (vI h v0 42) ≤ vI h v0 41) (hc : vI h v0 48 = 0 → vA h (v0 + 22) (vI h v0 42) ≤ vI h v0 41) (lh : vI h v0 7 = 1 - vI h v0 42) (CS : vI h v0 48 = 0 → q_CS h v0 (vI h v0 42)) (GO : vI h v0 48 = 0 → q_GO h v0 (vI h v0 42) 0) (LB : q_LB h v0 (vI h v0 42)) (BL : vI h v0 48 = 0 → q_BL h v0 (vI h v0 42) (vI h v0 43)) (LV : vI h v0 8 ≠ 0 → q_LV h v0 (vI h v0 7)) (hN : 100000 ≤ N) : qk (f_Mod_parse_92 N  N v0 h) (fun r => q_U L W h0 π r.2 ∧ (∀ a k, ¬ (a = v0 ∧ (k = 5 ∨ k = 46 ∨ k = 48 ∨ k = 50 ∨ k = 41 ∨ k = 44 ∨ k = 49 ∨ k = 45 ∨ k = 47 ∨ k = 43 ∨ k = 6 ∨ k = 7 ∨ k = 8)) → vI r.2 a k = vI h a k) ∧ (∀ a j, 0 ≤ j → ¬ (a = v0 + 4 ∨ a = v0 + 9 ∨ a = v0 + 10 ∨ a = v0 + 11 ∨ a = v0 + 12 ∨ a = v0 + 13 ∨ a = v0 + 14 ∨ a = v0 + 17 ∨ a = v0 + 18 ∨ a = v0 + 15 ∨ a = v0 + 34 ∨ a = v0 + 35 ∨ a = v0 + 22 ∨ a = v0 + 28 ∨ a = v0 + 21 ∨ a = v0 + 26 ∨ a = v0 + 27 ∨ a = v0 + 29 ∨ a = v0 + 23 ∨ a = v0 + 24 ∨ a = v0 + 25 ∨ a = v0 + 30 ∨ a = v0 + 31 ∨ a = v0 + 20 ∨ a = v0 + 5 ∨ a = v0 + 6 ∨ a = v0 + 7 ∨ a = v0 + 8 ∨ a = v0 + 16 ∨ a = v0 + 19) → vA r.2 a j = vA h a j) ∧ (vI r.2 v0 8 ≠ 0 → q_LV r.2 v0 (vI r.2 v0 7))) := by
  have hq := q_qnN hN
  have rg_at := g_Mo_41 T kv0
  refine p_Mod_parse_92_n (q_lo (M := 301) (by decide) (by decide)) N v0 h T kv0 wM hl hi hp hc lh CS GO LB BL LV hN ?_ 
  show 301 - q_n N ≤ _
  rw [hq]
  split <;> lia
