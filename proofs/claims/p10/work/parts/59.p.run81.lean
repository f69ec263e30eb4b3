theorem zz_b2c4890a18 {a1 : Int32} (h0 : a1 = 0) : a1 < 12 := by simp only [Int32.le_iff_toInt_le, Int32.lt_iff_toInt_lt, ← Int32.toInt_inj, ne_eq] at *; have l0 : (0 : Int32).toInt = 0 := (by decide); have l1 : (12 : Int32).toInt = 12 := (by decide); omega
theorem zz_403ad391da {a1 a2 a3 a4 a5 : Int32} (h0 : a1 = a2 + 1) (h1 : a3 = a4) (h2 : (0 ≤ a4) ∧ (a4 ≤ 12)) (h3 : a2 = 0) (h4 : (a5 = 0) → (a4 ≠ 0)) (h5 : a5 = 0) (h6 : (0 ≤ a2) ∧ (a2 ≤ 12)) : a1 ≤ a3 := by simp only [Int32.le_iff_toInt_le, Int32.lt_iff_toInt_lt, ← Int32.toInt_inj, ne_eq] at *; have b0 := Int32.le_toInt a2; have c0 := Int32.toInt_lt a2; have l0 : (1 : Int32).toInt = 1 := (by decide); have l1 : (0 : Int32).toInt = 0 := (by decide); have l2 : (12 : Int32).toInt = 12 := (by decide); have s0 : (a2 + 1).toInt = a2.toInt + 1 := q_tA (by decide) (by omega) (by omega); omega
theorem zz_039b8a3019 {a1 a2 : Int32} (h0 : (0 ≤ a1) ∧ (a1 ≤ 12)) (h1 : a2 = 0) : a2 ≤ a1 := by simp only [Int32.le_iff_toInt_le, Int32.lt_iff_toInt_lt, ← Int32.toInt_inj, ne_eq] at *; have l0 : (0 : Int32).toInt = 0 := (by decide); have l1 : (12 : Int32).toInt = 12 := (by decide); omega
theorem zz_e3abb04764 {a1 : Int32} (h0 : ¬ (40 ≤ a1)) : a1 < 40 := by simp only [Int32.le_iff_toInt_le, Int32.lt_iff_toInt_lt, ← Int32.toInt_inj, ne_eq] at *; have l0 : (40 : Int32).toInt = 40 := (by decide); omega
theorem zz_f631b085a5 {a1 : Int32} (h0 : 0 ≤ a1) (h1 : ¬ (40 ≤ a1)) : 0 ≤ a1 + 1 := by simp only [Int32.le_iff_toInt_le, Int32.lt_iff_toInt_lt, ← Int32.toInt_inj, ne_eq] at *; have b0 := Int32.le_toInt a1; have c0 := Int32.toInt_lt a1; have l0 : (0 : Int32).toInt = 0 := (by decide); have l1 : (40 : Int32).toInt = 40 := (by decide); have l2 : (1 : Int32).toInt = 1 := (by decide); have s0 : (a1 + 1).toInt = a1.toInt + 1 := q_tA (by decide) (by omega) (by omega); omega
theorem zz_5d5396e84c {a1 : Int32} (h0 : ¬ (40 ≤ a1)) (h1 : 0 ≤ a1) : a1 + 1 ≤ 40 := by simp only [Int32.le_iff_toInt_le, Int32.lt_iff_toInt_lt, ← Int32.toInt_inj, ne_eq] at *; have b0 := Int32.le_toInt a1; have c0 := Int32.toInt_lt a1; have l0 : (40 : Int32).toInt = 40 := (by decide); have l1 : (0 : Int32).toInt = 0 := (by decide); have l2 : (1 : Int32).toInt = 1 := (by decide); have s0 : (a1 + 1).toInt = a1.toInt + 1 := q_tA (by decide) (by omega) (by omega); omega
theorem zz_1cb597a981 {a1 a2 a3 a4 : Int32} (h0 : a1 = a2) (h1 : a3 = a4) (h2 : (a2 = 0) → (a4 ≠ 0)) : (a1 = 0) → (a3 ≠ 0) := by simp only [Int32.le_iff_toInt_le, Int32.lt_iff_toInt_lt, ← Int32.toInt_inj, ne_eq] at *; have l0 : (0 : Int32).toInt = 0 := (by decide); omega
theorem zz_0589651aa7 {a1 a2 a3 : Int32} (h0 : a1 ≤ a2) (h1 : a3 ≤ a1 + 1) (h2 : -100000 ≤ a1) (h3 : ¬ (40 ≤ a2)) (h4 : 0 ≤ a2) : a3 ≤ a2 + 1 := by simp only [Int32.le_iff_toInt_le, Int32.lt_iff_toInt_lt, ← Int32.toInt_inj, ne_eq] at *; have b0 := Int32.le_toInt a1; have c0 := Int32.toInt_lt a1; have b1 := Int32.le_toInt a2; have c1 := Int32.toInt_lt a2; have l0 : (1 : Int32).toInt = 1 := (by decide); have l1 : (-100000 : Int32).toInt = -100000 := (by decide); have l2 : (40 : Int32).toInt = 40 := (by decide); have l3 : (0 : Int32).toInt = 0 := (by decide); have s0 : (a1 + 1).toInt = a1.toInt + 1 := q_tA (by decide) (by omega) (by omega); have s1 : (a2 + 1).toInt = a2.toInt + 1 := q_tA (by decide) (by omega) (by omega); omega
set_option maxHeartbeats 2000000 in
theorem p_Mod_run_81_n {L : q_L} {W : Nat → Prop} {h0 : z_H} {π : Nat → Nat → Option Nat} {N : Nat} {lo : Nat → Int32} (hqn : q_Q lo 41) : ∀ (n : Nat) (v0 : Nat) (v1 : Int32) (h : z_H), q_U L W h0 π h → q_M L π v0 → (∀ a, v0 ≤ a → a < v0 + 46 → W a) → (0 ≤ v1) → (v1 ≤ 40) → (q_LV h v0 (vI h v0 7)) → (vI h v0 70 = 0) → (vI h v0 68 = 0) → (vI h v0 76 = 0 → vI h v0 4 ≠ 0) → (100000 ≤ N) → (lo n ≤ v1) → qk (f_Mod_run_81 N  n v0 v1 h) (fun r => q_U L W h0 π r.2 ∧ (∀ a k, ¬ (a = v0 ∧ (k = 6 ∨ k = 76 ∨ k = 69 ∨ k = 67 ∨ k = 68 ∨ k = 65 ∨ k = 66 ∨ k = 70 ∨ k = 72 ∨ k = 73 ∨ k = 74 ∨ k = 54 ∨ k = 55 ∨ k = 56 ∨ k = 57 ∨ k = 71 ∨ k = 75)) → vI r.2 a k = vI h a k) ∧ (∀ a j, 0 ≤ j → ¬ (a = v0 + 43 ∨ a = v0 + 41 ∨ a = v0 + 39 ∨ a = v0 + 40 ∨ a = v0 + 42 ∨ a = v0 + 36 ∨ a = v0 + 37 ∨ a = v0 + 38 ∨ a = v0 + 45) → vA r.2 a j = vA h a j)) := by
  intro n
  induction n with
  | zero => intro v0 v1 h T kv0 wM a0 a1 LV rz az ov hN hms; have hz := hqn.1; exact absurd hms (by grind)
  | succ n ih =>
    intro v0 v1 h T kv0 wM a0 a1 LV rz az ov hN hms
    obtain ⟨hq1, hq2, hq3⟩ := hqn.2 n
    rw [f_Mod_run_81]
    refine qk_if (fun cc1 => ?_) (fun cc1 => ?_)
    · skip
      refine r_Mo_76 T kv0 ?_
      intro x2 ex2
      subst ex2
      refine qk_if (fun cc2 => ?_) (fun cc2 => ?_)
      · skip
        refine r_Mo_o T kv0 ?_
        refine c_Mod_readLine (v0 := v0) T kv0 wM (zz_b2c4890a18 rz) hN ?_
        intro r5 Tr5 gr5_0 gr5_1 gr5_2
        refine w_Mo_72 Tr5 kv0 (wM _ (by omega) (by omega)) ?_
        intro h6 Th6 ih6 ah6
        have o3 : vI h6 v0 70 = (vI h v0 70) + 1 := (by rw [ih6 v0 70, if_neg (fun z => absurd z.2 (by decide)), gr5_2])
        have o4 : vI h6 v0 4 = vI h v0 4 := (by rw [ih6 v0 4, if_neg (fun z => absurd z.2 (by decide)), gr5_0 v0 4 (by omega)])
        have o5 := g_Mo_4 T kv0
        have o6 := g_Mo_70 T kv0
        refine qk_mono (p_Mod_run_118 (v0 := v0) (v1 := 0) Th6 kv0 wM (by show (0 : Int32) ≤ 0; decide) (by show (0 : Int32) ≤ 41; decide) (by clear ih; rw [ih6 v0 7, if_neg (fun z => absurd z.2 (by decide)), gr5_0 v0 7 (by omega)]; exact q_LV_run LV (g_Mo_7 T kv0).1 (g_Mo_7 T kv0).2 (g_Mo_e19 T kv0 (vI h v0 7)).2 (g_Mo_e22 T kv0 (vI h v0 7)).1 (g_Mo_e22 T kv0 (vI h v0 7)).2 (fun a j j0 na => by rw [ah6, gr5_1 a j j0 (by omega)])) (by clear ih; left; rw [ih6 v0 68, if_neg (fun z => absurd z.2 (by decide)), gr5_0 v0 68 (by omega)]; exact az) (zz_403ad391da o3 o4 o5 rz ov cc2 o6) hN) ?_
        rintro ⟨y, hz⟩ ⟨Tz, g0, g1⟩
        try dsimp only at *
        exact ⟨Tz, (by clear ih; show ∀ a k, ¬ (a = v0 ∧ (k = 6 ∨ k = 76 ∨ k = 69 ∨ k = 67 ∨ k = 68 ∨ k = 65 ∨ k = 66 ∨ k = 70 ∨ k = 72 ∨ k = 73 ∨ k = 74 ∨ k = 54 ∨ k = 55 ∨ k = 56 ∨ k = 57 ∨ k = 71 ∨ k = 75)) → vI hz a k = vI h a k; intro a k n0; rw [g0 a k (by omega), ih6, if_neg (by omega), gr5_0 a k (by omega)]), (by clear ih; show ∀ a j, 0 ≤ j → ¬ (a = v0 + 43 ∨ a = v0 + 41 ∨ a = v0 + 39 ∨ a = v0 + 40 ∨ a = v0 + 42 ∨ a = v0 + 36 ∨ a = v0 + 37 ∨ a = v0 + 38 ∨ a = v0 + 45) → vA hz a j = vA h a j; intro a j j0 n0; rw [g1 a j j0 (by omega), ah6, gr5_1 a j j0 (by omega)])⟩
      · skip
        have o8 := g_Mo_4 T kv0
        refine qk_mono (p_Mod_run_118 (v0 := v0) (v1 := 0) T kv0 wM (by show (0 : Int32) ≤ 0; decide) (by show (0 : Int32) ≤ 41; decide) (by clear ih; exact LV) (by clear ih; left; exact az) (zz_039b8a3019 o8 rz) hN) ?_
        rintro ⟨y, hz⟩ ⟨Tz, g0, g1⟩
        try dsimp only at *
        exact ⟨Tz, (by clear ih; show ∀ a k, ¬ (a = v0 ∧ (k = 6 ∨ k = 76 ∨ k = 69 ∨ k = 67 ∨ k = 68 ∨ k = 65 ∨ k = 66 ∨ k = 70 ∨ k = 72 ∨ k = 73 ∨ k = 74 ∨ k = 54 ∨ k = 55 ∨ k = 56 ∨ k = 57 ∨ k = 71 ∨ k = 75)) → vI hz a k = vI h a k; intro a k n0; rw [g0 a k (by omega)]), (by clear ih; show ∀ a j, 0 ≤ j → ¬ (a = v0 + 43 ∨ a = v0 + 41 ∨ a = v0 + 39 ∨ a = v0 + 40 ∨ a = v0 + 42 ∨ a = v0 + 36 ∨ a = v0 + 37 ∨ a = v0 + 38 ∨ a = v0 + 45) → vA hz a j = vA h a j; intro a j j0 n0; rw [g1 a j j0 (by omega)])⟩
    · skip
      refine r_Mo_64 T kv0 ?_
      refine w_Mo_e45 T kv0 (wM _ (by omega) (by omega)) a0 (zz_e3abb04764 cc1) ?_
      intro h8 Th8 ih8 ah8
      refine qk_bs ?_
      have o10 : vI h8 v0 70 = vI h v0 70 := (by rw [ih8 v0 70])
      have o11 : vI h8 v0 68 = vI h v0 68 := (by rw [ih8 v0 68])
      have o12 : vI h8 v0 76 = vI h v0 76 := (by rw [ih8 v0 76])
      have o13 : vI h8 v0 4 = vI h v0 4 := (by rw [ih8 v0 4])
      refine qk_mono (ih (v0) ((v1 + 1)) h8 Th8 kv0 wM (zz_f631b085a5 a0 cc1) (zz_5d5396e84c cc1 a0) (by clear ih; rw [ih8 v0 7]; exact q_LV_run LV (g_Mo_7 T kv0).1 (g_Mo_7 T kv0).2 (g_Mo_e19 T kv0 (vI h v0 7)).2 (g_Mo_e22 T kv0 (vI h v0 7)).1 (g_Mo_e22 T kv0 (vI h v0 7)).2 (fun a j j0 na => by rw [ah8 a j j0, if_neg (by omega)])) (zz_7e9be32e4d o10 rz) (zz_7e9be32e4d o11 az) (zz_1cb597a981 o12 o13 ov) hN (zz_0589651aa7 hms hq1 hq2 cc1 a0)) ?_
      rintro ⟨y, hz⟩ ⟨Tz, g0, g1⟩
      try dsimp only at *
      exact ⟨Tz, (by clear ih; show ∀ a k, ¬ (a = v0 ∧ (k = 6 ∨ k = 76 ∨ k = 69 ∨ k = 67 ∨ k = 68 ∨ k = 65 ∨ k = 66 ∨ k = 70 ∨ k = 72 ∨ k = 73 ∨ k = 74 ∨ k = 54 ∨ k = 55 ∨ k = 56 ∨ k = 57 ∨ k = 71 ∨ k = 75)) → vI hz a k = vI h a k; intro a k n0; rw [g0 a k (by omega), ih8]), (by clear ih; show ∀ a j, 0 ≤ j → ¬ (a = v0 + 43 ∨ a = v0 + 41 ∨ a = v0 + 39 ∨ a = v0 + 40 ∨ a = v0 + 42 ∨ a = v0 + 36 ∨ a = v0 + 37 ∨ a = v0 + 38 ∨ a = v0 + 45) → vA hz a j = vA h a j; intro a j j0 n0; rw [g1 a j j0 (by omega), ah8 a j j0, if_neg (by omega)])⟩
theorem p_Mod_run_81 {L : q_L} {W : Nat → Prop} {h0 : z_H} {π : Nat → Nat → Option Nat} {N : Nat} {h : z_H} {v0 : Nat} {v1 : Int32} (T : q_U L W h0 π h) (kv0 : q_M L π v0) (wM : ∀ a, v0 ≤ a → a < v0 + 46 → W a) (a0 : 0 ≤ v1) (a1 : v1 ≤ 40) (LV : q_LV h v0 (vI h v0 7)) (rz : vI h v0 70 = 0) (az : vI h v0 68 = 0) (ov : vI h v0 76 = 0 → vI h v0 4 ≠ 0) (hN : 100000 ≤ N) : qk (f_Mod_run_81 N  N v0 v1 h) (fun r => q_U L W h0 π r.2 ∧ (∀ a k, ¬ (a = v0 ∧ (k = 6 ∨ k = 76 ∨ k = 69 ∨ k = 67 ∨ k = 68 ∨ k = 65 ∨ k = 66 ∨ k = 70 ∨ k = 72 ∨ k = 73 ∨ k = 74 ∨ k = 54 ∨ k = 55 ∨ k = 56 ∨ k = 57 ∨ k = 71 ∨ k = 75)) → vI r.2 a k = vI h a k) ∧ (∀ a j, 0 ≤ j → ¬ (a = v0 + 43 ∨ a = v0 + 41 ∨ a = v0 + 39 ∨ a = v0 + 40 ∨ a = v0 + 42 ∨ a = v0 + 36 ∨ a = v0 + 37 ∨ a = v0 + 38 ∨ a = v0 + 45) → vA r.2 a j = vA h a j)) := by
  have hq := q_qnN hN
  refine p_Mod_run_81_n (q_lo (M := 41) (by decide) (by decide)) N v0 v1 h T kv0 wM a0 a1 LV rz az ov hN ?_ 
  show 41 - q_n N ≤ _
  rw [hq]
  lia
