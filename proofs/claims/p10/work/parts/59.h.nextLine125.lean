theorem zz_0ece167650 {a1 a2 : Int32} (h0 : (0 ≤ a1) ∧ (a1 ≤ 60)) (h1 : 0 ≤ a2) (h2 : a2 ≤ 24) : 0 ≤ a1 + (a2 + 1) := by simp only [Int32.le_iff_toInt_le, Int32.lt_iff_toInt_lt, ← Int32.toInt_inj, ne_eq] at *; have b0 := Int32.le_toInt a2; have c0 := Int32.toInt_lt a2; have b1 := Int32.le_toInt a1; have c1 := Int32.toInt_lt a1; have l0 : (0 : Int32).toInt = 0 := (by decide); have l1 : (60 : Int32).toInt = 60 := (by decide); have l2 : (24 : Int32).toInt = 24 := (by decide); have l3 : (1 : Int32).toInt = 1 := (by decide); have s0 : (a2 + 1).toInt = a2.toInt + 1 := q_tA (by decide) (by omega) (by omega); have s1 : (a1 + (a2 + 1)).toInt = a1.toInt + (a2 + 1).toInt := q_tA rfl (by omega) (by omega); omega
theorem zz_74e2c0484a {a1 a2 : Int32} (h0 : a1 + 1 + a2 ≤ 60) (h1 : (0 ≤ a1) ∧ (a1 ≤ 60)) (h2 : 0 ≤ a2) (h3 : a2 ≤ 24) : a1 + (a2 + 1) ≤ 60 := by simp only [Int32.le_iff_toInt_le, Int32.lt_iff_toInt_lt, ← Int32.toInt_inj, ne_eq] at *; have b0 := Int32.le_toInt a1; have c0 := Int32.toInt_lt a1; have b1 := Int32.le_toInt a2; have c1 := Int32.toInt_lt a2; have l0 : (1 : Int32).toInt = 1 := (by decide); have l1 : (60 : Int32).toInt = 60 := (by decide); have l2 : (0 : Int32).toInt = 0 := (by decide); have l3 : (24 : Int32).toInt = 24 := (by decide); have s0 : (a1 + 1).toInt = a1.toInt + 1 := q_tA (by decide) (by omega) (by omega); have s1 : (a1 + 1 + a2).toInt = (a1 + 1).toInt + a2.toInt := q_tA rfl (by omega) (by omega); have s2 : (a2 + 1).toInt = a2.toInt + 1 := q_tA (by decide) (by omega) (by omega); have s3 : (a1 + (a2 + 1)).toInt = a1.toInt + (a2 + 1).toInt := q_tA rfl (by omega) (by omega); omega
theorem zz_812822a7d5 {a1 a2 : Int32} (h0 : a1 < a2) (h1 : (0 ≤ a2) ∧ (a2 ≤ 12)) (h2 : (0 ≤ a1) ∧ (a1 ≤ 12)) : a1 + 1 ≤ 12 := by simp only [Int32.le_iff_toInt_le, Int32.lt_iff_toInt_lt, ← Int32.toInt_inj, ne_eq] at *; have b0 := Int32.le_toInt a1; have c0 := Int32.toInt_lt a1; have l0 : (0 : Int32).toInt = 0 := (by decide); have l1 : (12 : Int32).toInt = 12 := (by decide); have l2 : (1 : Int32).toInt = 1 := (by decide); have s0 : (a1 + 1).toInt = a1.toInt + 1 := q_tA (by decide) (by omega) (by omega); omega
theorem zz_e57b4beb88 {a1 : Int32} (h0 : 0 ≤ a1) (h1 : a1 ≤ 40) : (0 ≤ a1 + 1) ∧ (a1 + 1 ≤ 41) := by simp only [Int32.le_iff_toInt_le, Int32.lt_iff_toInt_lt, ← Int32.toInt_inj, ne_eq] at *; have b0 := Int32.le_toInt a1; have c0 := Int32.toInt_lt a1; have l0 : (0 : Int32).toInt = 0 := (by decide); have l1 : (40 : Int32).toInt = 40 := (by decide); have l2 : (1 : Int32).toInt = 1 := (by decide); have l3 : (41 : Int32).toInt = 41 := (by decide); have s0 : (a1 + 1).toInt = a1.toInt + 1 := q_tA (by decide) (by omega) (by omega); omega
theorem zz_bddd872b83 {a1 a2 a3 : Int32} (h0 : a1 = a2 + 1) (h1 : a2 < a3) (h2 : (0 ≤ a2) ∧ (a2 ≤ 12)) : (a2 ≤ a1) ∧ (a1 ≤ a3) := by simp only [Int32.le_iff_toInt_le, Int32.lt_iff_toInt_lt, ← Int32.toInt_inj, ne_eq] at *; have b0 := Int32.le_toInt a2; have c0 := Int32.toInt_lt a2; have l0 : (1 : Int32).toInt = 1 := (by decide); have l1 : (0 : Int32).toInt = 0 := (by decide); have l2 : (12 : Int32).toInt = 12 := (by decide); have s0 : (a2 + 1).toInt = a2.toInt + 1 := q_tA (by decide) (by omega) (by omega); omega
theorem zz_32f64bddaa {a1 a2 a3 a4 : Int32} (h0 : a1 < a2) (h1 : (0 ≤ a2) ∧ (a2 ≤ 12)) (h2 : ¬ (a3 ≤ a4)) (h3 : a3 ≤ 24) (h4 : (0 ≤ a1) ∧ (a1 ≤ 12)) (h5 : 0 ≤ a4) (h6 : a4 ≤ 24) : (24 * a1) + a4 < 288 := by simp only [Int32.le_iff_toInt_le, Int32.lt_iff_toInt_lt, ← Int32.toInt_inj, ne_eq] at *; have b0 := Int32.le_toInt a1; have c0 := Int32.toInt_lt a1; have b1 := Int32.le_toInt a4; have c1 := Int32.toInt_lt a4; have l0 : (0 : Int32).toInt = 0 := (by decide); have l1 : (12 : Int32).toInt = 12 := (by decide); have l2 : (24 : Int32).toInt = 24 := (by decide); have l3 : (288 : Int32).toInt = 288 := (by decide); have s0 : (24 * a1).toInt = 24 * a1.toInt := q_tM (by decide) (by omega) (by omega); have s1 : ((24 * a1) + a4).toInt = (24 * a1).toInt + a4.toInt := q_tA rfl (by omega) (by omega); omega
theorem zz_f0eb18ddf6 {a1 a2 : Int32} (h0 : (0 ≤ a1) ∧ (a1 ≤ 60)) (h1 : 0 ≤ a2) (h2 : a2 ≤ 24) : 0 ≤ a1 + 1 + a2 := by simp only [Int32.le_iff_toInt_le, Int32.lt_iff_toInt_lt, ← Int32.toInt_inj, ne_eq] at *; have b0 := Int32.le_toInt a1; have c0 := Int32.toInt_lt a1; have b1 := Int32.le_toInt a2; have c1 := Int32.toInt_lt a2; have l0 : (0 : Int32).toInt = 0 := (by decide); have l1 : (60 : Int32).toInt = 60 := (by decide); have l2 : (24 : Int32).toInt = 24 := (by decide); have l3 : (1 : Int32).toInt = 1 := (by decide); have s0 : (a1 + 1).toInt = a1.toInt + 1 := q_tA (by decide) (by omega) (by omega); have s1 : (a1 + 1 + a2).toInt = (a1 + 1).toInt + a2.toInt := q_tA rfl (by omega) (by omega); omega
theorem zz_d16bdb8a0d {a1 a2 a3 : Int32} (h0 : a1 + 1 + a2 ≤ 60) (h1 : ¬ (a2 ≤ a3)) (h2 : (0 ≤ a1) ∧ (a1 ≤ 60)) (h3 : 0 ≤ a3) (h4 : a2 ≤ 24) (h5 : a3 ≤ 24) : a1 + 1 + a3 < 64 := by simp only [Int32.le_iff_toInt_le, Int32.lt_iff_toInt_lt, ← Int32.toInt_inj, ne_eq] at *; have b0 := Int32.le_toInt a1; have c0 := Int32.toInt_lt a1; have b1 := Int32.le_toInt a2; have c1 := Int32.toInt_lt a2; have b2 := Int32.le_toInt a3; have c2 := Int32.toInt_lt a3; have l0 : (1 : Int32).toInt = 1 := (by decide); have l1 : (60 : Int32).toInt = 60 := (by decide); have l2 : (0 : Int32).toInt = 0 := (by decide); have l3 : (24 : Int32).toInt = 24 := (by decide); have l4 : (64 : Int32).toInt = 64 := (by decide); have s0 : (a1 + 1).toInt = a1.toInt + 1 := q_tA (by decide) (by omega) (by omega); have s1 : (a1 + 1 + a2).toInt = (a1 + 1).toInt + a2.toInt := q_tA rfl (by omega) (by omega); have s2 : (a1 + 1 + a3).toInt = (a1 + 1).toInt + a3.toInt := q_tA rfl (by omega) (by omega); omega
theorem zz_955b4db942 {a1 a2 a3 a4 : Int32} (h0 : a1 = a2) (h1 : a3 = a4) (h2 : a2 < a4) : a1 < a3 := by simp only [Int32.le_iff_toInt_le, Int32.lt_iff_toInt_lt, ← Int32.toInt_inj, ne_eq] at *; omega
theorem zz_bbdd997303 {a1 a2 a3 : Int32} (h0 : a1 = a2) (h1 : a2 + 1 + a3 ≤ 60) (h2 : (0 ≤ a2) ∧ (a2 ≤ 60)) (h3 : 0 ≤ a3) (h4 : a3 ≤ 24) : a1 + 1 + a3 ≤ 60 := by simp only [Int32.le_iff_toInt_le, Int32.lt_iff_toInt_lt, ← Int32.toInt_inj, ne_eq] at *; have b0 := Int32.le_toInt a2; have c0 := Int32.toInt_lt a2; have b1 := Int32.le_toInt a3; have c1 := Int32.toInt_lt a3; have b2 := Int32.le_toInt a1; have c2 := Int32.toInt_lt a1; have l0 : (1 : Int32).toInt = 1 := (by decide); have l1 : (60 : Int32).toInt = 60 := (by decide); have l2 : (0 : Int32).toInt = 0 := (by decide); have l3 : (24 : Int32).toInt = 24 := (by decide); have s0 : (a2 + 1).toInt = a2.toInt + 1 := q_tA (by decide) (by omega) (by omega); have s1 : (a2 + 1 + a3).toInt = (a2 + 1).toInt + a3.toInt := q_tA rfl (by omega) (by omega); have s2 : (a1 + 1).toInt = a1.toInt + 1 := q_tA (by decide) (by omega) (by omega); have s3 : (a1 + 1 + a3).toInt = (a1 + 1).toInt + a3.toInt := q_tA rfl (by omega) (by omega); omega
theorem zz_b94f94fe38 {a1 : Int32} (h0 : (0 ≤ a1) ∧ (a1 ≤ 41)) : (0 ≤ a1) ∧ (a1 ≤ 41) := by simp only [Int32.le_iff_toInt_le, Int32.lt_iff_toInt_lt, ← Int32.toInt_inj, ne_eq] at *; have l0 : (0 : Int32).toInt = 0 := (by decide); have l1 : (41 : Int32).toInt = 41 := (by decide); omega
theorem zz_fffa4a0f78 {a1 a2 a3 a4 a5 : Int32} (h0 : (a1 ≤ a2) ∧ (a2 ≤ a3)) (h1 : a1 = a4) (h2 : a3 = a5) : (a4 ≤ a2) ∧ (a2 ≤ a5) := by simp only [Int32.le_iff_toInt_le, Int32.lt_iff_toInt_lt, ← Int32.toInt_inj, ne_eq] at *; omega
set_option maxHeartbeats 1000000 in
theorem p_Mod_nextLine_125_n {L : q_L} {W : Nat → Prop} {h0 : z_H} {π : Nat → Nat → Option Nat} {N : Nat} {lo : Nat → Int32} (hqn : q_Q lo 25) : ∀ (n : Nat) (v0 : Nat) (v2 : Int32) (v3 : Int32) (v5 : Int32) (h : z_H), q_U L W h0 π h → q_M L π v0 → (∀ a, v0 ≤ a → a < v0 + 46 → W a) → (0 ≤ v2) → (v2 ≤ 40) → (0 ≤ v3) → (v3 ≤ 24) → (0 ≤ v5) → (v5 ≤ 24) → (vI h v0 70 < vI h v0 4) → (vI h v0 65 + 1 + v3 ≤ 60) → (lo n ≤ v5) → qk (f_Mod_nextLine_125 N  n v0 v2 v3 v5 h) (fun r => q_U L W h0 π r.2 ∧ (0 ≤ r.1 ∧ r.1 ≤ 41) ∧ (vI h v0 70 ≤ vI r.2 v0 70 ∧ vI r.2 v0 70 ≤ vI h v0 4) ∧ (∀ a k, ¬ (a = v0 ∧ (k = 65 ∨ k = 70)) → vI r.2 a k = vI h a k) ∧ (∀ a j, 0 ≤ j → ¬ (a = v0 + 39) → vA r.2 a j = vA h a j)) := by
  intro n
  induction n with
  | zero => intro v0 v2 v3 v5 h T kv0 wM k0 k1 n0 n1 a0 a1 rl rm hms; have hz := hqn.1; exact absurd hms (by grind)
  | succ n ih =>
    intro v0 v2 v3 v5 h T kv0 wM k0 k1 n0 n1 a0 a1 rl rm hms
    obtain ⟨hq1, hq2, hq3⟩ := hqn.2 n
    rw [f_Mod_nextLine_125]
    refine qk_if (fun cc1 => ?_) (fun cc1 => ?_)
    · skip
      refine r_Mo_65 T kv0 ?_
      intro x2 ex2 lx2 ux2
      subst ex2
      have o2 := g_Mo_65 T kv0
      refine w_Mo_65 T kv0 (wM _ (by omega) (by omega)) (zz_0ece167650 o2 n0 n1) (zz_74e2c0484a rm o2 n0 n1) ?_
      intro h3 Th3 ih3 ah3
      refine r_Mo_70 Th3 kv0 ?_
      intro x4 ex4 lx4 ux4
      have sx4 : (vI h v0 70) = x4 := (ex4.trans (by rw [ih3 v0 70, if_neg (fun z => absurd z.2 (by decide))])).symm
      subst sx4
      have o3 := g_Mo_70 T kv0
      have o4 := g_Mo_4 T kv0
      refine w_Mo_70 Th3 kv0 (wM _ (by omega) (by omega)) (zz_d95317ec03 o3) (zz_812822a7d5 rl o4 o3) ?_
      intro h5 Th5 ih5 ah5
      refine qk_some ?_
      have o5 : vI h5 v0 70 = (vI h v0 70) + 1 := (by rw [ih5 v0 70, if_pos ⟨rfl, rfl⟩])
      exact ⟨Th5, (zz_e57b4beb88 k0 k1), (zz_bddd872b83 o5 rl o3), (by clear ih; show ∀ a k, ¬ (a = v0 ∧ (k = 65 ∨ k = 70)) → vI h5 a k = vI h a k; intro a k n0; rw [ih5, if_neg (by omega), ih3, if_neg (by omega)]), (by clear ih; show ∀ a j, 0 ≤ j → ¬ (a = v0 + 39) → vA h5 a j = vA h a j; intro a j j0 n0; rw [ah5, ah3])⟩
    · skip
      refine r_Mo_58 T kv0 ?_
      refine r_Mo_65 T kv0 ?_
      intro x7 ex7 lx7 ux7
      subst ex7
      refine r_Mo_2 T kv0 ?_
      refine r_Mo_70 T kv0 ?_
      intro x9 ex9 lx9 ux9
      subst ex9
      have o6 := g_Mo_70 T kv0
      have o7 := g_Mo_4 T kv0
      refine r_Mo_e3 T kv0 (zz_cd4ea9bad6 o6 a0 a1) (zz_32f64bddaa rl o7 cc1 n1 o6 a0 a1) ?_
      intro x10 ex10
      subst ex10
      have o8 := g_Mo_65 T kv0
      refine w_Mo_e39 T kv0 (wM _ (by omega) (by omega)) (zz_f0eb18ddf6 o8 a0 a1) (zz_d16bdb8a0d rm cc1 o8 a0 n1 a1) ?_
      intro h11 Th11 ih11 ah11
      refine qk_bs ?_
      have o9 : vI h11 v0 70 = vI h v0 70 := (by rw [ih11 v0 70])
      have o10 : vI h11 v0 4 = vI h v0 4 := (by rw [ih11 v0 4])
      have o11 : vI h11 v0 65 = vI h v0 65 := (by rw [ih11 v0 65])
      refine qk_mono (ih (v0) (v2) (v3) ((v5 + 1)) h11 Th11 kv0 wM k0 k1 n0 n1 (zz_3c5203b157 a0 a1) (zz_739c174283 cc1 n1 a0 a1) (zz_955b4db942 o9 o10 rl) (zz_bbdd997303 o11 rm o8 n0 n1) (zz_9ade7d5597 hms hq1 hq2 hq3 a0 a1)) ?_
      rintro ⟨y, hz⟩ ⟨Tz, g0, g1, g2, g3⟩
      try dsimp only at *
      exact ⟨Tz, (zz_b94f94fe38 g0), (zz_fffa4a0f78 g1 o9 o10), (by clear ih; show ∀ a k, ¬ (a = v0 ∧ (k = 65 ∨ k = 70)) → vI hz a k = vI h a k; intro a k n0; rw [g2 a k (by omega), ih11]), (by clear ih; show ∀ a j, 0 ≤ j → ¬ (a = v0 + 39) → vA hz a j = vA h a j; intro a j j0 n0; rw [g3 a j j0 (by omega), ah11 a j j0, if_neg (by omega)])⟩
theorem p_Mod_nextLine_125 {L : q_L} {W : Nat → Prop} {h0 : z_H} {π : Nat → Nat → Option Nat} {N : Nat} {h : z_H} {v0 : Nat} {v2 : Int32} {v3 : Int32} {v5 : Int32} (T : q_U L W h0 π h) (kv0 : q_M L π v0) (wM : ∀ a, v0 ≤ a → a < v0 + 46 → W a) (k0 : 0 ≤ v2) (k1 : v2 ≤ 40) (n0 : 0 ≤ v3) (n1 : v3 ≤ 24) (a0 : 0 ≤ v5) (a1 : v5 ≤ 24) (rl : vI h v0 70 < vI h v0 4) (rm : vI h v0 65 + 1 + v3 ≤ 60) (hN : 100000 ≤ N) : qk (f_Mod_nextLine_125 N  N v0 v2 v3 v5 h) (fun r => q_U L W h0 π r.2 ∧ (0 ≤ r.1 ∧ r.1 ≤ 41) ∧ (vI h v0 70 ≤ vI r.2 v0 70 ∧ vI r.2 v0 70 ≤ vI h v0 4) ∧ (∀ a k, ¬ (a = v0 ∧ (k = 65 ∨ k = 70)) → vI r.2 a k = vI h a k) ∧ (∀ a j, 0 ≤ j → ¬ (a = v0 + 39) → vA r.2 a j = vA h a j)) := by
  have hq := q_qnN hN
  refine p_Mod_nextLine_125_n (q_lo (M := 25) (by decide) (by decide)) N v0 v2 v3 v5 h T kv0 wM k0 k1 n0 n1 a0 a1 rl rm ?_ 
  show 25 - q_n N ≤ _
  rw [hq]
  lia
