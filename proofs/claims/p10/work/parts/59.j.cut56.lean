theorem zz_bf900fc33f {a1 a2 : Int32} (h0 : a1 < a2) (h1 : (0 ≤ a2) ∧ (a2 ≤ 60)) (h2 : 0 ≤ a1) : 0 ≤ a2 - (a1 + 1) := by simp only [Int32.le_iff_toInt_le, Int32.lt_iff_toInt_lt, ← Int32.toInt_inj, ne_eq] at *; have b0 := Int32.le_toInt a1; have c0 := Int32.toInt_lt a1; have b1 := Int32.le_toInt a2; have c1 := Int32.toInt_lt a2; have l0 : (0 : Int32).toInt = 0 := (by decide); have l1 : (60 : Int32).toInt = 60 := (by decide); have l2 : (1 : Int32).toInt = 1 := (by decide); have s0 : (a1 + 1).toInt = a1.toInt + 1 := q_tA (by decide) (by omega) (by omega); have s1 : (a2 - (a1 + 1)).toInt = a2.toInt - (a1 + 1).toInt := q_tS rfl (by omega) (by omega); omega
theorem zz_c90a9a9872 {a1 a2 : Int32} (h0 : (0 ≤ a1) ∧ (a1 ≤ 60)) (h1 : 0 ≤ a2) (h2 : a2 < a1) : a1 - (a2 + 1) ≤ 60 := by simp only [Int32.le_iff_toInt_le, Int32.lt_iff_toInt_lt, ← Int32.toInt_inj, ne_eq] at *; have b0 := Int32.le_toInt a2; have c0 := Int32.toInt_lt a2; have b1 := Int32.le_toInt a1; have c1 := Int32.toInt_lt a1; have l0 : (0 : Int32).toInt = 0 := (by decide); have l1 : (60 : Int32).toInt = 60 := (by decide); have l2 : (1 : Int32).toInt = 1 := (by decide); have s0 : (a2 + 1).toInt = a2.toInt + 1 := q_tA (by decide) (by omega) (by omega); have s1 : (a1 - (a2 + 1)).toInt = a1.toInt - (a2 + 1).toInt := q_tS rfl (by omega) (by omega); omega
theorem zz_b54e1f1059 {a1 a2 : Int32} (h0 : a1 < a2) (h1 : 0 ≤ a1) : 0 ≤ a2 := by simp only [Int32.le_iff_toInt_le, Int32.lt_iff_toInt_lt, ← Int32.toInt_inj, ne_eq] at *; have l0 : (0 : Int32).toInt = 0 := (by decide); omega
theorem zz_7977cdf539 {a1 a2 a3 : Int32} (h0 : a1 < a2) (h1 : 0 ≤ a1) (h2 : (0 ≤ a3) ∧ (a3 ≤ 60)) (h3 : ¬ (a3 ≤ a2)) (h4 : a1 < a3) : 0 ≤ a2 - a1 - 1 := by simp only [Int32.le_iff_toInt_le, Int32.lt_iff_toInt_lt, ← Int32.toInt_inj, ne_eq] at *; have b0 := Int32.le_toInt a2; have c0 := Int32.toInt_lt a2; have b1 := Int32.le_toInt a1; have c1 := Int32.toInt_lt a1; have l0 : (0 : Int32).toInt = 0 := (by decide); have l1 : (60 : Int32).toInt = 60 := (by decide); have l2 : (1 : Int32).toInt = 1 := (by decide); have s0 : (a2 - a1).toInt = a2.toInt - a1.toInt := q_tS rfl (by omega) (by omega); have s1 : (a2 - a1 - 1).toInt = (a2 - a1).toInt - 1 := q_tS (by decide) (by omega) (by omega); omega
theorem zz_8acf13e2b5 {a1 a2 a3 : Int32} (h0 : 0 ≤ a1) (h1 : (0 ≤ a2) ∧ (a2 ≤ 60)) (h2 : ¬ (a2 ≤ a3)) (h3 : a1 < a3) (h4 : a1 < a2) : a3 - a1 - 1 < 64 := by simp only [Int32.le_iff_toInt_le, Int32.lt_iff_toInt_lt, ← Int32.toInt_inj, ne_eq] at *; have b0 := Int32.le_toInt a3; have c0 := Int32.toInt_lt a3; have b1 := Int32.le_toInt a1; have c1 := Int32.toInt_lt a1; have l0 : (0 : Int32).toInt = 0 := (by decide); have l1 : (60 : Int32).toInt = 60 := (by decide); have l2 : (1 : Int32).toInt = 1 := (by decide); have l3 : (64 : Int32).toInt = 64 := (by decide); have s0 : (a3 - a1).toInt = a3.toInt - a1.toInt := q_tS rfl (by omega) (by omega); have s1 : (a3 - a1 - 1).toInt = (a3 - a1).toInt - 1 := q_tS (by decide) (by omega) (by omega); omega
theorem zz_74dea1f4e6 {a1 a2 a3 : Int32} (h0 : a1 < a2) (h1 : 0 ≤ a1) (h2 : (0 ≤ a3) ∧ (a3 ≤ 60)) (h3 : ¬ (a3 ≤ a2)) : a1 < a2 + 1 := by simp only [Int32.le_iff_toInt_le, Int32.lt_iff_toInt_lt, ← Int32.toInt_inj, ne_eq] at *; have b0 := Int32.le_toInt a2; have c0 := Int32.toInt_lt a2; have l0 : (0 : Int32).toInt = 0 := (by decide); have l1 : (60 : Int32).toInt = 60 := (by decide); have l2 : (1 : Int32).toInt = 1 := (by decide); have s0 : (a2 + 1).toInt = a2.toInt + 1 := q_tA (by decide) (by omega) (by omega); omega
theorem zz_e540de354b {a1 a2 a3 : Int32} (h0 : ¬ (a1 ≤ a2)) (h1 : (0 ≤ a1) ∧ (a1 ≤ 60)) (h2 : a3 < a2) (h3 : 0 ≤ a3) (h4 : a2 ≤ 60) : a2 + 1 ≤ 60 := by simp only [Int32.le_iff_toInt_le, Int32.lt_iff_toInt_lt, ← Int32.toInt_inj, ne_eq] at *; have b0 := Int32.le_toInt a2; have c0 := Int32.toInt_lt a2; have l0 : (0 : Int32).toInt = 0 := (by decide); have l1 : (60 : Int32).toInt = 60 := (by decide); have l2 : (1 : Int32).toInt = 1 := (by decide); have s0 : (a2 + 1).toInt = a2.toInt + 1 := q_tA (by decide) (by omega) (by omega); omega
theorem zz_852700d9ae {a1 a2 a3 a4 : Int32} (h0 : a1 = a2) (h1 : a3 < a4) (h2 : ¬ (a2 ≤ a4)) : a3 < a1 := by simp only [Int32.le_iff_toInt_le, Int32.lt_iff_toInt_lt, ← Int32.toInt_inj, ne_eq] at *; omega
theorem zz_d0c1a84ec2 {a1 a2 a3 a4 : Int32} (h0 : a1 ≤ a2) (h1 : a3 ≤ a1 + 1) (h2 : -100000 ≤ a1) (h3 : a1 ≤ 100000) (h4 : a4 < a2) (h5 : 0 ≤ a4) (h6 : a2 ≤ 60) : a3 ≤ a2 + 1 := by simp only [Int32.le_iff_toInt_le, Int32.lt_iff_toInt_lt, ← Int32.toInt_inj, ne_eq] at *; have b0 := Int32.le_toInt a1; have c0 := Int32.toInt_lt a1; have b1 := Int32.le_toInt a2; have c1 := Int32.toInt_lt a2; have l0 : (1 : Int32).toInt = 1 := (by decide); have l1 : (-100000 : Int32).toInt = -100000 := (by decide); have l2 : (100000 : Int32).toInt = 100000 := (by decide); have l3 : (0 : Int32).toInt = 0 := (by decide); have l4 : (60 : Int32).toInt = 60 := (by decide); have s0 : (a1 + 1).toInt = a1.toInt + 1 := q_tA (by decide) (by omega) (by omega); have s1 : (a2 + 1).toInt = a2.toInt + 1 := q_tA (by decide) (by omega) (by omega); omega
set_option maxHeartbeats 1000000 in
theorem p_Mod_cut_56_n {L : q_L} {W : Nat → Prop} {h0 : z_H} {π : Nat → Nat → Option Nat} {N : Nat} {lo : Nat → Int32} (hqn : q_Q lo 61) : ∀ (n : Nat) (v0 : Nat) (v1 : Int32) (v3 : Int32) (h : z_H), q_U L W h0 π h → q_M L π v0 → (∀ a, v0 ≤ a → a < v0 + 46 → W a) → (0 ≤ v1) → (v1 < v3) → (v3 ≤ 60) → (v1 < vI h v0 65) → (lo n ≤ v3) → qk (f_Mod_cut_56 N  n v0 v1 v3 h) (fun r => q_U L W h0 π r.2 ∧ (r.1 = 0) ∧ (∀ a k, ¬ (a = v0 ∧ (k = 65 ∨ k = 72 ∨ k = 74)) → vI r.2 a k = vI h a k) ∧ (∀ a j, 0 ≤ j → ¬ (a = v0 + 39) → vA r.2 a j = vA h a j)) := by
  intro n
  induction n with
  | zero => intro v0 v1 v3 h T kv0 wM b0 b1 c1 c2 hms; have hz := hqn.1; exact absurd hms (by grind)
  | succ n ih =>
    intro v0 v1 v3 h T kv0 wM b0 b1 c1 c2 hms
    obtain ⟨hq1, hq2, hq3⟩ := hqn.2 n
    rw [f_Mod_cut_56]
    refine r_Mo_65 T kv0 ?_
    intro x1 ex1 lx1 ux1
    subst ex1
    refine qk_if (fun cc1 => ?_) (fun cc1 => ?_)
    · skip
      refine r_Mo_65 T kv0 ?_
      intro x3 ex3 lx3 ux3
      subst ex3
      have o2 := g_Mo_65 T kv0
      refine w_Mo_65 T kv0 (wM _ (by omega) (by omega)) (zz_bf900fc33f c2 o2 b0) (zz_c90a9a9872 o2 b0 c2) ?_
      intro h4 Th4 ih4 ah4
      refine r_Mo_72 Th4 kv0 ?_
      intro x5 ex5
      have sx5 : (vI h v0 72) = x5 := (ex5.trans (by rw [ih4 v0 72, if_neg (fun z => absurd z.2 (by decide))])).symm
      subst sx5
      refine w_Mo_72 Th4 kv0 (wM _ (by omega) (by omega)) ?_
      intro h6 Th6 ih6 ah6
      refine w_Mo_74 Th6 kv0 (wM _ (by omega) (by omega)) ?_
      intro h7 Th7 ih7 ah7
      refine qk_some ?_
      exact ⟨Th7, (by show (0 : Int32) = 0; decide), (by clear ih; show ∀ a k, ¬ (a = v0 ∧ (k = 65 ∨ k = 72 ∨ k = 74)) → vI h7 a k = vI h a k; intro a k n0; rw [ih7, if_neg (by omega), ih6, if_neg (by omega), ih4, if_neg (by omega)]), (by clear ih; show ∀ a j, 0 ≤ j → ¬ (a = v0 + 39) → vA h7 a j = vA h a j; intro a j j0 n0; rw [ah7, ah6, ah4])⟩
    · skip
      refine r_Mo_58 T kv0 ?_
      refine r_Mo_58 T kv0 ?_
      refine r_Mo_e39 T kv0 (zz_b54e1f1059 b1 b0) (zz_e867aa2235 c1) ?_
      intro x10 ex10
      subst ex10
      have o3 := g_Mo_65 T kv0
      refine w_Mo_e39 T kv0 (wM _ (by omega) (by omega)) (zz_7977cdf539 b1 b0 o3 cc1 c2) (zz_8acf13e2b5 b0 o3 cc1 b1 c2) ?_
      intro h11 Th11 ih11 ah11
      refine qk_bs ?_
      have o4 : vI h11 v0 65 = vI h v0 65 := (by rw [ih11 v0 65])
      refine qk_mono (ih (v0) (v1) ((v3 + 1)) h11 Th11 kv0 wM b0 (zz_74dea1f4e6 b1 b0 o3 cc1) (zz_e540de354b cc1 o3 b1 b0 c1) (zz_852700d9ae o4 b1 cc1) (zz_d0c1a84ec2 hms hq1 hq2 hq3 b1 b0 c1)) ?_
      rintro ⟨y, hz⟩ ⟨Tz, g0, g1, g2⟩
      try dsimp only at *
      exact ⟨Tz, g0, (by clear ih; show ∀ a k, ¬ (a = v0 ∧ (k = 65 ∨ k = 72 ∨ k = 74)) → vI hz a k = vI h a k; intro a k n0; rw [g1 a k (by omega), ih11]), (by clear ih; show ∀ a j, 0 ≤ j → ¬ (a = v0 + 39) → vA hz a j = vA h a j; intro a j j0 n0; rw [g2 a j j0 (by omega), ah11 a j j0, if_neg (by omega)])⟩
theorem p_Mod_cut_56 {L : q_L} {W : Nat → Prop} {h0 : z_H} {π : Nat → Nat → Option Nat} {N : Nat} {h : z_H} {v0 : Nat} {v1 : Int32} {v3 : Int32} (T : q_U L W h0 π h) (kv0 : q_M L π v0) (wM : ∀ a, v0 ≤ a → a < v0 + 46 → W a) (b0 : 0 ≤ v1) (b1 : v1 < v3) (c1 : v3 ≤ 60) (c2 : v1 < vI h v0 65) (hN : 100000 ≤ N) : qk (f_Mod_cut_56 N  N v0 v1 v3 h) (fun r => q_U L W h0 π r.2 ∧ (r.1 = 0) ∧ (∀ a k, ¬ (a = v0 ∧ (k = 65 ∨ k = 72 ∨ k = 74)) → vI r.2 a k = vI h a k) ∧ (∀ a j, 0 ≤ j → ¬ (a = v0 + 39) → vA r.2 a j = vA h a j)) := by
  have hq := q_qnN hN
  refine p_Mod_cut_56_n (q_lo (M := 61) (by decide) (by decide)) N v0 v1 v3 h T kv0 wM b0 b1 c1 c2 ?_ 
  show 61 - q_n N ≤ _
  rw [hq]
  lia
