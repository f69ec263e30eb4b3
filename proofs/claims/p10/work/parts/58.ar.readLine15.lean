theorem zz_d95317ec03 {a1 : Int32} (h0 : (0 ≤ a1) ∧ (a1 ≤ 12)) : 0 ≤ a1 + 1 := by simp only [Int32.le_iff_toInt_le, Int32.lt_iff_toInt_lt, ← Int32.toInt_inj, ne_eq] at *; have b0 := Int32.le_toInt a1; have c0 := Int32.toInt_lt a1; have l0 : (0 : Int32).toInt = 0 := (by decide); have l1 : (12 : Int32).toInt = 12 := (by decide); have l2 : (1 : Int32).toInt = 1 := (by decide); have s0 : (a1 + 1).toInt = a1.toInt + 1 := q_tA (by decide) (by omega) (by omega); omega
theorem zz_e370d3cd22 {a1 : Int32} (h0 : a1 < 12) (h1 : (0 ≤ a1) ∧ (a1 ≤ 12)) : a1 + 1 ≤ 12 := by simp only [Int32.le_iff_toInt_le, Int32.lt_iff_toInt_lt, ← Int32.toInt_inj, ne_eq] at *; have b0 := Int32.le_toInt a1; have c0 := Int32.toInt_lt a1; have l0 : (12 : Int32).toInt = 12 := (by decide); have l1 : (0 : Int32).toInt = 0 := (by decide); have l2 : (1 : Int32).toInt = 1 := (by decide); have s0 : (a1 + 1).toInt = a1.toInt + 1 := q_tA (by decide) (by omega) (by omega); omega
theorem zz_9afad51608 {a1 a2 : Int32} (h0 : a1 = a2 + 1) (h1 : (0 ≤ a2) ∧ (a2 ≤ 12)) : a1 = a2 + 1 := by simp only [Int32.le_iff_toInt_le, Int32.lt_iff_toInt_lt, ← Int32.toInt_inj, ne_eq] at *; have b0 := Int32.le_toInt a2; have c0 := Int32.toInt_lt a2; have l0 : (1 : Int32).toInt = 1 := (by decide); have l1 : (0 : Int32).toInt = 0 := (by decide); have l2 : (12 : Int32).toInt = 12 := (by decide); have s0 : (a2 + 1).toInt = a2.toInt + 1 := q_tA (by decide) (by omega) (by omega); omega
theorem zz_cd4ea9bad6 {a1 a2 : Int32} (h0 : (0 ≤ a1) ∧ (a1 ≤ 12)) (h1 : 0 ≤ a2) (h2 : a2 ≤ 24) : 0 ≤ (24 * a1) + a2 := by simp only [Int32.le_iff_toInt_le, Int32.lt_iff_toInt_lt, ← Int32.toInt_inj, ne_eq] at *; have b0 := Int32.le_toInt a1; have c0 := Int32.toInt_lt a1; have b1 := Int32.le_toInt a2; have c1 := Int32.toInt_lt a2; have l0 : (0 : Int32).toInt = 0 := (by decide); have l1 : (12 : Int32).toInt = 12 := (by decide); have l2 : (24 : Int32).toInt = 24 := (by decide); have s0 : (24 * a1).toInt = 24 * a1.toInt := q_tM (by decide) (by omega) (by omega); have s1 : ((24 * a1) + a2).toInt = (24 * a1).toInt + a2.toInt := q_tA rfl (by omega) (by omega); omega
theorem zz_f37a6b9ec1 {a1 a2 a3 : Int32} (h0 : a1 < 12) (h1 : ¬ (a2 ≤ a3)) (h2 : a2 ≤ 24) (h3 : (0 ≤ a1) ∧ (a1 ≤ 12)) (h4 : 0 ≤ a3) (h5 : a3 ≤ 24) : (24 * a1) + a3 < 288 := by simp only [Int32.le_iff_toInt_le, Int32.lt_iff_toInt_lt, ← Int32.toInt_inj, ne_eq] at *; have b0 := Int32.le_toInt a1; have c0 := Int32.toInt_lt a1; have b1 := Int32.le_toInt a3; have c1 := Int32.toInt_lt a3; have l0 : (12 : Int32).toInt = 12 := (by decide); have l1 : (24 : Int32).toInt = 24 := (by decide); have l2 : (0 : Int32).toInt = 0 := (by decide); have l3 : (288 : Int32).toInt = 288 := (by decide); have s0 : (24 * a1).toInt = 24 * a1.toInt := q_tM (by decide) (by omega) (by omega); have s1 : ((24 * a1) + a3).toInt = (24 * a1).toInt + a3.toInt := q_tA rfl (by omega) (by omega); omega
theorem zz_03a7628a21 {a1 a2 : Int32} (h0 : a1 = a2) (h1 : a2 < 12) : a1 < 12 := by simp only [Int32.le_iff_toInt_le, Int32.lt_iff_toInt_lt, ← Int32.toInt_inj, ne_eq] at *; have l0 : (12 : Int32).toInt = 12 := (by decide); omega
theorem zz_f220de7a07 {a1 a2 a3 : Int32} (h0 : a1 = a2) (h1 : a3 = a1 + 1) (h2 : (0 ≤ a2) ∧ (a2 ≤ 12)) : a3 = a2 + 1 := by simp only [Int32.le_iff_toInt_le, Int32.lt_iff_toInt_lt, ← Int32.toInt_inj, ne_eq] at *; have b0 := Int32.le_toInt a1; have c0 := Int32.toInt_lt a1; have b1 := Int32.le_toInt a2; have c1 := Int32.toInt_lt a2; have l0 : (1 : Int32).toInt = 1 := (by decide); have l1 : (0 : Int32).toInt = 0 := (by decide); have l2 : (12 : Int32).toInt = 12 := (by decide); have s0 : (a1 + 1).toInt = a1.toInt + 1 := q_tA (by decide) (by omega) (by omega); have s1 : (a2 + 1).toInt = a2.toInt + 1 := q_tA (by decide) (by omega) (by omega); omega
set_option maxHeartbeats 1000000 in
theorem p_Mod_readLine_15_n {L : q_L} {W : Nat → Prop} {h0 : z_H} {π : Nat → Nat → Option Nat} {N : Nat} {lo : Nat → Int32} (hqn : q_Q lo 25) : ∀ (n : Nat) (v0 : Nat) (v1 : Int32) (h : z_H), q_U L W h0 π h → q_M L π v0 → (∀ a, v0 ≤ a → a < v0 + 46 → W a) → (0 ≤ v1) → (v1 ≤ 24) → (vI h v0 65 ≤ 24) → (vI h v0 70 < 12) → (lo n ≤ v1) → qk (f_Mod_readLine_15 N  n v0 v1 h) (fun r => q_U L W h0 π r ∧ (∀ a k, ¬ (a = v0 ∧ (k = 70)) → vI r a k = vI h a k) ∧ (∀ a j, 0 ≤ j → ¬ (a = v0 + 39) → vA r a j = vA h a j) ∧ (vI r v0 70 = vI h v0 70 + 1)) := by
  intro n
  induction n with
  | zero => intro v0 v1 h T kv0 wM a0 a1 sl rl hms; have hz := hqn.1; exact absurd hms (by grind)
  | succ n ih =>
    intro v0 v1 h T kv0 wM a0 a1 sl rl hms
    obtain ⟨hq1, hq2, hq3⟩ := hqn.2 n
    rw [f_Mod_readLine_15]
    refine r_Mo_65 T kv0 ?_
    intro x1 ex1 lx1 ux1
    subst ex1
    refine qk_if (fun cc1 => ?_) (fun cc1 => ?_)
    · skip
      refine r_Mo_70 T kv0 ?_
      intro x3 ex3 lx3 ux3
      subst ex3
      have o2 := g_Mo_70 T kv0
      refine w_Mo_70 T kv0 (wM _ (by omega) (by omega)) (zz_d95317ec03 o2) (zz_e370d3cd22 rl o2) ?_
      intro h4 Th4 ih4 ah4
      refine qk_some ?_
      have o3 : vI h4 v0 70 = (vI h v0 70) + 1 := (by rw [ih4 v0 70, if_pos ⟨rfl, rfl⟩])
      exact ⟨Th4, (by clear ih; show ∀ a k, ¬ (a = v0 ∧ (k = 70)) → vI h4 a k = vI h a k; intro a k n0; rw [ih4, if_neg (by omega)]), (by clear ih; show ∀ a j, 0 ≤ j → ¬ (a = v0 + 39) → vA h4 a j = vA h a j; intro a j j0 n0; rw [ah4]), (zz_9afad51608 o3 o2)⟩
    · skip
      refine r_Mo_58 T kv0 ?_
      refine r_Mo_2 T kv0 ?_
      refine r_Mo_70 T kv0 ?_
      intro x7 ex7 lx7 ux7
      subst ex7
      have o4 := g_Mo_70 T kv0
      refine r_Mo_e3 T kv0 (zz_cd4ea9bad6 o4 a0 a1) (zz_f37a6b9ec1 rl cc1 sl o4 a0 a1) ?_
      intro x8 ex8
      subst ex8
      refine w_Mo_e39 T kv0 (wM _ (by omega) (by omega)) a0 (zz_7f446827b6 a1) ?_
      intro h9 Th9 ih9 ah9
      refine qk_bs ?_
      have o5 : vI h9 v0 65 = vI h v0 65 := (by rw [ih9 v0 65])
      have o6 : vI h9 v0 70 = vI h v0 70 := (by rw [ih9 v0 70])
      refine qk_mono (ih (v0) ((v1 + 1)) h9 Th9 kv0 wM (zz_3c5203b157 a0 a1) (zz_739c174283 cc1 sl a0 a1) (zz_50ad46865a o5 sl) (zz_03a7628a21 o6 rl) (zz_9ade7d5597 hms hq1 hq2 hq3 a0 a1)) ?_
      rintro hz ⟨Tz, g0, g1, g2⟩
      try dsimp only at *
      exact ⟨Tz, (by clear ih; show ∀ a k, ¬ (a = v0 ∧ (k = 70)) → vI hz a k = vI h a k; intro a k n0; rw [g0 a k (by omega), ih9]), (by clear ih; show ∀ a j, 0 ≤ j → ¬ (a = v0 + 39) → vA hz a j = vA h a j; intro a j j0 n0; rw [g1 a j j0 (by omega), ah9 a j j0, if_neg (by omega)]), (zz_f220de7a07 o6 g2 o4)⟩
theorem p_Mod_readLine_15 {L : q_L} {W : Nat → Prop} {h0 : z_H} {π : Nat → Nat → Option Nat} {N : Nat} {h : z_H} {v0 : Nat} {v1 : Int32} (T : q_U L W h0 π h) (kv0 : q_M L π v0) (wM : ∀ a, v0 ≤ a → a < v0 + 46 → W a) (a0 : 0 ≤ v1) (a1 : v1 ≤ 24) (sl : vI h v0 65 ≤ 24) (rl : vI h v0 70 < 12) (hN : 100000 ≤ N) : qk (f_Mod_readLine_15 N  N v0 v1 h) (fun r => q_U L W h0 π r ∧ (∀ a k, ¬ (a = v0 ∧ (k = 70)) → vI r a k = vI h a k) ∧ (∀ a j, 0 ≤ j → ¬ (a = v0 + 39) → vA r a j = vA h a j) ∧ (vI r v0 70 = vI h v0 70 + 1)) := by
  have hq := q_qnN hN
  refine p_Mod_readLine_15_n (q_lo (M := 25) (by decide) (by decide)) N v0 v1 h T kv0 wM a0 a1 sl rl ?_ 
  show 25 - q_n N ≤ _
  rw [hq]
  lia
