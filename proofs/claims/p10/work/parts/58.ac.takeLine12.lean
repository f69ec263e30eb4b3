theorem zz_07b9cd135e {a1 a2 : Int32} (h0 : 0 ≤ a1) (h1 : 0 ≤ a2) (h2 : a1 < 12) (h3 : a2 ≤ 24) : 0 ≤ (24 * a1) + a2 := by simp only [Int32.le_iff_toInt_le, Int32.lt_iff_toInt_lt, ← Int32.toInt_inj, ne_eq] at *; have b0 := Int32.le_toInt a1; have c0 := Int32.toInt_lt a1; have b1 := Int32.le_toInt a2; have c1 := Int32.toInt_lt a2; have l0 : (0 : Int32).toInt = 0 := (by decide); have l1 : (12 : Int32).toInt = 12 := (by decide); have l2 : (24 : Int32).toInt = 24 := (by decide); have s0 : (24 * a1).toInt = 24 * a1.toInt := q_tM (by decide) (by omega) (by omega); have s1 : ((24 * a1) + a2).toInt = (24 * a1).toInt + a2.toInt := q_tA rfl (by omega) (by omega); omega
theorem zz_0b8c3c58d6 {a1 a2 a3 : Int32} (h0 : a1 < 12) (h1 : ¬ (a2 ≤ a3)) (h2 : a2 ≤ 24) (h3 : 0 ≤ a1) (h4 : 0 ≤ a3) (h5 : a3 ≤ 24) : (24 * a1) + a3 < 288 := by simp only [Int32.le_iff_toInt_le, Int32.lt_iff_toInt_lt, ← Int32.toInt_inj, ne_eq] at *; have b0 := Int32.le_toInt a1; have c0 := Int32.toInt_lt a1; have b1 := Int32.le_toInt a3; have c1 := Int32.toInt_lt a3; have l0 : (12 : Int32).toInt = 12 := (by decide); have l1 : (24 : Int32).toInt = 24 := (by decide); have l2 : (0 : Int32).toInt = 0 := (by decide); have l3 : (288 : Int32).toInt = 288 := (by decide); have s0 : (24 * a1).toInt = 24 * a1.toInt := q_tM (by decide) (by omega) (by omega); have s1 : ((24 * a1) + a3).toInt = (24 * a1).toInt + a3.toInt := q_tA rfl (by omega) (by omega); omega
theorem zz_7f446827b6 {a1 : Int32} (h0 : a1 ≤ 24) : a1 < 64 := by simp only [Int32.le_iff_toInt_le, Int32.lt_iff_toInt_lt, ← Int32.toInt_inj, ne_eq] at *; have l0 : (24 : Int32).toInt = 24 := (by decide); have l1 : (64 : Int32).toInt = 64 := (by decide); omega
theorem zz_3c5203b157 {a1 : Int32} (h0 : 0 ≤ a1) (h1 : a1 ≤ 24) : 0 ≤ a1 + 1 := by simp only [Int32.le_iff_toInt_le, Int32.lt_iff_toInt_lt, ← Int32.toInt_inj, ne_eq] at *; have b0 := Int32.le_toInt a1; have c0 := Int32.toInt_lt a1; have l0 : (0 : Int32).toInt = 0 := (by decide); have l1 : (24 : Int32).toInt = 24 := (by decide); have l2 : (1 : Int32).toInt = 1 := (by decide); have s0 : (a1 + 1).toInt = a1.toInt + 1 := q_tA (by decide) (by omega) (by omega); omega
theorem zz_739c174283 {a1 a2 : Int32} (h0 : ¬ (a1 ≤ a2)) (h1 : a1 ≤ 24) (h2 : 0 ≤ a2) (h3 : a2 ≤ 24) : a2 + 1 ≤ 24 := by simp only [Int32.le_iff_toInt_le, Int32.lt_iff_toInt_lt, ← Int32.toInt_inj, ne_eq] at *; have b0 := Int32.le_toInt a2; have c0 := Int32.toInt_lt a2; have l0 : (24 : Int32).toInt = 24 := (by decide); have l1 : (0 : Int32).toInt = 0 := (by decide); have l2 : (1 : Int32).toInt = 1 := (by decide); have s0 : (a2 + 1).toInt = a2.toInt + 1 := q_tA (by decide) (by omega) (by omega); omega
theorem zz_50ad46865a {a1 a2 : Int32} (h0 : a1 = a2) (h1 : a2 ≤ 24) : a1 ≤ 24 := by simp only [Int32.le_iff_toInt_le, Int32.lt_iff_toInt_lt, ← Int32.toInt_inj, ne_eq] at *; have l0 : (24 : Int32).toInt = 24 := (by decide); omega
theorem zz_9ade7d5597 {a1 a2 a3 : Int32} (h0 : a1 ≤ a2) (h1 : a3 ≤ a1 + 1) (h2 : -100000 ≤ a1) (h3 : a1 ≤ 100000) (h4 : 0 ≤ a2) (h5 : a2 ≤ 24) : a3 ≤ a2 + 1 := by simp only [Int32.le_iff_toInt_le, Int32.lt_iff_toInt_lt, ← Int32.toInt_inj, ne_eq] at *; have b0 := Int32.le_toInt a1; have c0 := Int32.toInt_lt a1; have b1 := Int32.le_toInt a2; have c1 := Int32.toInt_lt a2; have l0 : (1 : Int32).toInt = 1 := (by decide); have l1 : (-100000 : Int32).toInt = -100000 := (by decide); have l2 : (100000 : Int32).toInt = 100000 := (by decide); have l3 : (0 : Int32).toInt = 0 := (by decide); have l4 : (24 : Int32).toInt = 24 := (by decide); have s0 : (a1 + 1).toInt = a1.toInt + 1 := q_tA (by decide) (by omega) (by omega); have s1 : (a2 + 1).toInt = a2.toInt + 1 := q_tA (by decide) (by omega) (by omega); omega
set_option maxHeartbeats 1000000 in
theorem p_Mod_takeLine_12_n {L : q_L} {W : Nat → Prop} {h0 : z_H} {π : Nat → Nat → Option Nat} {N : Nat} {lo : Nat → Int32} (hqn : q_Q lo 25) : ∀ (n : Nat) (v0 : Nat) (v1 : Int32) (v2 : Int32) (h : z_H), q_U L W h0 π h → q_M L π v0 → (∀ a, v0 ≤ a → a < v0 + 46 → W a) → (0 ≤ v1) → (v1 < 12) → (0 ≤ v2) → (v2 ≤ 24) → (vI h v0 54 ≤ 24) → (lo n ≤ v2) → qk (f_Mod_takeLine_12 N  n v0 v1 v2 h) (fun r => q_U L W h0 π r ∧ (∀ a k, vI r a k = vI h a k) ∧ (∀ a j, 0 ≤ j → ¬ (a = v0 + 36) → vA r a j = vA h a j)) := by
  intro n
  induction n with
  | zero => intro v0 v1 v2 h T kv0 wM b0 b1 a0 a1 sl hms; have hz := hqn.1; exact absurd hms (by grind)
  | succ n ih =>
    intro v0 v1 v2 h T kv0 wM b0 b1 a0 a1 sl hms
    obtain ⟨hq1, hq2, hq3⟩ := hqn.2 n
    rw [f_Mod_takeLine_12]
    refine r_Mo_54 T kv0 ?_
    intro x1 ex1 lx1 ux1
    subst ex1
    refine qk_if (fun cc1 => ?_) (fun cc1 => ?_)
    · skip
      refine qk_some ?_
      exact ⟨T, (by clear ih; show ∀ a k, vI h a k = vI h a k; intro a k ; rfl), (by clear ih; show ∀ a j, 0 ≤ j → ¬ (a = v0 + 36) → vA h a j = vA h a j; intro a j j0 n0; rfl)⟩
    · skip
      refine r_Mo_51 T kv0 ?_
      refine r_Mo_2 T kv0 ?_
      refine r_Mo_e3 T kv0 (zz_07b9cd135e b0 a0 b1 a1) (zz_0b8c3c58d6 b1 cc1 sl b0 a0 a1) ?_
      intro x5 ex5
      subst ex5
      refine w_Mo_e36 T kv0 (wM _ (by omega) (by omega)) a0 (zz_7f446827b6 a1) ?_
      intro h6 Th6 ih6 ah6
      refine qk_bs ?_
      have o2 : vI h6 v0 54 = vI h v0 54 := (by rw [ih6 v0 54])
      refine qk_mono (ih (v0) (v1) ((v2 + 1)) h6 Th6 kv0 wM b0 b1 (zz_3c5203b157 a0 a1) (zz_739c174283 cc1 sl a0 a1) (zz_50ad46865a o2 sl) (zz_9ade7d5597 hms hq1 hq2 hq3 a0 a1)) ?_
      rintro hz ⟨Tz, g0, g1⟩
      try dsimp only at *
      exact ⟨Tz, (by clear ih; show ∀ a k, vI hz a k = vI h a k; intro a k ; rw [g0 a k, ih6]), (by clear ih; show ∀ a j, 0 ≤ j → ¬ (a = v0 + 36) → vA hz a j = vA h a j; intro a j j0 n0; rw [g1 a j j0 (by omega), ah6 a j j0, if_neg (by omega)])⟩
theorem p_Mod_takeLine_12 {L : q_L} {W : Nat → Prop} {h0 : z_H} {π : Nat → Nat → Option Nat} {N : Nat} {h : z_H} {v0 : Nat} {v1 : Int32} {v2 : Int32} (T : q_U L W h0 π h) (kv0 : q_M L π v0) (wM : ∀ a, v0 ≤ a → a < v0 + 46 → W a) (b0 : 0 ≤ v1) (b1 : v1 < 12) (a0 : 0 ≤ v2) (a1 : v2 ≤ 24) (sl : vI h v0 54 ≤ 24) (hN : 100000 ≤ N) : qk (f_Mod_takeLine_12 N  N v0 v1 v2 h) (fun r => q_U L W h0 π r ∧ (∀ a k, vI r a k = vI h a k) ∧ (∀ a j, 0 ≤ j → ¬ (a = v0 + 36) → vA r a j = vA h a j)) := by
  have hq := q_qnN hN
  refine p_Mod_takeLine_12_n (q_lo (M := 25) (by decide) (by decide)) N v0 v1 v2 h T kv0 wM b0 b1 a0 a1 sl ?_ 
  show 25 - q_n N ≤ _
  rw [hq]
  lia
