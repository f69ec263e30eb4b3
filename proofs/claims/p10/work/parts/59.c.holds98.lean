theorem zz_5a85d571bc {a1 : Int32} (h0 : ¬ (64 ≤ a1)) : a1 < 64 := by simp only [Int32.le_iff_toInt_le, Int32.lt_iff_toInt_lt, ← Int32.toInt_inj, ne_eq] at *; have l0 : (64 : Int32).toInt = 64 := (by decide); omega
theorem zz_9b95ba9a5f {a1 : Int32} (h0 : 0 ≤ a1) (h1 : ¬ (64 ≤ a1)) : 0 ≤ a1 + 1 := by simp only [Int32.le_iff_toInt_le, Int32.lt_iff_toInt_lt, ← Int32.toInt_inj, ne_eq] at *; have b0 := Int32.le_toInt a1; have c0 := Int32.toInt_lt a1; have l0 : (0 : Int32).toInt = 0 := (by decide); have l1 : (64 : Int32).toInt = 64 := (by decide); have l2 : (1 : Int32).toInt = 1 := (by decide); have s0 : (a1 + 1).toInt = a1.toInt + 1 := q_tA (by decide) (by omega) (by omega); omega
theorem zz_87059a79f0 {a1 : Int32} (h0 : ¬ (64 ≤ a1)) (h1 : 0 ≤ a1) : a1 + 1 ≤ 64 := by simp only [Int32.le_iff_toInt_le, Int32.lt_iff_toInt_lt, ← Int32.toInt_inj, ne_eq] at *; have b0 := Int32.le_toInt a1; have c0 := Int32.toInt_lt a1; have l0 : (64 : Int32).toInt = 64 := (by decide); have l1 : (0 : Int32).toInt = 0 := (by decide); have l2 : (1 : Int32).toInt = 1 := (by decide); have s0 : (a1 + 1).toInt = a1.toInt + 1 := q_tA (by decide) (by omega) (by omega); omega
theorem zz_4db628969b {a1 a2 a3 : Int32} (h0 : a1 ≤ a2) (h1 : a3 ≤ a1 + 1) (h2 : -100000 ≤ a1) (h3 : ¬ (64 ≤ a2)) (h4 : 0 ≤ a2) : a3 ≤ a2 + 1 := by simp only [Int32.le_iff_toInt_le, Int32.lt_iff_toInt_lt, ← Int32.toInt_inj, ne_eq] at *; have b0 := Int32.le_toInt a1; have c0 := Int32.toInt_lt a1; have b1 := Int32.le_toInt a2; have c1 := Int32.toInt_lt a2; have l0 : (1 : Int32).toInt = 1 := (by decide); have l1 : (-100000 : Int32).toInt = -100000 := (by decide); have l2 : (64 : Int32).toInt = 64 := (by decide); have l3 : (0 : Int32).toInt = 0 := (by decide); have s0 : (a1 + 1).toInt = a1.toInt + 1 := q_tA (by decide) (by omega) (by omega); have s1 : (a2 + 1).toInt = a2.toInt + 1 := q_tA (by decide) (by omega) (by omega); omega
set_option maxHeartbeats 1000000 in
theorem p_Mod_holds_98_n {L : q_L} {W : Nat → Prop} {h0 : z_H} {π : Nat → Nat → Option Nat} {N : Nat} {lo : Nat → Int32} (hqn : q_Q lo 65) : ∀ (n : Nat) (v0 : Nat) (v2 : Int32) (h : z_H), q_U L W h0 π h → q_M L π v0 → (∀ a, v0 ≤ a → a < v0 + 46 → W a) → (0 ≤ v2) → (v2 ≤ 64) → (lo n ≤ v2) → qk (f_Mod_holds_98 N  n v0 v2 h) (fun r => q_U L W h0 π r.2 ∧ (∀ a k, ¬ (a = v0 ∧ (k = 65 ∨ k = 66)) → vI r.2 a k = vI h a k) ∧ (∀ a j, 0 ≤ j → ¬ (a = v0 + 39 ∨ a = v0 + 40) → vA r.2 a j = vA h a j)) := by
  intro n
  induction n with
  | zero => intro v0 v2 h T kv0 wM a0 a1 hms; have hz := hqn.1; exact absurd hms (by grind)
  | succ n ih =>
    intro v0 v2 h T kv0 wM a0 a1 hms
    obtain ⟨hq1, hq2, hq3⟩ := hqn.2 n
    rw [f_Mod_holds_98]
    refine qk_if (fun cc1 => ?_) (fun cc1 => ?_)
    · skip
      refine r_Mo_65 T kv0 ?_
      intro x2 ex2 lx2 ux2
      subst ex2
      refine r_Mo_66 T kv0 ?_
      intro x3 ex3 lx3 ux3
      subst ex3
      refine w_Mo_65 T kv0 (wM _ (by omega) (by omega)) lx3 ux3 ?_
      intro h4 Th4 ih4 ah4
      refine w_Mo_66 Th4 kv0 (wM _ (by omega) (by omega)) lx2 ux2 ?_
      intro h5 Th5 ih5 ah5
      refine qk_some ?_
      exact ⟨Th5, (by clear ih; show ∀ a k, ¬ (a = v0 ∧ (k = 65 ∨ k = 66)) → vI h5 a k = vI h a k; intro a k n0; rw [ih5, if_neg (by omega), ih4, if_neg (by omega)]), (by clear ih; show ∀ a j, 0 ≤ j → ¬ (a = v0 + 39 ∨ a = v0 + 40) → vA h5 a j = vA h a j; intro a j j0 n0; rw [ah5, ah4])⟩
    · skip
      refine r_Mo_58 T kv0 ?_
      refine r_Mo_e39 T kv0 a0 (zz_5a85d571bc cc1) ?_
      intro x7 ex7
      subst ex7
      refine r_Mo_58 T kv0 ?_
      refine r_Mo_59 T kv0 ?_
      refine r_Mo_e40 T kv0 a0 (zz_5a85d571bc cc1) ?_
      intro x10 ex10
      subst ex10
      refine w_Mo_e39 T kv0 (wM _ (by omega) (by omega)) a0 (zz_5a85d571bc cc1) ?_
      intro h11 Th11 ih11 ah11
      refine r_Mo_59 Th11 kv0 ?_
      refine w_Mo_e40 Th11 kv0 (wM _ (by omega) (by omega)) a0 (zz_5a85d571bc cc1) ?_
      intro h13 Th13 ih13 ah13
      refine qk_bs ?_
      refine qk_mono (ih (v0) ((v2 + 1)) h13 Th13 kv0 wM (zz_9b95ba9a5f a0 cc1) (zz_87059a79f0 cc1 a0) (zz_4db628969b hms hq1 hq2 cc1 a0)) ?_
      rintro ⟨y, hz⟩ ⟨Tz, g0, g1⟩
      try dsimp only at *
      exact ⟨Tz, (by clear ih; show ∀ a k, ¬ (a = v0 ∧ (k = 65 ∨ k = 66)) → vI hz a k = vI h a k; intro a k n0; rw [g0 a k (by omega), ih13, ih11]), (by clear ih; show ∀ a j, 0 ≤ j → ¬ (a = v0 + 39 ∨ a = v0 + 40) → vA hz a j = vA h a j; intro a j j0 n0; rw [g1 a j j0 (by omega), ah13 a j j0, if_neg (by omega), ah11 a j j0, if_neg (by omega)])⟩
theorem p_Mod_holds_98 {L : q_L} {W : Nat → Prop} {h0 : z_H} {π : Nat → Nat → Option Nat} {N : Nat} {h : z_H} {v0 : Nat} {v2 : Int32} (T : q_U L W h0 π h) (kv0 : q_M L π v0) (wM : ∀ a, v0 ≤ a → a < v0 + 46 → W a) (a0 : 0 ≤ v2) (a1 : v2 ≤ 64) (hN : 100000 ≤ N) : qk (f_Mod_holds_98 N  N v0 v2 h) (fun r => q_U L W h0 π r.2 ∧ (∀ a k, ¬ (a = v0 ∧ (k = 65 ∨ k = 66)) → vI r.2 a k = vI h a k) ∧ (∀ a j, 0 ≤ j → ¬ (a = v0 + 39 ∨ a = v0 + 40) → vA r.2 a j = vA h a j)) := by
  have hq := q_qnN hN
  refine p_Mod_holds_98_n (q_lo (M := 65) (by decide) (by decide)) N v0 v2 h T kv0 wM a0 a1 ?_ 
  show 65 - q_n N ≤ _
  rw [hq]
  lia
