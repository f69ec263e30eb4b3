theorem zz_348d33235c {a1 a2 : Int32} (h0 : ¬ (a1 ≤ a2)) (h1 : (0 ≤ a1) ∧ (a1 ≤ 60)) : a2 < 64 := by simp only [Int32.le_iff_toInt_le, Int32.lt_iff_toInt_lt, ← Int32.toInt_inj, ne_eq] at *; have l0 : (0 : Int32).toInt = 0 := (by decide); have l1 : (60 : Int32).toInt = 60 := (by decide); have l2 : (64 : Int32).toInt = 64 := (by decide); omega
theorem zz_3c54fe538d {a1 : Int32} (h0 : 0 ≤ a1) (h1 : a1 ≤ 64) : 0 ≤ a1 + 1 := by simp only [Int32.le_iff_toInt_le, Int32.lt_iff_toInt_lt, ← Int32.toInt_inj, ne_eq] at *; have b0 := Int32.le_toInt a1; have c0 := Int32.toInt_lt a1; have l0 : (0 : Int32).toInt = 0 := (by decide); have l1 : (64 : Int32).toInt = 64 := (by decide); have l2 : (1 : Int32).toInt = 1 := (by decide); have s0 : (a1 + 1).toInt = a1.toInt + 1 := q_tA (by decide) (by omega) (by omega); omega
theorem zz_8fd0e735af {a1 a2 : Int32} (h0 : ¬ (a1 ≤ a2)) (h1 : (0 ≤ a1) ∧ (a1 ≤ 60)) (h2 : 0 ≤ a2) (h3 : a2 ≤ 64) : a2 + 1 ≤ 64 := by simp only [Int32.le_iff_toInt_le, Int32.lt_iff_toInt_lt, ← Int32.toInt_inj, ne_eq] at *; have b0 := Int32.le_toInt a2; have c0 := Int32.toInt_lt a2; have l0 : (0 : Int32).toInt = 0 := (by decide); have l1 : (60 : Int32).toInt = 60 := (by decide); have l2 : (64 : Int32).toInt = 64 := (by decide); have l3 : (1 : Int32).toInt = 1 := (by decide); have s0 : (a2 + 1).toInt = a2.toInt + 1 := q_tA (by decide) (by omega) (by omega); omega
theorem zz_07ee04ca10 {a1 a2 a3 : Int32} (h0 : a1 ≤ a2) (h1 : a3 ≤ a1 + 1) (h2 : -100000 ≤ a1) (h3 : a1 ≤ 100000) (h4 : 0 ≤ a2) (h5 : a2 ≤ 64) : a3 ≤ a2 + 1 := by simp only [Int32.le_iff_toInt_le, Int32.lt_iff_toInt_lt, ← Int32.toInt_inj, ne_eq] at *; have b0 := Int32.le_toInt a1; have c0 := Int32.toInt_lt a1; have b1 := Int32.le_toInt a2; have c1 := Int32.toInt_lt a2; have l0 : (1 : Int32).toInt = 1 := (by decide); have l1 : (-100000 : Int32).toInt = -100000 := (by decide); have l2 : (100000 : Int32).toInt = 100000 := (by decide); have l3 : (0 : Int32).toInt = 0 := (by decide); have l4 : (64 : Int32).toInt = 64 := (by decide); have s0 : (a1 + 1).toInt = a1.toInt + 1 := q_tA (by decide) (by omega) (by omega); have s1 : (a2 + 1).toInt = a2.toInt + 1 := q_tA (by decide) (by omega) (by omega); omega
set_option maxHeartbeats 1000000 in
theorem p_Mod_holds_8_n {L : q_L} {W : Nat → Prop} {h0 : z_H} {π : Nat → Nat → Option Nat} {N : Nat} {lo : Nat → Int32} (hqn : q_Q lo 65) : ∀ (n : Nat) (v0 : Nat) (v2 : Int32) (h : z_H), q_U L W h0 π h → q_M L π v0 → (∀ a, v0 ≤ a → a < v0 + 46 → W a) → (0 ≤ v2) → (v2 ≤ 64) → (lo n ≤ v2) → qk (f_Mod_holds_8 N  n v0 v2 h) (fun r => q_U L W h0 π r.2 ∧ (∀ a k, ¬ (a = v0 ∧ (k = 66)) → vI r.2 a k = vI h a k) ∧ (∀ a j, 0 ≤ j → ¬ (a = v0 + 40) → vA r.2 a j = vA h a j)) := by
  intro n
  induction n with
  | zero => intro v0 v2 h T kv0 wM a0 a1 hms; have hz := hqn.1; exact absurd hms (by grind)
  | succ n ih =>
    intro v0 v2 h T kv0 wM a0 a1 hms
    obtain ⟨hq1, hq2, hq3⟩ := hqn.2 n
    rw [f_Mod_holds_8]
    refine r_Mo_65 T kv0 ?_
    intro x1 ex1 lx1 ux1
    subst ex1
    refine qk_if (fun cc1 => ?_) (fun cc1 => ?_)
    · skip
      refine r_Mo_65 T kv0 ?_
      intro x3 ex3 lx3 ux3
      subst ex3
      refine w_Mo_66 T kv0 (wM _ (by omega) (by omega)) lx3 ux3 ?_
      intro h4 Th4 ih4 ah4
      refine qk_some ?_
      exact ⟨Th4, (by clear ih; show ∀ a k, ¬ (a = v0 ∧ (k = 66)) → vI h4 a k = vI h a k; intro a k n0; rw [ih4, if_neg (by omega)]), (by clear ih; show ∀ a j, 0 ≤ j → ¬ (a = v0 + 40) → vA h4 a j = vA h a j; intro a j j0 n0; rw [ah4])⟩
    · skip
      refine r_Mo_59 T kv0 ?_
      refine r_Mo_58 T kv0 ?_
      have o2 := g_Mo_65 T kv0
      refine r_Mo_e39 T kv0 a0 (zz_348d33235c cc1 o2) ?_
      intro x7 ex7
      subst ex7
      refine w_Mo_e40 T kv0 (wM _ (by omega) (by omega)) a0 (zz_348d33235c cc1 o2) ?_
      intro h8 Th8 ih8 ah8
      refine qk_bs ?_
      refine qk_mono (ih (v0) ((v2 + 1)) h8 Th8 kv0 wM (zz_3c54fe538d a0 a1) (zz_8fd0e735af cc1 o2 a0 a1) (zz_07ee04ca10 hms hq1 hq2 hq3 a0 a1)) ?_
      rintro ⟨y, hz⟩ ⟨Tz, g0, g1⟩
      try dsimp only at *
      exact ⟨Tz, (by clear ih; show ∀ a k, ¬ (a = v0 ∧ (k = 66)) → vI hz a k = vI h a k; intro a k n0; rw [g0 a k (by omega), ih8]), (by clear ih; show ∀ a j, 0 ≤ j → ¬ (a = v0 + 40) → vA hz a j = vA h a j; intro a j j0 n0; rw [g1 a j j0 (by omega), ah8 a j j0, if_neg (by omega)])⟩
theorem p_Mod_holds_8 {L : q_L} {W : Nat → Prop} {h0 : z_H} {π : Nat → Nat → Option Nat} {N : Nat} {h : z_H} {v0 : Nat} {v2 : Int32} (T : q_U L W h0 π h) (kv0 : q_M L π v0) (wM : ∀ a, v0 ≤ a → a < v0 + 46 → W a) (a0 : 0 ≤ v2) (a1 : v2 ≤ 64) (hN : 100000 ≤ N) : qk (f_Mod_holds_8 N  N v0 v2 h) (fun r => q_U L W h0 π r.2 ∧ (∀ a k, ¬ (a = v0 ∧ (k = 66)) → vI r.2 a k = vI h a k) ∧ (∀ a j, 0 ≤ j → ¬ (a = v0 + 40) → vA r.2 a j = vA h a j)) := by
  have hq := q_qnN hN
  refine p_Mod_holds_8_n (q_lo (M := 65) (by decide) (by decide)) N v0 v2 h T kv0 wM a0 a1 ?_ 
  show 65 - q_n N ≤ _
  rw [hq]
  lia
