theorem zz_ca75ef2a65 {a1 a2 : Int32} (h0 : a1 + a2 + 1 ≤ 60) (h1 : (0 ≤ a1) ∧ (a1 ≤ 60)) (h2 : (0 ≤ a2) ∧ (a2 ≤ 60)) : a1 + (a2 + 1) ≤ 60 := by simp only [Int32.le_iff_toInt_le, Int32.lt_iff_toInt_lt, ← Int32.toInt_inj, ne_eq] at *; have b0 := Int32.le_toInt a1; have c0 := Int32.toInt_lt a1; have b1 := Int32.le_toInt a2; have c1 := Int32.toInt_lt a2; have l0 : (1 : Int32).toInt = 1 := (by decide); have l1 : (60 : Int32).toInt = 60 := (by decide); have l2 : (0 : Int32).toInt = 0 := (by decide); have s0 : (a1 + a2).toInt = a1.toInt + a2.toInt := q_tA rfl (by omega) (by omega); have s1 : (a1 + a2 + 1).toInt = (a1 + a2).toInt + 1 := q_tA (by decide) (by omega) (by omega); have s2 : (a2 + 1).toInt = a2.toInt + 1 := q_tA (by decide) (by omega) (by omega); have s3 : (a1 + (a2 + 1)).toInt = a1.toInt + (a2 + 1).toInt := q_tA rfl (by omega) (by omega); omega
theorem zz_0903915b50 {a1 a2 a3 : Int32} (h0 : a1 + a2 + 1 ≤ 60) (h1 : ¬ (a2 ≤ a3)) (h2 : (0 ≤ a1) ∧ (a1 ≤ 60)) (h3 : (0 ≤ a2) ∧ (a2 ≤ 60)) (h4 : 0 ≤ a3) : a1 + 1 + a3 < 64 := by simp only [Int32.le_iff_toInt_le, Int32.lt_iff_toInt_lt, ← Int32.toInt_inj, ne_eq] at *; have b0 := Int32.le_toInt a1; have c0 := Int32.toInt_lt a1; have b1 := Int32.le_toInt a2; have c1 := Int32.toInt_lt a2; have b2 := Int32.le_toInt a3; have c2 := Int32.toInt_lt a3; have l0 : (1 : Int32).toInt = 1 := (by decide); have l1 : (60 : Int32).toInt = 60 := (by decide); have l2 : (0 : Int32).toInt = 0 := (by decide); have l3 : (64 : Int32).toInt = 64 := (by decide); have s0 : (a1 + a2).toInt = a1.toInt + a2.toInt := q_tA rfl (by omega) (by omega); have s1 : (a1 + a2 + 1).toInt = (a1 + a2).toInt + 1 := q_tA (by decide) (by omega) (by omega); have s2 : (a1 + 1).toInt = a1.toInt + 1 := q_tA (by decide) (by omega) (by omega); have s3 : (a1 + 1 + a3).toInt = (a1 + 1).toInt + a3.toInt := q_tA rfl (by omega) (by omega); omega
set_option maxHeartbeats 1000000 in
theorem p_Mod_holds_261_n {L : q_L} {W : Nat → Prop} {h0 : z_H} {π : Nat → Nat → Option Nat} {N : Nat} {lo : Nat → Int32} (hqn : q_Q lo 65) : ∀ (n : Nat) (v0 : Nat) (v2 : Int32) (h : z_H), q_U L W h0 π h → q_M L π v0 → (∀ a, v0 ≤ a → a < v0 + 46 → W a) → (0 ≤ v2) → (v2 ≤ 64) → (vI h v0 65 + vI h v0 66 + 1 ≤ 60) → (lo n ≤ v2) → qk (f_Mod_holds_261 N  n v0 v2 h) (fun r => q_U L W h0 π r.2 ∧ (∀ a k, ¬ (a = v0 ∧ (k = 65)) → vI r.2 a k = vI h a k) ∧ (∀ a j, 0 ≤ j → ¬ (a = v0 + 39) → vA r.2 a j = vA h a j)) := by
  intro n
  induction n with
  | zero => intro v0 v2 h T kv0 wM a0 a1 rm hms; have hz := hqn.1; exact absurd hms (by grind)
  | succ n ih =>
    intro v0 v2 h T kv0 wM a0 a1 rm hms
    obtain ⟨hq1, hq2, hq3⟩ := hqn.2 n
    rw [f_Mod_holds_261]
    refine r_Mo_66 T kv0 ?_
    intro x1 ex1 lx1 ux1
    subst ex1
    refine qk_if (fun cc1 => ?_) (fun cc1 => ?_)
    · skip
      refine r_Mo_65 T kv0 ?_
      intro x3 ex3 lx3 ux3
      subst ex3
      refine r_Mo_66 T kv0 ?_
      intro x4 ex4 lx4 ux4
      subst ex4
      have o2 := g_Mo_65 T kv0
      have o3 := g_Mo_66 T kv0
      refine w_Mo_65 T kv0 (wM _ (by omega) (by omega)) (zz_2b84ef1204 o2 o3) (zz_ca75ef2a65 rm o2 o3) ?_
      intro h5 Th5 ih5 ah5
      refine qk_some ?_
      exact ⟨Th5, (by clear ih; show ∀ a k, ¬ (a = v0 ∧ (k = 65)) → vI h5 a k = vI h a k; intro a k n0; rw [ih5, if_neg (by omega)]), (by clear ih; show ∀ a j, 0 ≤ j → ¬ (a = v0 + 39) → vA h5 a j = vA h a j; intro a j j0 n0; rw [ah5])⟩
    · skip
      refine r_Mo_58 T kv0 ?_
      refine r_Mo_65 T kv0 ?_
      intro x7 ex7 lx7 ux7
      subst ex7
      refine r_Mo_59 T kv0 ?_
      have o4 := g_Mo_66 T kv0
      refine r_Mo_e40 T kv0 a0 (zz_348d33235c cc1 o4) ?_
      intro x9 ex9
      subst ex9
      have o5 := g_Mo_65 T kv0
      refine w_Mo_e39 T kv0 (wM _ (by omega) (by omega)) (zz_aee5b95932 o5 a0 o4 cc1) (zz_0903915b50 rm cc1 o5 o4 a0) ?_
      intro h10 Th10 ih10 ah10
      refine qk_bs ?_
      have o6 : vI h10 v0 65 = vI h v0 65 := (by rw [ih10 v0 65])
      have o7 : vI h10 v0 66 = vI h v0 66 := (by rw [ih10 v0 66])
      refine qk_mono (ih (v0) ((v2 + 1)) h10 Th10 kv0 wM (zz_3c54fe538d a0 a1) (zz_8fd0e735af cc1 o4 a0 a1) (zz_9ee744a955 o6 o7 rm o5 o4) (zz_07ee04ca10 hms hq1 hq2 hq3 a0 a1)) ?_
      rintro ⟨y, hz⟩ ⟨Tz, g0, g1⟩
      try dsimp only at *
      exact ⟨Tz, (by clear ih; show ∀ a k, ¬ (a = v0 ∧ (k = 65)) → vI hz a k = vI h a k; intro a k n0; rw [g0 a k (by omega), ih10]), (by clear ih; show ∀ a j, 0 ≤ j → ¬ (a = v0 + 39) → vA hz a j = vA h a j; intro a j j0 n0; rw [g1 a j j0 (by omega), ah10 a j j0, if_neg (by omega)])⟩
theorem p_Mod_holds_261 {L : q_L} {W : Nat → Prop} {h0 : z_H} {π : Nat → Nat → Option Nat} {N : Nat} {h : z_H} {v0 : Nat} {v2 : Int32} (T : q_U L W h0 π h) (kv0 : q_M L π v0) (wM : ∀ a, v0 ≤ a → a < v0 + 46 → W a) (a0 : 0 ≤ v2) (a1 : v2 ≤ 64) (rm : vI h v0 65 + vI h v0 66 + 1 ≤ 60) (hN : 100000 ≤ N) : qk (f_Mod_holds_261 N  N v0 v2 h) (fun r => q_U L W h0 π r.2 ∧ (∀ a k, ¬ (a = v0 ∧ (k = 65)) → vI r.2 a k = vI h a k) ∧ (∀ a j, 0 ≤ j → ¬ (a = v0 + 39) → vA r.2 a j = vA h a j)) := by
  have hq := q_qnN hN
  refine p_Mod_holds_261_n (q_lo (M := 65) (by decide) (by decide)) N v0 v2 h T kv0 wM a0 a1 rm ?_ 
  show 65 - q_n N ≤ _
  rw [hq]
  lia
