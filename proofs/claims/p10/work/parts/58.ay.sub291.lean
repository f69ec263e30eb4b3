theorem zz_ed532156c5 {a1 : Int32} (h0 : a1 ≤ 60) : a1 < 400 := by simp only [Int32.le_iff_toInt_le, Int32.lt_iff_toInt_lt, ← Int32.toInt_inj, ne_eq] at *; have l0 : (60 : Int32).toInt = 60 := (by decide); have l1 : (400 : Int32).toInt = 400 := (by decide); omega
theorem zz_4a279962c2 {a1 a2 : Int32} (h0 : ¬ (a1 ≤ a2)) (h1 : a1 ≤ 60) (h2 : 0 ≤ a2) (h3 : a2 ≤ 60) : a2 + 1 ≤ 60 := by simp only [Int32.le_iff_toInt_le, Int32.lt_iff_toInt_lt, ← Int32.toInt_inj, ne_eq] at *; have b0 := Int32.le_toInt a2; have c0 := Int32.toInt_lt a2; have l0 : (60 : Int32).toInt = 60 := (by decide); have l1 : (0 : Int32).toInt = 0 := (by decide); have l2 : (1 : Int32).toInt = 1 := (by decide); have s0 : (a2 + 1).toInt = a2.toInt + 1 := q_tA (by decide) (by omega) (by omega); omega
theorem zz_276f747641 {a1 a2 : Int32} (h0 : a1 = a2) (h1 : a2 ≤ 60) : a1 ≤ 60 := by simp only [Int32.le_iff_toInt_le, Int32.lt_iff_toInt_lt, ← Int32.toInt_inj, ne_eq] at *; have l0 : (60 : Int32).toInt = 60 := (by decide); omega
set_option maxHeartbeats 2000000 in
theorem p_Mod_substituted_291_n {L : q_L} {W : Nat → Prop} {h0 : z_H} {π : Nat → Nat → Option Nat} {N : Nat} {lo : Nat → Int32} (hqn : q_Q lo 61) : ∀ (n : Nat) (v0 : Nat) (v1 : Int32) (v5 : Int32) (v8 : Int32) (h : z_H), q_U L W h0 π h → q_M L π v0 → (∀ a, v0 ≤ a → a < v0 + 46 → W a) → (0 ≤ v1) → (v1 < 80) → (0 ≤ v8) → (v8 ≤ 60) → (vI h v0 67 ≤ 60) → (100000 ≤ N) → (lo n ≤ v8) → qk (f_Mod_substituted_291 N  n v0 v1 v5 v8 h) (fun r => q_U L W h0 π r.2 ∧ (∀ a k, ¬ (a = v0 ∧ (k = 6 ∨ k = 76 ∨ k = 69 ∨ k = 67 ∨ k = 65 ∨ k = 73 ∨ k = 74)) → vI r.2 a k = vI h a k) ∧ (∀ a j, 0 ≤ j → ¬ (a = v0 + 41 ∨ a = v0 + 39 ∨ a = v0 + 43) → vA r.2 a j = vA h a j)) := by
  intro n
  induction n with
  | zero => intro v0 v1 v5 v8 h T kv0 wM s0 s1 a0 a1 w hN hms; have hz := hqn.1; exact absurd hms (by grind)
  | succ n ih =>
    intro v0 v1 v5 v8 h T kv0 wM s0 s1 a0 a1 w hN hms
    obtain ⟨hq1, hq2, hq3⟩ := hqn.2 n
    rw [f_Mod_substituted_291]
    refine r_Mo_67 T kv0 ?_
    intro x1 ex1 lx1 ux1
    subst ex1
    refine qk_if (fun cc1 => ?_) (fun cc1 => ?_)
    · skip
      refine r_Mo_67 T kv0 ?_
      intro x3 ex3 lx3 ux3
      subst ex3
      refine w_Mo_65 T kv0 (wM _ (by omega) (by omega)) lx3 w ?_
      intro h4 Th4 ih4 ah4
      refine r_Mo_73 Th4 kv0 ?_
      intro x5 ex5
      have sx5 : (vI h v0 73) = x5 := (ex5.trans (by rw [ih4 v0 73, if_neg (fun z => absurd z.2 (by decide))])).symm
      subst sx5
      refine w_Mo_73 Th4 kv0 (wM _ (by omega) (by omega)) ?_
      intro h6 Th6 ih6 ah6
      refine w_Mo_74 Th6 kv0 (wM _ (by omega) (by omega)) ?_
      intro h7 Th7 ih7 ah7
      refine r_Mo_23 Th7 kv0 ?_
      refine r_Mo_e18 Th7 kv0 s0 s1 ?_
      intro x9 ex9
      have sx9 : (vA h (v0 + 18) v1) = x9 := (ex9.trans (by rw [ah7 (v0 + 18) v1, ah6 (v0 + 18) v1, ah4 (v0 + 18) v1])).symm
      subst sx9
      refine qk_if (fun cc2 => ?_) (fun cc2 => ?_)
      · skip
        refine qk_some ?_
        exact ⟨Th7, (by clear ih; show ∀ a k, ¬ (a = v0 ∧ (k = 6 ∨ k = 76 ∨ k = 69 ∨ k = 67 ∨ k = 65 ∨ k = 73 ∨ k = 74)) → vI h7 a k = vI h a k; intro a k n0; rw [ih7, if_neg (by omega), ih6, if_neg (by omega), ih4, if_neg (by omega)]), (by clear ih; show ∀ a j, 0 ≤ j → ¬ (a = v0 + 41 ∨ a = v0 + 39 ∨ a = v0 + 43) → vA h7 a j = vA h a j; intro a j j0 n0; rw [ah7, ah6, ah4])⟩
      · skip
        refine r_Mo_o Th7 kv0 ?_
        refine c_Mod_tellSpace (v0 := v0) (v1 := 0) Th7 kv0 wM hN ?_
        intro yr12 hr12 Tr12 gr12_0 gr12_1 gr12_2 gr12_3
        dsimp only
        refine qk_if (fun cc3 => ?_) (fun cc3 => ?_)
        · skip
          refine qk_some ?_
          exact ⟨Tr12, (by clear ih; show ∀ a k, ¬ (a = v0 ∧ (k = 6 ∨ k = 76 ∨ k = 69 ∨ k = 67 ∨ k = 65 ∨ k = 73 ∨ k = 74)) → vI hr12 a k = vI h a k; intro a k n0; rw [gr12_2 a k (by omega), ih7, if_neg (by omega), ih6, if_neg (by omega), ih4, if_neg (by omega)]), (by clear ih; show ∀ a j, 0 ≤ j → ¬ (a = v0 + 41 ∨ a = v0 + 39 ∨ a = v0 + 43) → vA hr12 a j = vA h a j; intro a j j0 n0; rw [gr12_3 a j j0 (by omega), ah7, ah6, ah4])⟩
        · skip
          refine qk_some ?_
          exact ⟨Tr12, (by clear ih; show ∀ a k, ¬ (a = v0 ∧ (k = 6 ∨ k = 76 ∨ k = 69 ∨ k = 67 ∨ k = 65 ∨ k = 73 ∨ k = 74)) → vI hr12 a k = vI h a k; intro a k n0; rw [gr12_2 a k (by omega), ih7, if_neg (by omega), ih6, if_neg (by omega), ih4, if_neg (by omega)]), (by clear ih; show ∀ a j, 0 ≤ j → ¬ (a = v0 + 41 ∨ a = v0 + 39 ∨ a = v0 + 43) → vA hr12 a j = vA h a j; intro a j j0 n0; rw [gr12_3 a j j0 (by omega), ah7, ah6, ah4])⟩
    · skip
      refine r_Mo_58 T kv0 ?_
      refine r_Mo_60 T kv0 ?_
      refine r_Mo_e41 T kv0 a0 (zz_ed532156c5 a1) ?_
      intro x16 ex16
      subst ex16
      refine w_Mo_e39 T kv0 (wM _ (by omega) (by omega)) a0 (zz_e867aa2235 a1) ?_
      intro h17 Th17 ih17 ah17
      refine qk_bs ?_
      have o4 : vI h17 v0 67 = vI h v0 67 := (by rw [ih17 v0 67])
      refine qk_mono (ih (v0) (v1) (v5) ((v8 + 1)) h17 Th17 kv0 wM s0 s1 (zz_88232beecb a0 a1) (zz_4a279962c2 cc1 w a0 a1) (zz_276f747641 o4 w) hN (zz_906d4321e3 hms hq1 hq2 hq3 a0 a1)) ?_
      rintro ⟨y, hz⟩ ⟨Tz, g0, g1⟩
      try dsimp only at *
      exact ⟨Tz, (by clear ih; show ∀ a k, ¬ (a = v0 ∧ (k = 6 ∨ k = 76 ∨ k = 69 ∨ k = 67 ∨ k = 65 ∨ k = 73 ∨ k = 74)) → vI hz a k = vI h a k; intro a k n0; rw [g0 a k (by omega), ih17]), (by clear ih; show ∀ a j, 0 ≤ j → ¬ (a = v0 + 41 ∨ a = v0 + 39 ∨ a = v0 + 43) → vA hz a j = vA h a j; intro a j j0 n0; rw [g1 a j j0 (by omega), ah17 a j j0, if_neg (by omega)])⟩
theorem p_Mod_substituted_291 {L : q_L} {W : Nat → Prop} {h0 : z_H} {π : Nat → Nat → Option Nat} {N : Nat} {h : z_H} {v0 : Nat} {v1 : Int32} {v5 : Int32} {v8 : Int32} (T : q_U L W h0 π h) (kv0 : q_M L π v0) (wM : ∀ a, v0 ≤ a → a < v0 + 46 → W a) (s0 : 0 ≤ v1) (s1 : v1 < 80) (a0 : 0 ≤ v8) (a1 : v8 ≤ 60) (w : vI h v0 67 ≤ 60) (hN : 100000 ≤ N) : qk (f_Mod_substituted_291 N  N v0 v1 v5 v8 h) (fun r => q_U L W h0 π r.2 ∧ (∀ a k, ¬ (a = v0 ∧ (k = 6 ∨ k = 76 ∨ k = 69 ∨ k = 67 ∨ k = 65 ∨ k = 73 ∨ k = 74)) → vI r.2 a k = vI h a k) ∧ (∀ a j, 0 ≤ j → ¬ (a = v0 + 41 ∨ a = v0 + 39 ∨ a = v0 + 43) → vA r.2 a j = vA h a j)) := by
  have hq := q_qnN hN
  refine p_Mod_substituted_291_n (q_lo (M := 61) (by decide) (by decide)) N v0 v1 v5 v8 h T kv0 wM s0 s1 a0 a1 w hN ?_ 
  show 61 - q_n N ≤ _
  rw [hq]
  lia
