theorem zz_38d635fb00 {a1 a2 a3 a4 a5 : Int32} (h0 : a1 = a2) (h1 : (a3 = 0) → (a2 ≤ a4)) (h2 : a3 = 0) : (a5 = 0) → ((a2 ≤ a1) ∧ (a1 ≤ a4)) := by simp only [Int32.le_iff_toInt_le, Int32.lt_iff_toInt_lt, ← Int32.toInt_inj, ne_eq] at *; have l0 : (0 : Int32).toInt = 0 := (by decide); omega
theorem zz_4c22865623 {a1 a2 a3 a4 : Int32} (h0 : a1 = a2) (h1 : a3 = a4) (h2 : a2 ≤ a4) : (a2 ≤ a1) ∧ (a1 ≤ a3) := by simp only [Int32.le_iff_toInt_le, Int32.lt_iff_toInt_lt, ← Int32.toInt_inj, ne_eq] at *; omega
theorem zz_996fb04d06 {a1 a2 : Int32} (h0 : a1 = a2) (h1 : a2 ≤ 242) : (a2 ≤ a1) ∧ (a1 ≤ 244) := by simp only [Int32.le_iff_toInt_le, Int32.lt_iff_toInt_lt, ← Int32.toInt_inj, ne_eq] at *; have l0 : (242 : Int32).toInt = 242 := (by decide); have l1 : (244 : Int32).toInt = 244 := (by decide); omega
theorem zz_45cbd87079 {a1 a2 a3 a4 a5 : Int32} (h0 : a1 = a2) (h1 : a3 = a4) (h2 : a2 = (300 * a5) + a4) (h3 : (0 ≤ a5) ∧ (a5 ≤ 1)) (h4 : (0 ≤ a4) ∧ (a4 ≤ 299)) : a1 = (300 * a5) + a3 := by simp only [Int32.le_iff_toInt_le, Int32.lt_iff_toInt_lt, ← Int32.toInt_inj, ne_eq] at *; have l0 : (300 : Int32).toInt = 300 := (by decide); have l1 : (0 : Int32).toInt = 0 := (by decide); have l2 : (1 : Int32).toInt = 1 := (by decide); have l3 : (299 : Int32).toInt = 299 := (by decide); have s0 : (300 * a5).toInt = 300 * a5.toInt := q_tM (by decide) (by omega) (by omega); have s1 : ((300 * a5) + a4).toInt = (300 * a5).toInt + a4.toInt := q_tA rfl (by omega) (by omega); have s2 : ((300 * a5) + a3).toInt = (300 * a5).toInt + a3.toInt := q_tA rfl (by omega) (by omega); omega
theorem zz_780199289e {a1 a2 a3 a4 a5 : Int32} (h0 : a1 = a2) (h1 : ¬ (a2 = 0)) : (a1 = 0) → ((a3 ≤ a4) ∧ (a4 ≤ a5)) := by simp only [Int32.le_iff_toInt_le, Int32.lt_iff_toInt_lt, ← Int32.toInt_inj, ne_eq] at *; have l0 : (0 : Int32).toInt = 0 := (by decide); omega
set_option maxHeartbeats 4000000 in
theorem p_Mod_readText_32_n {L : q_L} {W : Nat → Prop} {h0 : z_H} {π : Nat → Nat → Option Nat} {N : Nat} {lo : Nat → Int32} (hqn : q_Q lo 301) : ∀ (n : Nat) (v0 : Nat) (v1 : Int32) (h : z_H), q_U L W h0 π h → q_M L π v0 → (∀ a, v0 ≤ a → a < v0 + 46 → W a) → (0 ≤ v1) → (v1 < 80) → (vI h v0 48 = 0 → vI h v0 41 ≤ vI h v0 3) → (vA h (v0 + 22) (vI h v0 42) ≤ vI h v0 41) → (vI h v0 41 ≤ 242) → (100000 ≤ N) → (lo n ≤ (if vI h v0 48 = 0 then vI h v0 41 else 300)) → qk (f_Mod_readText_32 N  n v0 v1 h) (fun r => q_U L W h0 π r ∧ (∀ a k, ¬ (a = v0 ∧ (k = 5 ∨ k = 48 ∨ k = 41)) → vI r a k = vI h a k) ∧ (∀ a j, 0 ≤ j → ¬ (a = v0 + 11 ∨ a = v0 + 22 ∨ a = v0 + 28) → vA r a j = vA h a j) ∧ (∀ j, 0 ≤ j → j ≠ vI h v0 42 → vA r (v0 + 22) j = vA h (v0 + 22) j) ∧ (∀ j, 0 ≤ j → (j < (300 * vI h v0 42 + vA h (v0 + 22) (vI h v0 42)) ∨ 300 * vI h v0 42 + 300 ≤ j) → vA r (v0 + 28) j = vA h (v0 + 28) j) ∧ (∀ j, 0 ≤ j → j ≠ v1 → vA r (v0 + 11) j = vA h (v0 + 11) j) ∧ (vI r v0 48 = 0 → vI h v0 41 ≤ vI r v0 41 ∧ vI r v0 41 ≤ vI h v0 3) ∧ (vA h (v0 + 22) (vI h v0 42) ≤ vA r (v0 + 22) (vI h v0 42) ∧ vA r (v0 + 22) (vI h v0 42) ≤ vI r v0 41) ∧ (vI h v0 41 ≤ vI r v0 41 ∧ vI r v0 41 ≤ 244) ∧ (vA r (v0 + 11) v1 = 300 * vI h v0 42 + vA r (v0 + 22) (vI h v0 42))) := by
  intro n
  induction n with
  | zero => intro v0 v1 h T kv0 wM s0 s1 hl hc ab hN hms; have rg_at := g_Mo_41 T kv0; have hz := hqn.1; exact absurd hms (by grind)
  | succ n ih =>
    intro v0 v1 h T kv0 wM s0 s1 hl hc ab hN hms
    obtain ⟨hq1, hq2, hq3⟩ := hqn.2 n
    rw [f_Mod_readText_32]
    refine r_Mo_48 T kv0 ?_
    intro x1 ex1
    subst ex1
    refine qk_if (fun cc1 => ?_) (fun cc1 => ?_)
    · skip
      refine r_Mo_o T kv0 ?_
      refine c_Mod_here2 (v0 := v0) T kv0 ?_
      intro yr4 gr4_0 gr4_1 gr4_2 gr4_3 gr4_4
      dsimp only
      refine qk_if (fun cc2 => ?_) (fun cc2 => ?_)
      · skip
        unfold f_Mod_readText_77
        refine r_Mo_16 T kv0 ?_
        refine r_Mo_o T kv0 ?_
        refine c_Mod_stored (v0 := v0) T kv0 ?_
        intro yr3i3 gr3i3_0
        dsimp only
        have o4 := g_Mo_42 T kv0
        have o5 := g_Mo_e22 T kv0 (vI h v0 42)
        refine w_Mo_e11 T kv0 (wM _ (by omega) (by omega)) s0 s1 (zz_742a6f90c7 gr3i3_0 o4 o5) (zz_d85009545c gr3i3_0 o4 o5) ?_
        intro h4i3 Th4i3 ih4i3 ah4i3
        refine qk_some ?_
        have o6 : vI h4i3 v0 41 = vI h v0 41 := (by rw [ih4i3 v0 41])
        have o7 : vA h4i3 (v0 + 22) (vI h v0 42) = vA h (v0 + 22) (vI h v0 42) := (by rw [ah4i3 (v0 + 22) (vI h v0 42) (g_Mo_42 T kv0).1, if_neg (fun z => absurd z.1 (by omega))])
        have o8 : vA h4i3 (v0 + 11) v1 = yr3i3 := (by rw [ah4i3 (v0 + 11) v1 s0, if_pos ⟨rfl, rfl⟩])
        exact ⟨Th4i3, (by clear ih; show ∀ a k, ¬ (a = v0 ∧ (k = 5 ∨ k = 48 ∨ k = 41)) → vI h4i3 a k = vI h a k; intro a k n0; rw [ih4i3]), (by clear ih; show ∀ a j, 0 ≤ j → ¬ (a = v0 + 11 ∨ a = v0 + 22 ∨ a = v0 + 28) → vA h4i3 a j = vA h a j; intro a j j0 n0; rw [ah4i3 a j j0, if_neg (by omega)]), (by clear ih; show ∀ j, 0 ≤ j → j ≠ vI h v0 42 → vA h4i3 (v0 + 22) j = vA h (v0 + 22) j; intro j j0 n0; rw [ah4i3 (v0 + 22) j j0, if_neg (fun z => absurd z.1 (by omega))]), (by clear ih; show ∀ j, 0 ≤ j → (j < (300 * vI h v0 42 + vA h (v0 + 22) (vI h v0 42)) ∨ 300 * vI h v0 42 + 300 ≤ j) → vA h4i3 (v0 + 28) j = vA h (v0 + 28) j; intro j j0 n0; rw [ah4i3 (v0 + 28) j j0, if_neg (fun z => absurd z.1 (by omega))]), (by clear ih; show ∀ j, 0 ≤ j → j ≠ v1 → vA h4i3 (v0 + 11) j = vA h (v0 + 11) j; intro j j0 n0; rw [ah4i3 (v0 + 11) j j0, if_neg (fun z => absurd z.2 (zz_946771669d n0))]), (zz_38d635fb00 o6 hl cc1), (zz_4c22865623 o7 o6 hc), (zz_996fb04d06 o6 ab), (zz_45cbd87079 o8 o7 gr3i3_0 o4 o5)⟩
      · skip
        refine r_Mo_o T kv0 ?_
        refine c_Mod_here2 (v0 := v0) T kv0 ?_
        intro yr7 gr7_0 gr7_1 gr7_2 gr7_3 gr7_4
        dsimp only
        refine qk_if (fun cc9 => ?_) (fun cc9 => ?_)
        · skip
          unfold f_Mod_readText_77
          refine r_Mo_16 T kv0 ?_
          refine r_Mo_o T kv0 ?_
          refine c_Mod_stored (v0 := v0) T kv0 ?_
          intro yr3i10 gr3i10_0
          dsimp only
          have o11 := g_Mo_42 T kv0
          have o12 := g_Mo_e22 T kv0 (vI h v0 42)
          refine w_Mo_e11 T kv0 (wM _ (by omega) (by omega)) s0 s1 (zz_742a6f90c7 gr3i10_0 o11 o12) (zz_d85009545c gr3i10_0 o11 o12) ?_
          intro h4i10 Th4i10 ih4i10 ah4i10
          refine qk_some ?_
          have o13 : vI h4i10 v0 41 = vI h v0 41 := (by rw [ih4i10 v0 41])
          have o14 : vA h4i10 (v0 + 22) (vI h v0 42) = vA h (v0 + 22) (vI h v0 42) := (by rw [ah4i10 (v0 + 22) (vI h v0 42) (g_Mo_42 T kv0).1, if_neg (fun z => absurd z.1 (by omega))])
          have o15 : vA h4i10 (v0 + 11) v1 = yr3i10 := (by rw [ah4i10 (v0 + 11) v1 s0, if_pos ⟨rfl, rfl⟩])
          exact ⟨Th4i10, (by clear ih; show ∀ a k, ¬ (a = v0 ∧ (k = 5 ∨ k = 48 ∨ k = 41)) → vI h4i10 a k = vI h a k; intro a k n0; rw [ih4i10]), (by clear ih; show ∀ a j, 0 ≤ j → ¬ (a = v0 + 11 ∨ a = v0 + 22 ∨ a = v0 + 28) → vA h4i10 a j = vA h a j; intro a j j0 n0; rw [ah4i10 a j j0, if_neg (by omega)]), (by clear ih; show ∀ j, 0 ≤ j → j ≠ vI h v0 42 → vA h4i10 (v0 + 22) j = vA h (v0 + 22) j; intro j j0 n0; rw [ah4i10 (v0 + 22) j j0, if_neg (fun z => absurd z.1 (by omega))]), (by clear ih; show ∀ j, 0 ≤ j → (j < (300 * vI h v0 42 + vA h (v0 + 22) (vI h v0 42)) ∨ 300 * vI h v0 42 + 300 ≤ j) → vA h4i10 (v0 + 28) j = vA h (v0 + 28) j; intro j j0 n0; rw [ah4i10 (v0 + 28) j j0, if_neg (fun z => absurd z.1 (by omega))]), (by clear ih; show ∀ j, 0 ≤ j → j ≠ v1 → vA h4i10 (v0 + 11) j = vA h (v0 + 11) j; intro j j0 n0; rw [ah4i10 (v0 + 11) j j0, if_neg (fun z => absurd z.2 (zz_946771669d n0))]), (zz_38d635fb00 o13 hl cc1), (zz_4c22865623 o14 o13 hc), (zz_996fb04d06 o13 ab), (zz_45cbd87079 o15 o14 gr3i10_0 o11 o12)⟩
        · skip
          refine r_Mo_o T kv0 ?_
          refine c_Mod_here2 (v0 := v0) T kv0 ?_
          intro yr10 gr10_0 gr10_1 gr10_2 gr10_3 gr10_4
          dsimp only
          refine r_Mo_o T kv0 ?_
          have o16 := g_Mo_41 T kv0
          refine c_Mod_keep (v0 := v0) (v1 := (yr10)) T kv0 wM (zz_265a939049 gr10_0) (zz_26ae85129d gr10_0) (zz_b4b1647785 hc o16) ?_
          intro r12 Tr12 gr12_0 gr12_1
          refine r_Mo_41 Tr12 kv0 ?_
          intro x13 ex13 lx13 ux13
          have sx13 : (vI h v0 41) = x13 := (ex13.trans (by rw [gr12_0 v0 41])).symm
          subst sx13
          refine w_Mo_41 Tr12 kv0 (wM _ (by omega) (by omega)) (zz_5664edf06b o16) (zz_c81e5df24d ab o16) ?_
          intro h14 Th14 ih14 ah14
          have o17 : vI h14 v0 41 = (vI h v0 41) + 1 := (by rw [ih14 v0 41, if_pos ⟨rfl, rfl⟩])
          have o18 : vI h14 v0 3 = vI h v0 3 := (by rw [ih14 v0 3, if_neg (fun z => absurd z.2 (by decide)), gr12_0 v0 3])
          have o19 : vA h14 (v0 + 22) (vI h v0 42) = (vA h (v0 + 22) (vI h v0 42)) + 1 := (by rw [ah14 (v0 + 22) (vI h v0 42), gr12_1 (v0 + 22) (vI h v0 42) (g_Mo_42 T kv0).1, if_pos ⟨rfl, rfl⟩])
          have o20 := g_Mo_e22 T kv0 (vI h v0 42)
          refine qk_mono (ih (v0) (v1) h14 Th14 kv0 wM s0 s1 (zz_ddd39f7a20 o17 o18 gr4_2 cc2 o16) (by show vA h14 (v0 + 22) (vI h14 v0 42) ≤ vI h14 v0 41; have qc1 : vI h14 v0 42 = (vI h v0 42) := (by rw [ih14 v0 42, if_neg (fun z => absurd z.2 (by decide)), gr12_0 v0 42]); rw [qc1]; exact zz_e0bdb35105 o19 o17 hc o16 o20) (zz_258eeb5eb4 o17 gr4_3 cc2 o16) hN (zz_395d806045 o17 ab hms hq1 cc1 hq2 hq3 o16)) ?_
          rintro hz ⟨Tz, g0, g1, g2, g3, g4, g5, g6, g7, g8⟩
          try dsimp only at *
          have qh42_g0 : vI h14 v0 42 = (vI h v0 42) := by rw [ih14 v0 42, if_neg (fun z => absurd z.2 (by decide)), gr12_0 v0 42]
          rw [qh42_g0] at g2
          rw [qh42_g0] at g3
          rw [qh42_g0] at g6
          rw [qh42_g0] at g8
          have o22 := g_Mo_42 T kv0
          have o23 := g_Mo_e22 Tz kv0 (vI h v0 42)
          exact ⟨Tz, (by clear ih; show ∀ a k, ¬ (a = v0 ∧ (k = 5 ∨ k = 48 ∨ k = 41)) → vI hz a k = vI h a k; intro a k n0; rw [g0 a k (by omega), ih14, if_neg (by omega), gr12_0 a k]), (by clear ih; show ∀ a j, 0 ≤ j → ¬ (a = v0 + 11 ∨ a = v0 + 22 ∨ a = v0 + 28) → vA hz a j = vA h a j; intro a j j0 n0; rw [g1 a j j0 (by omega), ah14, gr12_1 a j j0, if_neg (by omega), if_neg (by omega)]), (by clear ih; show ∀ j, 0 ≤ j → j ≠ vI h v0 42 → vA hz (v0 + 22) j = vA h (v0 + 22) j; intro j j0 n0; rw [g2 j j0 n0, ah14 (v0 + 22) j, gr12_1 (v0 + 22) j j0, if_neg (fun z => absurd z.2 (zz_946771669d n0)), if_neg (fun z => absurd z.1 (by omega))]), (by clear ih; show ∀ j, 0 ≤ j → (j < (300 * vI h v0 42 + vA h (v0 + 22) (vI h v0 42)) ∨ 300 * vI h v0 42 + 300 ≤ j) → vA hz (v0 + 28) j = vA h (v0 + 28) j; intro j j0 n0; rw [g3 j j0 (zz_d5e09a6e7f o19 n0 o22 o20), ah14 (v0 + 28) j, gr12_1 (v0 + 28) j j0, if_neg (fun z => absurd z.1 (by omega)), if_neg (fun z => absurd z.2 (zz_039ceab827 o20 n0 o22))]), (by clear ih; show ∀ j, 0 ≤ j → j ≠ v1 → vA hz (v0 + 11) j = vA h (v0 + 11) j; intro j j0 n0; rw [g4 j j0 n0, ah14 (v0 + 11) j, gr12_1 (v0 + 11) j j0, if_neg (fun z => absurd z.1 (by omega)), if_neg (fun z => absurd z.1 (by omega))]), (zz_e1ffe81a38 g5 o17 o18 o16), (zz_926e2567f5 g6 o19 o20), (zz_b8fccb5cff o17 g7 o16), (zz_3e1d7f49dd g8 o22 o23)⟩
    · skip
      unfold f_Mod_readText_77
      refine r_Mo_16 T kv0 ?_
      refine r_Mo_o T kv0 ?_
      refine c_Mod_stored (v0 := v0) T kv0 ?_
      intro yr3i24 gr3i24_0
      dsimp only
      have o25 := g_Mo_42 T kv0
      have o26 := g_Mo_e22 T kv0 (vI h v0 42)
      refine w_Mo_e11 T kv0 (wM _ (by omega) (by omega)) s0 s1 (zz_742a6f90c7 gr3i24_0 o25 o26) (zz_d85009545c gr3i24_0 o25 o26) ?_
      intro h4i24 Th4i24 ih4i24 ah4i24
      refine qk_some ?_
      have o27 : vI h4i24 v0 48 = vI h v0 48 := (by rw [ih4i24 v0 48])
      have o28 : vA h4i24 (v0 + 22) (vI h v0 42) = vA h (v0 + 22) (vI h v0 42) := (by rw [ah4i24 (v0 + 22) (vI h v0 42) (g_Mo_42 T kv0).1, if_neg (fun z => absurd z.1 (by omega))])
      have o29 : vI h4i24 v0 41 = vI h v0 41 := (by rw [ih4i24 v0 41])
      have o30 : vA h4i24 (v0 + 11) v1 = yr3i24 := (by rw [ah4i24 (v0 + 11) v1 s0, if_pos ⟨rfl, rfl⟩])
      exact ⟨Th4i24, (by clear ih; show ∀ a k, ¬ (a = v0 ∧ (k = 5 ∨ k = 48 ∨ k = 41)) → vI h4i24 a k = vI h a k; intro a k n0; rw [ih4i24]), (by clear ih; show ∀ a j, 0 ≤ j → ¬ (a = v0 + 11 ∨ a = v0 + 22 ∨ a = v0 + 28) → vA h4i24 a j = vA h a j; intro a j j0 n0; rw [ah4i24 a j j0, if_neg (by omega)]), (by clear ih; show ∀ j, 0 ≤ j → j ≠ vI h v0 42 → vA h4i24 (v0 + 22) j = vA h (v0 + 22) j; intro j j0 n0; rw [ah4i24 (v0 + 22) j j0, if_neg (fun z => absurd z.1 (by omega))]), (by clear ih; show ∀ j, 0 ≤ j → (j < (300 * vI h v0 42 + vA h (v0 + 22) (vI h v0 42)) ∨ 300 * vI h v0 42 + 300 ≤ j) → vA h4i24 (v0 + 28) j = vA h (v0 + 28) j; intro j j0 n0; rw [ah4i24 (v0 + 28) j j0, if_neg (fun z => absurd z.1 (by omega))]), (by clear ih; show ∀ j, 0 ≤ j → j ≠ v1 → vA h4i24 (v0 + 11) j = vA h (v0 + 11) j; intro j j0 n0; rw [ah4i24 (v0 + 11) j j0, if_neg (fun z => absurd z.2 (zz_946771669d n0))]), (zz_780199289e o27 cc1), (zz_4c22865623 o28 o29 hc), (zz_996fb04d06 o29 ab), (zz_45cbd87079 o30 o28 gr3i24_0 o25 o26)⟩
theorem p_Mod_readText_32 {L : q_L} {W : Nat → Prop} {h0 : z_H} {π : Nat → Nat → Option Nat} {N : Nat} {h : z_H} {v0 : Nat} {v1 : Int32} (T : q_U L W h0 π h) (kv0 : q_M L π v0) (wM : ∀ a, v0 ≤ a → a < v0 + 46 → W a) (s0 : 0 ≤ v1) (s1 : v1 < 80) (hl : vI h v0 48 = 0 → vI h v0 41 ≤ vI h v0 3) (hc : vA h (v0 + 22) (vI h v0 42) ≤ vI h v0 41) (ab : vI h v0 41 ≤ 242) (hN : 100000 ≤ N) : qk (f_Mod_readText_32 N  N v0 v1 h) (fun r => q_U L W h0 π r ∧ (∀ a k, ¬ (a = v0 ∧ (k = 5 ∨ k = 48 ∨ k = 41)) → vI r a k = vI h a k) ∧ (∀ a j, 0 ≤ j → ¬ (a = v0 + 11 ∨ a = v0 + 22 ∨ a = v0 + 28) → vA r a j = vA h a j) ∧ (∀ j, 0 ≤ j → j ≠ vI h v0 42 → vA r (v0 + 22) j = vA h (v0 + 22) j) ∧ (∀ j, 0 ≤ j → (j < (300 * vI h v0 42 + vA h (v0 + 22) (vI h v0 42)) ∨ 300 * vI h v0 42 + 300 ≤ j) → vA r (v0 + 28) j = vA h (v0 + 28) j) ∧ (∀ j, 0 ≤ j → j ≠ v1 → vA r (v0 + 11) j = vA h (v0 + 11) j) ∧ (vI r v0 48 = 0 → vI h v0 41 ≤ vI r v0 41 ∧ vI r v0 41 ≤ vI h v0 3) ∧ (vA h (v0 + 22) (vI h v0 42) ≤ vA r (v0 + 22) (vI h v0 42) ∧ vA r (v0 + 22) (vI h v0 42) ≤ vI r v0 41) ∧ (vI h v0 41 ≤ vI r v0 41 ∧ vI r v0 41 ≤ 244) ∧ (vA r (v0 + 11) v1 = 300 * vI h v0 42 + vA r (v0 + 22) (vI h v0 42))) := by
  have hq := q_qnN hN
  have rg_at := g_Mo_41 T kv0
  refine p_Mod_readText_32_n (q_lo (M := 301) (by decide) (by decide)) N v0 v1 h T kv0 wM s0 s1 hl hc ab hN ?_ 
  show 301 - q_n N ≤ _
  rw [hq]
  split <;> lia
