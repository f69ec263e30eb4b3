set_option maxHeartbeats 1000000 in
theorem p_Mod_escaped {L : q_L} {W : Nat → Prop} {h0 : z_H} {π : Nat → Nat → Option Nat} {N : Nat} {f0 : Int32} {h : z_H} {v0 : Nat} {v1 : Int32} (T : q_U L W h0 π h) (kv0 : q_M L π v0) (wM : ∀ a, v0 ≤ a → a < v0 + 46 → W a) (bd : vI h v0 48 = 0) (hl : vI h v0 41 < vI h v0 3) (hi : vA h (v0 + 21) (vI h v0 42) ≤ vI h v0 41) (J : q_JM (vA h (v0 + 26)) (vA h (v0 + 27)) f0 (260 * vI h v0 42 + vA h (v0 + 21) (vI h v0 42)) (vI h v0 44) (vI h v0 49) (vI h v0 50)) : qk (f_Mod_escaped N v0 v1 h) (fun r => q_U L W h0 π r ∧ (∀ a k, ¬ (a = v0 ∧ (k = 5 ∨ k = 46 ∨ k = 48 ∨ k = 50 ∨ k = 41 ∨ k = 44 ∨ k = 49 ∨ k = 45)) → vI r a k = vI h a k) ∧ (∀ a j, 0 ≤ j → ¬ (a = v0 + 21 ∨ a = v0 + 26 ∨ a = v0 + 27 ∨ a = v0 + 29) → vA r a j = vA h a j) ∧ (∀ j, 0 ≤ j → j ≠ vI h v0 42 → vA r (v0 + 21) j = vA h (v0 + 21) j) ∧ (∀ j, 0 ≤ j → (j < (260 * vI h v0 42 + vA h (v0 + 21) (vI h v0 42)) ∨ 260 * vI h v0 42 + 260 ≤ j) → vA r (v0 + 26) j = vA h (v0 + 26) j ∧ vA r (v0 + 27) j = vA h (v0 + 27) j) ∧ (vI r v0 48 = 0 → vI h v0 41 < vI r v0 41 ∧ vI r v0 41 ≤ vI h v0 3) ∧ (vI r v0 48 = 0 → vA r (v0 + 21) (vI h v0 42) ≤ vI r v0 41) ∧ (vI r v0 48 = 0 → q_JM (vA r (v0 + 26)) (vA r (v0 + 27)) f0 (260 * vI r v0 42 + vA r (v0 + 21) (vI r v0 42)) (vI r v0 44) (vI r v0 49) (vI r v0 50)) ∧ (vI h v0 41 ≤ vI r v0 41 ∧ vI r v0 41 ≤ 242) ∧ (vA h (v0 + 21) (vI h v0 42) ≤ vA r (v0 + 21) (vI h v0 42) ∧ vA r (v0 + 21) (vI h v0 42) ≤ 241)) := by
  have rg_half := g_Mo_42 T kv0
  have rg_at := g_Mo_41 T kv0
  have rg_length := g_Mo_3 T kv0
  have rg_group := g_Mo_44 T kv0
  have re_items := g_Mo_e21 T kv0 (vI h v0 42)
  unfold f_Mod_escaped
  refine r_Mo_o T kv0 ?_
  refine c_Mod_behind (v0 := v0) T kv0 ?_
  intro yr2 gr2_0 gr2_1
  dsimp only
  refine qk_bs ?_
  refine qk_if (fun cc1 => ?_) (fun cc1 => ?_)
  · skip
    refine r_Mo_46 T kv0 ?_
    intro x41 ex41
    subst ex41
    refine qk_if (fun cc2 => ?_) (fun cc2 => ?_)
    · skip
      refine r_Mo_49 T kv0 ?_
      intro x44 ex44
      subst ex44
      refine qk_if (fun cc3 => ?_) (fun cc3 => ?_)
      · skip
        refine r_Mo_44 T kv0 ?_
        intro x47 ex47 lx47 ux47
        subst ex47
        refine qk_if (fun cc4 => ?_) (fun cc4 => ?_)
        · skip
          unfold f_Mod_escaped_43
          refine r_Mo_o T kv0 ?_
          refine c_Mod_wrong (v0 := v0) (v1 := v1) T kv0 (by first | with_reducible assumption | grind | lia) ?_
          intro r2i5 Tr2i5 gr2i5_0 gr2i5_1 gr2i5_2
          refine qk_some ?_
          exact ⟨Tr2i5, (by intro a k n0; rw [gr2i5_0 a k (by omega)]), (by intro a j j0 n0; rw [gr2i5_2 a j]), (by intro j j0 n; rw [gr2i5_2 (v0 + 21) j]), (by intro j j0 jj; rw [gr2i5_2 (v0 + 26) j, gr2i5_2 (v0 + 27) j]; exact ⟨rfl, rfl⟩), (by intro bb; exact absurd (bb.symm.trans gr2i5_1) (by decide)), (by intro bb; exact absurd (bb.symm.trans gr2i5_1) (by decide)), (by intro bb; exact absurd (bb.symm.trans gr2i5_1) (by decide)), (by exact q_upn rg_at.1 (q_a1 hl rg_length.2) (Or.inl (by rw [gr2i5_0 v0 41 (by omega)]))), (by exact q_ui8 re_items.1 (Int32.le_trans hi (q_a1 hl rg_length.2)) (Or.inl (by rw [gr2i5_2 (v0 + 21) (vI h v0 42)])))⟩
        · skip
          refine r_Mo_3 T kv0 ?_
          intro x49 ex49 lx49 ux49
          subst ex49
          unfold f_Mod_escaped_43
          refine r_Mo_o T kv0 ?_
          refine c_Mod_wrong (v0 := v0) (v1 := (vI h v0 3)) T kv0 (by first | with_reducible assumption | grind | lia) ?_
          intro r2i6 Tr2i6 gr2i6_0 gr2i6_1 gr2i6_2
          refine qk_some ?_
          exact ⟨Tr2i6, (by intro a k n0; rw [gr2i6_0 a k (by omega)]), (by intro a j j0 n0; rw [gr2i6_2 a j]), (by intro j j0 n; rw [gr2i6_2 (v0 + 21) j]), (by intro j j0 jj; rw [gr2i6_2 (v0 + 26) j, gr2i6_2 (v0 + 27) j]; exact ⟨rfl, rfl⟩), (by intro bb; exact absurd (bb.symm.trans gr2i6_1) (by decide)), (by intro bb; exact absurd (bb.symm.trans gr2i6_1) (by decide)), (by intro bb; exact absurd (bb.symm.trans gr2i6_1) (by decide)), (by exact q_upn rg_at.1 (q_a1 hl rg_length.2) (Or.inl (by rw [gr2i6_0 v0 41 (by omega)]))), (by exact q_ui8 re_items.1 (Int32.le_trans hi (q_a1 hl rg_length.2)) (Or.inl (by rw [gr2i6_2 (v0 + 21) (vI h v0 42)])))⟩
      · skip
        refine r_Mo_3 T kv0 ?_
        intro x46 ex46 lx46 ux46
        subst ex46
        unfold f_Mod_escaped_43
        refine r_Mo_o T kv0 ?_
        refine c_Mod_wrong (v0 := v0) (v1 := (vI h v0 3)) T kv0 (by first | with_reducible assumption | grind | lia) ?_
        intro r2i7 Tr2i7 gr2i7_0 gr2i7_1 gr2i7_2
        refine qk_some ?_
        exact ⟨Tr2i7, (by intro a k n0; rw [gr2i7_0 a k (by omega)]), (by intro a j j0 n0; rw [gr2i7_2 a j]), (by intro j j0 n; rw [gr2i7_2 (v0 + 21) j]), (by intro j j0 jj; rw [gr2i7_2 (v0 + 26) j, gr2i7_2 (v0 + 27) j]; exact ⟨rfl, rfl⟩), (by intro bb; exact absurd (bb.symm.trans gr2i7_1) (by decide)), (by intro bb; exact absurd (bb.symm.trans gr2i7_1) (by decide)), (by intro bb; exact absurd (bb.symm.trans gr2i7_1) (by decide)), (by exact q_upn rg_at.1 (q_a1 hl rg_length.2) (Or.inl (by rw [gr2i7_0 v0 41 (by omega)]))), (by exact q_ui8 re_items.1 (Int32.le_trans hi (q_a1 hl rg_length.2)) (Or.inl (by rw [gr2i7_2 (v0 + 21) (vI h v0 42)])))⟩
    · skip
      refine r_Mo_3 T kv0 ?_
      intro x43 ex43 lx43 ux43
      subst ex43
      unfold f_Mod_escaped_43
      refine r_Mo_o T kv0 ?_
      refine c_Mod_wrong (v0 := v0) (v1 := (vI h v0 3)) T kv0 (by first | with_reducible assumption | grind | lia) ?_
      intro r2i8 Tr2i8 gr2i8_0 gr2i8_1 gr2i8_2
      refine qk_some ?_
      exact ⟨Tr2i8, (by intro a k n0; rw [gr2i8_0 a k (by omega)]), (by intro a j j0 n0; rw [gr2i8_2 a j]), (by intro j j0 n; rw [gr2i8_2 (v0 + 21) j]), (by intro j j0 jj; rw [gr2i8_2 (v0 + 26) j, gr2i8_2 (v0 + 27) j]; exact ⟨rfl, rfl⟩), (by intro bb; exact absurd (bb.symm.trans gr2i8_1) (by decide)), (by intro bb; exact absurd (bb.symm.trans gr2i8_1) (by decide)), (by intro bb; exact absurd (bb.symm.trans gr2i8_1) (by decide)), (by exact q_upn rg_at.1 (q_a1 hl rg_length.2) (Or.inl (by rw [gr2i8_0 v0 41 (by omega)]))), (by exact q_ui8 re_items.1 (Int32.le_trans hi (q_a1 hl rg_length.2)) (Or.inl (by rw [gr2i8_2 (v0 + 21) (vI h v0 42)])))⟩
  · skip
    refine qk_if (fun cc9 => ?_) (fun cc9 => ?_)
    · skip
      refine r_Mo_49 T kv0 ?_
      intro x31 ex31
      subst ex31
      refine qk_if (fun cc10 => ?_) (fun cc10 => ?_)
      · skip
        refine r_Mo_44 T kv0 ?_
        intro x33 ex33 lx33 ux33
        subst ex33
        refine qk_if (fun cc11 => ?_) (fun cc11 => ?_)
        · skip
          refine qk_mono (p_Mod_escaped_68 (v0 := v0) (v1 := v1) (f0 := f0) T kv0 (by first | with_reducible assumption | grind | lia) (by first | with_reducible assumption | grind | lia) (by first | with_reducible assumption | grind | lia) (by first | with_reducible assumption | grind | lia) (by first | with_reducible assumption | grind | lia)) ?_
          rintro hz ⟨Tz, g0, g1, g2, g3, g4, g5, g6, g7, g8⟩
          try dsimp only at *
          exact ⟨Tz, (by intro a k n0; rw [g0 a k (by omega)]), (by intro a j j0 n0; rw [g1 a j j0 (by omega)]), (by exact g2), (by exact g3), (by exact g4), (by exact g5), (by exact g6), (by exact g7), (by exact g8)⟩
        · skip
          refine r_Mo_44 T kv0 ?_
          intro x35 ex35 lx35 ux35
          subst ex35
          refine r_Mo_o T kv0 ?_
          refine c_Mod_addItem (v0 := v0) (v1 := 4) (v2 := ((vI h v0 44) + 1)) (v3 := v1) T kv0 (by first | with_reducible assumption | grind | lia) (by first | with_reducible assumption | grind | lia) (by first | with_reducible assumption | grind | lia) (by first | with_reducible assumption | grind | lia) (by first | with_reducible assumption | grind | lia) ?_
          intro r37 Tr37 gr37_0 gr37_1 gr37_2 gr37_3 gr37_4 gr37_5
          refine w_Mo_49 Tr37 kv0 (by first | with_reducible assumption | grind | lia) ?_
          intro h38 Th38 ih38 ah38
          refine r_Mo_44 Th38 kv0 ?_
          intro x39 ex39 lx39 ux39
          subst ex39
          refine w_Mo_44 Th38 kv0 (by first | with_reducible assumption | grind | lia) (by first | with_reducible assumption | grind | lia) (by first | with_reducible assumption | grind | lia) ?_
          intro h40 Th40 ih40 ah40
          unfold f_Mod_escaped_263
          refine r_Mo_41 Th40 kv0 ?_
          intro x1i13 ex1i13 lx1i13 ux1i13
          subst ex1i13
          refine w_Mo_41 Th40 kv0 (by first | with_reducible assumption | grind | lia) (by first | with_reducible assumption | grind | lia) (by first | with_reducible assumption | grind | lia) ?_
          intro h2i13 Th2i13 ih2i13 ah2i13
          refine qk_some ?_
          exact ⟨Th2i13, (by intro a k n0; rw [ih2i13, if_neg (by omega), ih40, if_neg (by omega), ih38, if_neg (by omega), gr37_0 a k (by omega)]), (by intro a j j0 n0; rw [ah2i13, ah40, ah38, gr37_1 a j j0 (by omega)]), (by intro j j0 n; rw [ah2i13, ah40, ah38, gr37_2 j j0 n]), (by intro j j0 jj; rw [ah2i13, ah40, ah38, ah2i13, ah40, ah38]; exact gr37_3 j j0 (q_pf jj rg_half.1 rg_half.2 re_items.1 (Int32.le_trans hi (Int32.le_trans (q_a1 hl rg_length.2) (by decide))))), (by intro bb; exact q_u2 rg_at.1 rg_at.2 (gr2_1 (by assumption)) rg_length.2 (by rw [ih2i13, if_pos ⟨rfl, rfl⟩, ih40, if_neg (fun z => absurd z.2 (by decide)), ih38, if_neg (fun z => absurd z.2 (by decide)), gr37_0 v0 41 (by omega)])), (by intro bb; have bb2 : vI r37 v0 48 = 0 := (by rw [← bb, ih2i13, if_neg (fun z => absurd z.2 (by decide)), ih40, if_neg (fun z => absurd z.2 (by decide)), ih38, if_neg (fun z => absurd z.2 (by decide))]); have z4 := gr37_4 bb2; exact q_ui re_items.1 hi (q_a1 hl rg_length.2) (Or.inr (by rw [ah2i13, ah40, ah38]; exact z4.2.2)) (Or.inr (by rw [ih2i13, if_pos ⟨rfl, rfl⟩, ih40, if_neg (fun z => absurd z.2 (by decide)), ih38, if_neg (fun z => absurd z.2 (by decide)), gr37_0 v0 41 (by omega)]))), (by intro bb; have bb2 : vI r37 v0 48 = 0 := (by rw [← bb, ih2i13, if_neg (fun z => absurd z.2 (by decide)), ih40, if_neg (fun z => absurd z.2 (by decide)), ih38, if_neg (fun z => absurd z.2 (by decide))]); have z4 := gr37_4 bb2; exact q_JM_it (k := 4) (x := (vI h v0 44 + 1)) J rg_half.1 rg_half.2 re_items.1 (Int32.le_trans hi (Int32.le_trans (q_a1 hl rg_length.2) (by decide))) (by rw [ih2i13, if_neg (fun z => absurd z.2 (by decide)), ih40, if_neg (fun z => absurd z.2 (by decide)), ih38, if_neg (fun z => absurd z.2 (by decide)), gr37_0 v0 42 (by omega)]) (fun j j0 jn => by rw [ah2i13, ah40, ah38, ah2i13, ah40, ah38]; exact gr37_3 j j0 jn) (by rw [ah2i13, ah40, ah38]; exact z4.1) (by rw [ah2i13, ah40, ah38]; exact z4.2.1) (by rw [ah2i13, ah40, ah38]; exact z4.2.2) (Or.inr (Or.inr (Or.inl ⟨rfl, by assumption, by lia, rfl, (by rw [ih2i13, if_neg (fun z => absurd z.2 (by decide)), ih40, if_pos ⟨rfl, rfl⟩, ih38, if_neg (fun z => absurd z.2 (by decide)), gr37_0 v0 44 (by omega)]), by rw [ih2i13, if_neg (fun z => absurd z.2 (by decide)), ih40, if_neg (fun z => absurd z.2 (by decide)), ih38, if_pos ⟨rfl, rfl⟩]; decide⟩)))), (by exact q_upn rg_at.1 (q_a1 hl rg_length.2) (Or.inr (Or.inr (Or.inl (by rw [ih2i13, if_pos ⟨rfl, rfl⟩, ih40, if_neg (fun z => absurd z.2 (by decide)), ih38, if_neg (fun z => absurd z.2 (by decide)), gr37_0 v0 41 (by omega)]))))), (by by_cases q : vI r37 v0 48 = 0; exact q_ui8 re_items.1 (Int32.le_trans hi (q_a1 hl rg_length.2)) (Or.inr (by rw [ah2i13, ah40, ah38]; exact (gr37_4 q).2.2)); exact q_ui8 re_items.1 (Int32.le_trans hi (q_a1 hl rg_length.2)) (Or.inl (by rw [ah2i13, ah40, ah38]; exact gr37_5 q)))⟩
      · skip
        refine qk_mono (p_Mod_escaped_68 (v0 := v0) (v1 := v1) (f0 := f0) T kv0 (by first | with_reducible assumption | grind | lia) (by first | with_reducible assumption | grind | lia) (by first | with_reducible assumption | grind | lia) (by first | with_reducible assumption | grind | lia) (by first | with_reducible assumption | grind | lia)) ?_
        rintro hz ⟨Tz, g0, g1, g2, g3, g4, g5, g6, g7, g8⟩
        try dsimp only at *
        exact ⟨Tz, (by intro a k n0; rw [g0 a k (by omega)]), (by intro a j j0 n0; rw [g1 a j j0 (by omega)]), (by exact g2), (by exact g3), (by exact g4), (by exact g5), (by exact g6), (by exact g7), (by exact g8)⟩
    · skip
      refine qk_if (fun cc15 => ?_) (fun cc15 => ?_)
      · skip
        refine r_Mo_49 T kv0 ?_
        intro x24 ex24
        subst ex24
        refine qk_if (fun cc16 => ?_) (fun cc16 => ?_)
        · skip
          refine r_Mo_o T kv0 ?_
          refine c_Mod_wrong (v0 := v0) (v1 := v1) T kv0 (by first | with_reducible assumption | grind | lia) ?_
          intro r30 Tr30 gr30_0 gr30_1 gr30_2
          unfold f_Mod_escaped_137
          refine w_Mo_49 Tr30 kv0 (by first | with_reducible assumption | grind | lia) ?_
          intro h1i17 Th1i17 ih1i17 ah1i17
          unfold f_Mod_escaped_263
          refine r_Mo_41 Th1i17 kv0 ?_
          intro x1i18 ex1i18 lx1i18 ux1i18
          subst ex1i18
          refine w_Mo_41 Th1i17 kv0 (by first | with_reducible assumption | grind | lia) (by first | with_reducible assumption | grind | lia) (by first | with_reducible assumption | grind | lia) ?_
          intro h2i18 Th2i18 ih2i18 ah2i18
          refine qk_some ?_
          exact ⟨Th2i18, (by intro a k n0; rw [ih2i18, if_neg (by omega), ih1i17, if_neg (by omega), gr30_0 a k (by omega)]), (by intro a j j0 n0; rw [ah2i18, ah1i17, gr30_2 a j]), (by intro j j0 n; rw [ah2i18, ah1i17, gr30_2 (v0 + 21) j]), (by intro j j0 jj; rw [ah2i18, ah1i17, gr30_2 (v0 + 26) j, ah2i18, ah1i17, gr30_2 (v0 + 27) j]; exact ⟨rfl, rfl⟩), (by intro bb; rw [ih2i18, if_neg (fun z => absurd z.2 (by decide)), ih1i17, if_neg (fun z => absurd z.2 (by decide))] at bb; exact absurd (bb.symm.trans gr30_1) (by decide)), (by intro bb; rw [ih2i18, if_neg (fun z => absurd z.2 (by decide)), ih1i17, if_neg (fun z => absurd z.2 (by decide))] at bb; exact absurd (bb.symm.trans gr30_1) (by decide)), (by intro bb; rw [ih2i18, if_neg (fun z => absurd z.2 (by decide)), ih1i17, if_neg (fun z => absurd z.2 (by decide))] at bb; exact absurd (bb.symm.trans gr30_1) (by decide)), (by exact q_upn rg_at.1 (q_a1 hl rg_length.2) (Or.inr (Or.inr (Or.inl (by rw [ih2i18, if_pos ⟨rfl, rfl⟩, ih1i17, if_neg (fun z => absurd z.2 (by decide)), gr30_0 v0 41 (by omega)]))))), (by exact q_ui8 re_items.1 (Int32.le_trans hi (q_a1 hl rg_length.2)) (Or.inl (by rw [ah2i18, ah1i17, gr30_2 (v0 + 21) (vI h v0 42)])))⟩
        · skip
          refine r_Mo_44 T kv0 ?_
          intro x26 ex26 lx26 ux26
          subst ex26
          refine r_Mo_o T kv0 ?_
          refine c_Mod_addItem (v0 := v0) (v1 := 5) (v2 := (vI h v0 44)) (v3 := v1) T kv0 (by first | with_reducible assumption | grind | lia) (by first | with_reducible assumption | grind | lia) (by first | with_reducible assumption | grind | lia) (by first | with_reducible assumption | grind | lia) (by first | with_reducible assumption | grind | lia) ?_
          intro r28 Tr28 gr28_0 gr28_1 gr28_2 gr28_3 gr28_4 gr28_5
          unfold f_Mod_escaped_137
          refine w_Mo_49 Tr28 kv0 (by first | with_reducible assumption | grind | lia) ?_
          intro h1i19 Th1i19 ih1i19 ah1i19
          unfold f_Mod_escaped_263
          refine r_Mo_41 Th1i19 kv0 ?_
          intro x1i20 ex1i20 lx1i20 ux1i20
          subst ex1i20
          refine w_Mo_41 Th1i19 kv0 (by first | with_reducible assumption | grind | lia) (by first | with_reducible assumption | grind | lia) (by first | with_reducible assumption | grind | lia) ?_
          intro h2i20 Th2i20 ih2i20 ah2i20
          refine qk_some ?_
          exact ⟨Th2i20, (by intro a k n0; rw [ih2i20, if_neg (by omega), ih1i19, if_neg (by omega), gr28_0 a k (by omega)]), (by intro a j j0 n0; rw [ah2i20, ah1i19, gr28_1 a j j0 (by omega)]), (by intro j j0 n; rw [ah2i20, ah1i19, gr28_2 j j0 n]), (by intro j j0 jj; rw [ah2i20, ah1i19, ah2i20, ah1i19]; exact gr28_3 j j0 (q_pf jj rg_half.1 rg_half.2 re_items.1 (Int32.le_trans hi (Int32.le_trans (q_a1 hl rg_length.2) (by decide))))), (by intro bb; exact q_u2 rg_at.1 rg_at.2 (gr2_1 (by assumption)) rg_length.2 (by rw [ih2i20, if_pos ⟨rfl, rfl⟩, ih1i19, if_neg (fun z => absurd z.2 (by decide)), gr28_0 v0 41 (by omega)])), (by intro bb; have bb2 : vI r28 v0 48 = 0 := (by rw [← bb, ih2i20, if_neg (fun z => absurd z.2 (by decide)), ih1i19, if_neg (fun z => absurd z.2 (by decide))]); have z4 := gr28_4 bb2; exact q_ui re_items.1 hi (q_a1 hl rg_length.2) (Or.inr (by rw [ah2i20, ah1i19]; exact z4.2.2)) (Or.inr (by rw [ih2i20, if_pos ⟨rfl, rfl⟩, ih1i19, if_neg (fun z => absurd z.2 (by decide)), gr28_0 v0 41 (by omega)]))), (by intro bb; have bb2 : vI r28 v0 48 = 0 := (by rw [← bb, ih2i20, if_neg (fun z => absurd z.2 (by decide)), ih1i19, if_neg (fun z => absurd z.2 (by decide))]); have z4 := gr28_4 bb2; exact q_JM_it (k := 5) (x := (vI h v0 44)) J rg_half.1 rg_half.2 re_items.1 (Int32.le_trans hi (Int32.le_trans (q_a1 hl rg_length.2) (by decide))) (by rw [ih2i20, if_neg (fun z => absurd z.2 (by decide)), ih1i19, if_neg (fun z => absurd z.2 (by decide)), gr28_0 v0 42 (by omega)]) (fun j j0 jn => by rw [ah2i20, ah1i19, ah2i20, ah1i19]; exact gr28_3 j j0 jn) (by rw [ah2i20, ah1i19]; exact z4.1) (by rw [ah2i20, ah1i19]; exact z4.2.1) (by rw [ah2i20, ah1i19]; exact z4.2.2) (Or.inr (Or.inr (Or.inr ⟨rfl, by assumption, rfl, (by rw [ih2i20, if_neg (fun z => absurd z.2 (by decide)), ih1i19, if_neg (fun z => absurd z.2 (by decide)), gr28_0 v0 44 (by omega)]), (by rw [ih2i20, if_neg (fun z => absurd z.2 (by decide)), ih1i19, if_pos ⟨rfl, rfl⟩])⟩)))), (by exact q_upn rg_at.1 (q_a1 hl rg_length.2) (Or.inr (Or.inr (Or.inl (by rw [ih2i20, if_pos ⟨rfl, rfl⟩, ih1i19, if_neg (fun z => absurd z.2 (by decide)), gr28_0 v0 41 (by omega)]))))), (by by_cases q : vI r28 v0 48 = 0; exact q_ui8 re_items.1 (Int32.le_trans hi (q_a1 hl rg_length.2)) (Or.inr (by rw [ah2i20, ah1i19]; exact (gr28_4 q).2.2)); exact q_ui8 re_items.1 (Int32.le_trans hi (q_a1 hl rg_length.2)) (Or.inl (by rw [ah2i20, ah1i19]; exact gr28_5 q)))⟩
      · skip
        refine c_Mod_in (v0 := (yr2)) (v1 := 49) (v2 := 51) T ?_
        intro yr7 gr7_0 gr7_1
        dsimp only
        refine qk_if (fun cc21 => ?_) (fun cc21 => ?_)
        · skip
          refine qk_if (fun cc22 => ?_) (fun cc22 => ?_)
          · skip
            refine qk_mono (p_Mod_escaped_248 (v0 := v0) (v1 := v1) (v2 := (yr2)) (f0 := f0) T kv0 (by first | with_reducible assumption | grind | lia) (by first | with_reducible assumption | grind | lia) (by first | with_reducible assumption | grind | lia) (by first | with_reducible assumption | grind | lia) (by first | with_reducible assumption | grind | lia)) ?_
            rintro hz ⟨Tz, g0, g1, g2, g3, g4, g5, g6, g7, g8⟩
            try dsimp only at *
            exact ⟨Tz, (by intro a k n0; rw [g0 a k (by omega)]), (by intro a j j0 n0; rw [g1 a j j0 (by omega)]), (by exact g2), (by exact g3), (by exact g4), (by exact g5), (by exact g6), (by exact g7), (by exact g8)⟩
          · skip
            refine qk_if (fun cc24 => ?_) (fun cc24 => ?_)
            · skip
              refine qk_mono (p_Mod_escaped_248 (v0 := v0) (v1 := v1) (v2 := (yr2)) (f0 := f0) T kv0 (by first | with_reducible assumption | grind | lia) (by first | with_reducible assumption | grind | lia) (by first | with_reducible assumption | grind | lia) (by first | with_reducible assumption | grind | lia) (by first | with_reducible assumption | grind | lia)) ?_
              rintro hz ⟨Tz, g0, g1, g2, g3, g4, g5, g6, g7, g8⟩
              try dsimp only at *
              exact ⟨Tz, (by intro a k n0; rw [g0 a k (by omega)]), (by intro a j j0 n0; rw [g1 a j j0 (by omega)]), (by exact g2), (by exact g3), (by exact g4), (by exact g5), (by exact g6), (by exact g7), (by exact g8)⟩
            · skip
              refine qk_if (fun cc26 => ?_) (fun cc26 => ?_)
              · skip
                refine qk_mono (p_Mod_escaped_248 (v0 := v0) (v1 := v1) (v2 := (yr2)) (f0 := f0) T kv0 (by first | with_reducible assumption | grind | lia) (by first | with_reducible assumption | grind | lia) (by first | with_reducible assumption | grind | lia) (by first | with_reducible assumption | grind | lia) (by first | with_reducible assumption | grind | lia)) ?_
                rintro hz ⟨Tz, g0, g1, g2, g3, g4, g5, g6, g7, g8⟩
                try dsimp only at *
                exact ⟨Tz, (by intro a k n0; rw [g0 a k (by omega)]), (by intro a j j0 n0; rw [g1 a j j0 (by omega)]), (by exact g2), (by exact g3), (by exact g4), (by exact g5), (by exact g6), (by exact g7), (by exact g8)⟩
              · skip
                refine qk_if (fun cc28 => ?_) (fun cc28 => ?_)
                · skip
                  refine qk_mono (p_Mod_escaped_248 (v0 := v0) (v1 := v1) (v2 := (yr2)) (f0 := f0) T kv0 (by first | with_reducible assumption | grind | lia) (by first | with_reducible assumption | grind | lia) (by first | with_reducible assumption | grind | lia) (by first | with_reducible assumption | grind | lia) (by first | with_reducible assumption | grind | lia)) ?_
                  rintro hz ⟨Tz, g0, g1, g2, g3, g4, g5, g6, g7, g8⟩
                  try dsimp only at *
                  exact ⟨Tz, (by intro a k n0; rw [g0 a k (by omega)]), (by intro a j j0 n0; rw [g1 a j j0 (by omega)]), (by exact g2), (by exact g3), (by exact g4), (by exact g5), (by exact g6), (by exact g7), (by exact g8)⟩
                · skip
                  refine qk_if (fun cc30 => ?_) (fun cc30 => ?_)
                  · skip
                    refine qk_mono (p_Mod_escaped_248 (v0 := v0) (v1 := v1) (v2 := (yr2)) (f0 := f0) T kv0 (by first | with_reducible assumption | grind | lia) (by first | with_reducible assumption | grind | lia) (by first | with_reducible assumption | grind | lia) (by first | with_reducible assumption | grind | lia) (by first | with_reducible assumption | grind | lia)) ?_
                    rintro hz ⟨Tz, g0, g1, g2, g3, g4, g5, g6, g7, g8⟩
                    try dsimp only at *
                    exact ⟨Tz, (by intro a k n0; rw [g0 a k (by omega)]), (by intro a j j0 n0; rw [g1 a j j0 (by omega)]), (by exact g2), (by exact g3), (by exact g4), (by exact g5), (by exact g6), (by exact g7), (by exact g8)⟩
                  · skip
                    refine qk_if (fun cc32 => ?_) (fun cc32 => ?_)
                    · skip
                      refine qk_mono (p_Mod_escaped_248 (v0 := v0) (v1 := v1) (v2 := (yr2)) (f0 := f0) T kv0 (by first | with_reducible assumption | grind | lia) (by first | with_reducible assumption | grind | lia) (by first | with_reducible assumption | grind | lia) (by first | with_reducible assumption | grind | lia) (by first | with_reducible assumption | grind | lia)) ?_
                      rintro hz ⟨Tz, g0, g1, g2, g3, g4, g5, g6, g7, g8⟩
                      try dsimp only at *
                      exact ⟨Tz, (by intro a k n0; rw [g0 a k (by omega)]), (by intro a j j0 n0; rw [g1 a j j0 (by omega)]), (by exact g2), (by exact g3), (by exact g4), (by exact g5), (by exact g6), (by exact g7), (by exact g8)⟩
                    · skip
                      refine qk_if (fun cc34 => ?_) (fun cc34 => ?_)
                      · skip
                        refine qk_mono (p_Mod_escaped_248 (v0 := v0) (v1 := v1) (v2 := (yr2)) (f0 := f0) T kv0 (by first | with_reducible assumption | grind | lia) (by first | with_reducible assumption | grind | lia) (by first | with_reducible assumption | grind | lia) (by first | with_reducible assumption | grind | lia) (by first | with_reducible assumption | grind | lia)) ?_
                        rintro hz ⟨Tz, g0, g1, g2, g3, g4, g5, g6, g7, g8⟩
                        try dsimp only at *
                        exact ⟨Tz, (by intro a k n0; rw [g0 a k (by omega)]), (by intro a j j0 n0; rw [g1 a j j0 (by omega)]), (by exact g2), (by exact g3), (by exact g4), (by exact g5), (by exact g6), (by exact g7), (by exact g8)⟩
                      · skip
                        refine r_Mo_o T kv0 ?_
                        refine c_Mod_wrong (v0 := v0) (v1 := v1) T kv0 (by first | with_reducible assumption | grind | lia) ?_
                        intro r17 Tr17 gr17_0 gr17_1 gr17_2
                        unfold f_Mod_escaped_263
                        refine r_Mo_41 Tr17 kv0 ?_
                        intro x1i36 ex1i36 lx1i36 ux1i36
                        subst ex1i36
                        refine w_Mo_41 Tr17 kv0 (by first | with_reducible assumption | grind | lia) (by first | with_reducible assumption | grind | lia) (by first | with_reducible assumption | grind | lia) ?_
                        intro h2i36 Th2i36 ih2i36 ah2i36
                        refine qk_some ?_
                        exact ⟨Th2i36, (by intro a k n0; rw [ih2i36, if_neg (by omega), gr17_0 a k (by omega)]), (by intro a j j0 n0; rw [ah2i36, gr17_2 a j]), (by intro j j0 n; rw [ah2i36, gr17_2 (v0 + 21) j]), (by intro j j0 jj; rw [ah2i36, gr17_2 (v0 + 26) j, ah2i36, gr17_2 (v0 + 27) j]; exact ⟨rfl, rfl⟩), (by intro bb; rw [ih2i36, if_neg (fun z => absurd z.2 (by decide))] at bb; exact absurd (bb.symm.trans gr17_1) (by decide)), (by intro bb; rw [ih2i36, if_neg (fun z => absurd z.2 (by decide))] at bb; exact absurd (bb.symm.trans gr17_1) (by decide)), (by intro bb; rw [ih2i36, if_neg (fun z => absurd z.2 (by decide))] at bb; exact absurd (bb.symm.trans gr17_1) (by decide)), (by exact q_upn rg_at.1 (q_a1 hl rg_length.2) (Or.inr (Or.inr (Or.inl (by rw [ih2i36, if_pos ⟨rfl, rfl⟩, gr17_0 v0 41 (by omega)]))))), (by exact q_ui8 re_items.1 (Int32.le_trans hi (q_a1 hl rg_length.2)) (Or.inl (by rw [ah2i36, gr17_2 (v0 + 21) (vI h v0 42)])))⟩
        · skip
          refine r_Mo_44 T kv0 ?_
          intro x18 ex18 lx18 ux18
          subst ex18
          refine qk_if (fun cc37 => ?_) (fun cc37 => ?_)
          · skip
            refine qk_mono (p_Mod_escaped_185 (v0 := v0) (v1 := v1) (f0 := f0) T kv0 (by first | with_reducible assumption | grind | lia) (by first | with_reducible assumption | grind | lia) (by first | with_reducible assumption | grind | lia) (by first | with_reducible assumption | grind | lia) (by first | with_reducible assumption | grind | lia)) ?_
            rintro hz ⟨Tz, g0, g1, g2, g3, g4, g5, g6, g7, g8⟩
            try dsimp only at *
            exact ⟨Tz, (by intro a k n0; rw [g0 a k (by omega)]), (by intro a j j0 n0; rw [g1 a j j0 (by omega)]), (by exact g2), (by exact g3), (by exact g4), (by exact g5), (by exact g6), (by exact g7), (by exact g8)⟩
          · skip
            refine r_Mo_44 T kv0 ?_
            intro x20 ex20 lx20 ux20
            subst ex20
            refine qk_if (fun cc39 => ?_) (fun cc39 => ?_)
            · skip
              refine r_Mo_49 T kv0 ?_
              intro x22 ex22
              subst ex22
              refine qk_if (fun cc40 => ?_) (fun cc40 => ?_)
              · skip
                refine qk_mono (p_Mod_escaped_193 (v0 := v0) (v1 := v1) (v2 := (yr2)) (f0 := f0) T kv0 (by first | with_reducible assumption | grind | lia) (by first | with_reducible assumption | grind | lia) (by first | with_reducible assumption | grind | lia) (by first | with_reducible assumption | grind | lia) (by first | with_reducible assumption | grind | lia) (by first | with_reducible assumption | grind | lia) (by first | with_reducible assumption | grind | lia) (by first | with_reducible assumption | grind | lia)) ?_
                rintro hz ⟨Tz, g0, g1, g2, g3, g4, g5, g6, g7, g8⟩
                try dsimp only at *
                exact ⟨Tz, (by intro a k n0; rw [g0 a k (by omega)]), (by intro a j j0 n0; rw [g1 a j j0 (by omega)]), (by exact g2), (by exact g3), (by exact g4), (by exact g5), (by exact g6), (by exact g7), (by exact g8)⟩
              · skip
                refine qk_mono (p_Mod_escaped_185 (v0 := v0) (v1 := v1) (f0 := f0) T kv0 (by first | with_reducible assumption | grind | lia) (by first | with_reducible assumption | grind | lia) (by first | with_reducible assumption | grind | lia) (by first | with_reducible assumption | grind | lia) (by first | with_reducible assumption | grind | lia)) ?_
                rintro hz ⟨Tz, g0, g1, g2, g3, g4, g5, g6, g7, g8⟩
                try dsimp only at *
                exact ⟨Tz, (by intro a k n0; rw [g0 a k (by omega)]), (by intro a j j0 n0; rw [g1 a j j0 (by omega)]), (by exact g2), (by exact g3), (by exact g4), (by exact g5), (by exact g6), (by exact g7), (by exact g8)⟩
            · skip
              refine qk_mono (p_Mod_escaped_193 (v0 := v0) (v1 := v1) (v2 := (yr2)) (f0 := f0) T kv0 (by first | with_reducible assumption | grind | lia) (by first | with_reducible assumption | grind | lia) (by first | with_reducible assumption | grind | lia) (by first | with_reducible assumption | grind | lia) (by first | with_reducible assumption | grind | lia) (by first | with_reducible assumption | grind | lia) (by first | with_reducible assumption | grind | lia) (by first | with_reducible assumption | grind | lia)) ?_
              rintro hz ⟨Tz, g0, g1, g2, g3, g4, g5, g6, g7, g8⟩
              try dsimp only at *
              exact ⟨Tz, (by intro a k n0; rw [g0 a k (by omega)]), (by intro a j j0 n0; rw [g1 a j j0 (by omega)]), (by exact g2), (by exact g3), (by exact g4), (by exact g5), (by exact g6), (by exact g7), (by exact g8)⟩
theorem c_Mod_escaped {L : q_L} {W : Nat → Prop} {h0 : z_H} {π : Nat → Nat → Option Nat} {N : Nat} {f0 : Int32} {h : z_H} {v0 : Nat} {v1 : Int32} {β : Type} {f : z_H → Option β} {Q : β → Prop} (T : q_U L W h0 π h) (kv0 : q_M L π v0) (wM : ∀ a, v0 ≤ a → a < v0 + 46 → W a) (bd : vI h v0 48 = 0) (hl : vI h v0 41 < vI h v0 3) (hi : vA h (v0 + 21) (vI h v0 42) ≤ vI h v0 41) (J : q_JM (vA h (v0 + 26)) (vA h (v0 + 27)) f0 (260 * vI h v0 42 + vA h (v0 + 21) (vI h v0 42)) (vI h v0 44) (vI h v0 49) (vI h v0 50)) (H : ∀ h', q_U L W h0 π h' → (∀ a k, ¬ (a = v0 ∧ (k = 5 ∨ k = 46 ∨ k = 48 ∨ k = 50 ∨ k = 41 ∨ k = 44 ∨ k = 49 ∨ k = 45)) → vI h' a k = vI h a k) → (∀ a j, 0 ≤ j → ¬ (a = v0 + 21 ∨ a = v0 + 26 ∨ a = v0 + 27 ∨ a = v0 + 29) → vA h' a j = vA h a j) → (∀ j, 0 ≤ j → j ≠ vI h v0 42 → vA h' (v0 + 21) j = vA h (v0 + 21) j) → (∀ j, 0 ≤ j → (j < (260 * vI h v0 42 + vA h (v0 + 21) (vI h v0 42)) ∨ 260 * vI h v0 42 + 260 ≤ j) → vA h' (v0 + 26) j = vA h (v0 + 26) j ∧ vA h' (v0 + 27) j = vA h (v0 + 27) j) → (vI h' v0 48 = 0 → vI h v0 41 < vI h' v0 41 ∧ vI h' v0 41 ≤ vI h v0 3) → (vI h' v0 48 = 0 → vA h' (v0 + 21) (vI h v0 42) ≤ vI h' v0 41) → (vI h' v0 48 = 0 → q_JM (vA h' (v0 + 26)) (vA h' (v0 + 27)) f0 (260 * vI h' v0 42 + vA h' (v0 + 21) (vI h' v0 42)) (vI h' v0 44) (vI h' v0 49) (vI h' v0 50)) → (vI h v0 41 ≤ vI h' v0 41 ∧ vI h' v0 41 ≤ 242) → (vA h (v0 + 21) (vI h v0 42) ≤ vA h' (v0 + 21) (vI h v0 42) ∧ vA h' (v0 + 21) (vI h v0 42) ≤ 241) → qk (f h') Q) : qk (z_b (f_Mod_escaped N v0 v1 h) f) Q := by
  refine qk_b (p_Mod_escaped T kv0 wM bd hl hi J) ?_
  rintro hz ⟨Tz, g0, g1, g2, g3, g4, g5, g6, g7, g8⟩
  exact H hz Tz g0 g1 g2 g3 g4 g5 g6 g7 g8

