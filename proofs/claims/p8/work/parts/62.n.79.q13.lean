set_option maxHeartbeats 4000000 in
theorem ii_Mod_readText_32 {L : q_L} {π : Nat → Nat → Option Nat} {N : Nat} {t : Int32 → Int32} {n : Int32} : ∀ (m9 : Nat) (v0 : Nat) (v1 : Int32) (h : z_H), x_U L π h → q_M L π v0 → (∀ j, 0 ≤ j → j < n → vA h (v0 + 1) j = t j) → (vI h v0 3 = n) → (n ≤ 240) → (∀ j, t j ≠ -1) → (vI h v0 48 = 0 → 0 ≤ vI h v0 41) → (vI h v0 48 = 0 → ((0 ≤ vA h (v0 + 22) (vI h v0 42) ∧ vA h (v0 + 22) (vI h v0 42) ≤ vI h v0 41) ∧ (vI h v0 42 = 0 ∨ vI h v0 42 = 1)) ∧ vI h v0 41 ≤ n) → qi (f_Mod_readText_32 N m9 v0 v1 h) (fun r => x_U L π r ∧ (((vI r v0 48 = 0) ∧ (vI h v0 48 = 0) ∧ (vI r v0 41 = x_nl t n (vI h v0 41)) ∧ (vI h v0 41 ≤ vI r v0 41 ∧ vI r v0 41 ≤ n) ∧ (vA r (v0 + 22) (vI h v0 42) = vA h (v0 + 22) (vI h v0 42) + (vI r v0 41 - vI h v0 41)) ∧ (r_SW r v0 (300 * vI h v0 42 + vA h (v0 + 22) (vI h v0 42)) t (vI h v0 41) (vI r v0 41 - vI h v0 41)) ∧ (r_SK h r v0 (300 * vI h v0 42 + vA h (v0 + 22) (vI h v0 42)) (300 * vI h v0 42 + 300)) ∧ (∀ a k, ¬ ((a = v0 ∧ k = 41)) → vI r a k = vI h a k) ∧ (∀ a, ¬ (a = (v0 + 11) ∨ a = (v0 + 28) ∨ a = (v0 + 22)) → vA r a = vA h a) ∧ (∀ a, ¬ (a < a) → vL r a = vL h a)) ∨ ((¬ vI r v0 48 = 0) ∧ (¬ vI h v0 48 = 0) ∧ (vA r (v0 + 28) = vA h (v0 + 28)) ∧ (∀ a k, ¬ ((a = v0 ∧ k = 41)) → vI r a k = vI h a k) ∧ (∀ a, ¬ (a = (v0 + 11) ∨ a = (v0 + 28) ∨ a = (v0 + 22)) → vA r a = vA h a) ∧ (∀ a, ¬ (a < a) → vL r a = vL h a)))) := by
  intro m9
  induction m9 with
  | zero => intro v0 v1 h T kv0 ht hn n1 tp a0 cb r e; rw [f_Mod_readText_32] at e; cases e
  | succ m9 ih =>
    intro v0 v1 h T kv0 ht hn n1 tp a0 cb
    rw [f_Mod_readText_32]
    have n2 : n ≤ 1000 := Int32.le_trans n1 (by decide)
    refine l_gI (e := (vI h v0 48)) rfl ?_
    refine qi_if (fun cc1 => ?_) (fun cc1 => ?_)
    · skip
      have a0 := a0 cc1
      have cb := cb cc1
      refine l_gO ?_
      refine jj_Mod_here (v0 := v0) (t := t) (n := n) (e := (x_lk t n (vI h v0 41))) T kv0 ht hn rfl ?_
      try dsimp only
      refine qi_if (fun cc3 => ?_) (fun cc3 => ?_)
      · skip
        unfold f_Mod_readText_77
        refine l_gR T (d_Mo_16 kv0) ?_
        refine l_gO ?_
        refine jj_Mod_stored (v0 := v0) (e := (300 * vI h v0 42 + vA h (v0 + 22) (vI h v0 42))) T kv0 rfl ?_
        try dsimp only
        refine o_uI T ?_
        intro h4i4_6 Th4i4_6 jh4i4_6 ih4i4_6 ah4i4_6 bh4i4_6 lh4i4_6
        refine qi_some ?_
        exact ⟨Th4i4_6, Or.inl ⟨(by show vI h4i4_6 v0 48 = 0; rw [show vI h4i4_6 v0 48 = (vI h v0 48) from (by rw [ih4i4_6 v0 48])] <;> (first | assumption | with_reducible rfl | grind)), (by show vI h v0 48 = 0; first | assumption | with_reducible rfl | grind), (by show vI h4i4_6 v0 41 = x_nl t n (vI h v0 41); rw [show vI h4i4_6 v0 41 = (vI h v0 41) from (by rw [ih4i4_6 v0 41])] <;> (exact (x_nl_out (x_lk_no tp cc3)).symm)), (by show vI h v0 41 ≤ vI h4i4_6 v0 41 ∧ vI h4i4_6 v0 41 ≤ n; rw [show vI h4i4_6 v0 41 = (vI h v0 41) from (by rw [ih4i4_6 v0 41])] <;> (exact ⟨Int32.le_refl _, cb.2⟩)), (by show vA h4i4_6 (v0 + 22) (vI h v0 42) = vA h (v0 + 22) (vI h v0 42) + (vI h4i4_6 v0 41 - vI h v0 41); rw [show vA h4i4_6 (v0 + 22) = vA h (v0 + 22) from (by rw [bh4i4_6 (v0 + 22) (by omega)]), show vI h4i4_6 v0 41 = (vI h v0 41) from (by rw [ih4i4_6 v0 41])] <;> (exact x_ch0)), (by show r_SW h4i4_6 v0 (300 * vI h v0 42 + vA h (v0 + 22) (vI h v0 42)) t (vI h v0 41) (vI h4i4_6 v0 41 - vI h v0 41); rw [show vI h4i4_6 v0 41 = (vI h v0 41) from (by rw [ih4i4_6 v0 41])] <;> (exact r_SW_0)), (by show r_SK h h4i4_6 v0 (300 * vI h v0 42 + vA h (v0 + 22) (vI h v0 42)) (300 * vI h v0 42 + 300); exact r_SK_a (by show vA h4i4_6 (v0 + 28) = vA h (v0 + 28); rw [show vA h4i4_6 (v0 + 28) = vA h (v0 + 28) from (by rw [bh4i4_6 (v0 + 28) (by omega)])] <;> (first | assumption | with_reducible rfl | grind))), (fun a k na => by rw [ih4i4_6 a k]), (fun a na => by rw [bh4i4_6 a (fun z => na (Or.inl z))]), (fun a na => by rw [lh4i4_6 a])⟩⟩
      · skip
        refine l_gO ?_
        refine jj_Mod_here (v0 := v0) (t := t) (n := n) (e := (x_lk t n (vI h v0 41))) T kv0 ht hn rfl ?_
        try dsimp only
        refine qi_if (fun cc8 => ?_) (fun cc8 => ?_)
        · skip
          unfold f_Mod_readText_77
          refine l_gR T (d_Mo_16 kv0) ?_
          refine l_gO ?_
          refine jj_Mod_stored (v0 := v0) (e := (300 * vI h v0 42 + vA h (v0 + 22) (vI h v0 42))) T kv0 rfl ?_
          try dsimp only
          refine o_uI T ?_
          intro h4i9_11 Th4i9_11 jh4i9_11 ih4i9_11 ah4i9_11 bh4i9_11 lh4i9_11
          refine qi_some ?_
          exact ⟨Th4i9_11, Or.inl ⟨(by show vI h4i9_11 v0 48 = 0; rw [show vI h4i9_11 v0 48 = (vI h v0 48) from (by rw [ih4i9_11 v0 48])] <;> (first | assumption | with_reducible rfl | grind)), (by show vI h v0 48 = 0; first | assumption | with_reducible rfl | grind), (by show vI h4i9_11 v0 41 = x_nl t n (vI h v0 41); rw [show vI h4i9_11 v0 41 = (vI h v0 41) from (by rw [ih4i9_11 v0 41])] <;> (exact (x_nl_10 n2 (x_lk_in cc8 (by decide)).1 (x_lk_in cc8 (by decide)).2).symm)), (by show vI h v0 41 ≤ vI h4i9_11 v0 41 ∧ vI h4i9_11 v0 41 ≤ n; rw [show vI h4i9_11 v0 41 = (vI h v0 41) from (by rw [ih4i9_11 v0 41])] <;> (exact ⟨Int32.le_refl _, cb.2⟩)), (by show vA h4i9_11 (v0 + 22) (vI h v0 42) = vA h (v0 + 22) (vI h v0 42) + (vI h4i9_11 v0 41 - vI h v0 41); rw [show vA h4i9_11 (v0 + 22) = vA h (v0 + 22) from (by rw [bh4i9_11 (v0 + 22) (by omega)]), show vI h4i9_11 v0 41 = (vI h v0 41) from (by rw [ih4i9_11 v0 41])] <;> (exact x_ch0)), (by show r_SW h4i9_11 v0 (300 * vI h v0 42 + vA h (v0 + 22) (vI h v0 42)) t (vI h v0 41) (vI h4i9_11 v0 41 - vI h v0 41); rw [show vI h4i9_11 v0 41 = (vI h v0 41) from (by rw [ih4i9_11 v0 41])] <;> (exact r_SW_0)), (by show r_SK h h4i9_11 v0 (300 * vI h v0 42 + vA h (v0 + 22) (vI h v0 42)) (300 * vI h v0 42 + 300); exact r_SK_a (by show vA h4i9_11 (v0 + 28) = vA h (v0 + 28); rw [show vA h4i9_11 (v0 + 28) = vA h (v0 + 28) from (by rw [bh4i9_11 (v0 + 28) (by omega)])] <;> (first | assumption | with_reducible rfl | grind))), (fun a k na => by rw [ih4i9_11 a k]), (fun a na => by rw [bh4i9_11 a (fun z => na (Or.inl z))]), (fun a na => by rw [lh4i9_11 a])⟩⟩
        · skip
          refine l_gO ?_
          refine jj_Mod_here (v0 := v0) (t := t) (n := n) (e := (x_lk t n (vI h v0 41))) T kv0 ht hn rfl ?_
          try dsimp only
          refine l_gO ?_
          refine jj_Mod_keep (v0 := v0) (v1 := ((x_lk t n (vI h v0 41)))) T kv0 ?_
          intro hr12_13 Thr12_13 gr12_13_0 gr12_13_1 gr12_13_2 fr12_13_I fr12_13_A fr12_13_L
          try dsimp only
          refine l_gI (e := (vI h v0 41)) (by rw [fr12_13_I v0 41 (by omega)]) ?_
          refine o_sI Thr12_13 (q_Mk kv0) (by decide) rfl ?_
          intro h14_14 Th14_14 ih14_14 ah14_14 lh14_14
          refine qi_mono (ih v0 v1 h14_14 Th14_14 kv0 (by show ∀ j, 0 ≤ j → j < n → vA h14_14 (v0 + 1) j = t j; rw [show vA h14_14 (v0 + 1) = vA h (v0 + 1) from (by rw [ah14_14 (v0 + 1), fr12_13_A (v0 + 1) (by omega)])] <;> (first | assumption | with_reducible rfl | grind)) (by show vI h14_14 v0 3 = n; rw [show vI h14_14 v0 3 = (vI h v0 3) from (by rw [ih14_14 v0 3, if_neg (fun z => absurd z.2 (by decide)), fr12_13_I v0 3 (by omega)])] <;> (first | assumption | with_reducible rfl | grind)) n1 tp (by show vI h14_14 v0 48 = 0 → 0 ≤ vI h14_14 v0 41; rw [show vI h14_14 v0 48 = (vI h v0 48) from (by rw [ih14_14 v0 48, if_neg (fun z => absurd z.2 (by decide)), fr12_13_I v0 48 (by omega)]), show vI h14_14 v0 41 = ((vI h v0 41) + 1) from (by rw [ih14_14 v0 41, if_pos ⟨rfl, rfl⟩])] <;> (intro z9; exact x_0le a0 (x_lp1 n2 (t := t) cc3))) (by show vI h14_14 v0 48 = 0 → ((0 ≤ vA h14_14 (v0 + 22) (vI h14_14 v0 42) ∧ vA h14_14 (v0 + 22) (vI h14_14 v0 42) ≤ vI h14_14 v0 41) ∧ (vI h14_14 v0 42 = 0 ∨ vI h14_14 v0 42 = 1)) ∧ vI h14_14 v0 41 ≤ n; rw [show vI h14_14 v0 48 = (vI h v0 48) from (by rw [ih14_14 v0 48, if_neg (fun z => absurd z.2 (by decide)), fr12_13_I v0 48 (by omega)]), show vA h14_14 (v0 + 22) = vA hr12_13 (v0 + 22) from (by rw [ah14_14 (v0 + 22)]), show vI h14_14 v0 42 = (vI h v0 42) from (by rw [ih14_14 v0 42, if_neg (fun z => absurd z.2 (by decide)), fr12_13_I v0 42 (by omega)]), show vA hr12_13 (v0 + 22) (vI h v0 42) = (vA h (v0 + 22) (vI h v0 42) + 1) from (by rw [gr12_13_0]), show vI h14_14 v0 41 = ((vI h v0 41) + 1) from (by rw [ih14_14 v0 41, if_pos ⟨rfl, rfl⟩])] <;> (intro z9; exact r_cb1 cb n1 (x_lkn cc3)))) ?_
          rintro hrz15_16 ⟨Thrz15_16, ⟨g1rz15_16_0, g1rz15_16_1, g1rz15_16_2, g1rz15_16_3, g1rz15_16_4, g1rz15_16_5, g1rz15_16_6, f1rz15_16_I, f1rz15_16_A, f1rz15_16_L⟩ | ⟨g0rz15_16_0, g0rz15_16_1, g0rz15_16_2, f0rz15_16_I, f0rz15_16_A, f0rz15_16_L⟩⟩
          · try dsimp only at *
            rw [show vI h14_14 v0 41 = ((vI h v0 41) + 1) from (by rw [ih14_14 v0 41, if_pos ⟨rfl, rfl⟩])] at g1rz15_16_2
            rw [show vI h14_14 v0 42 = (vI h v0 42) from (by rw [ih14_14 v0 42, if_neg (fun z => absurd z.2 (by decide)), fr12_13_I v0 42 (by omega)]), show vA h14_14 (v0 + 22) = vA hr12_13 (v0 + 22) from (by rw [ah14_14 (v0 + 22)]), show vA hr12_13 (v0 + 22) (vI h v0 42) = (vA h (v0 + 22) (vI h v0 42) + 1) from (by rw [gr12_13_0]), show vI h14_14 v0 41 = ((vI h v0 41) + 1) from (by rw [ih14_14 v0 41, if_pos ⟨rfl, rfl⟩])] at g1rz15_16_4
            rw [show vI h14_14 v0 48 = (vI h v0 48) from (by rw [ih14_14 v0 48, if_neg (fun z => absurd z.2 (by decide)), fr12_13_I v0 48 (by omega)])] at g1rz15_16_1
            rw [show vI h14_14 v0 41 = ((vI h v0 41) + 1) from (by rw [ih14_14 v0 41, if_pos ⟨rfl, rfl⟩]), show vI hrz15_16 v0 41 = (x_nl t n ((vI h v0 41) + 1)) from (by rw [g1rz15_16_2])] at g1rz15_16_3
            rw [show vI h14_14 v0 42 = (vI h v0 42) from (by rw [ih14_14 v0 42, if_neg (fun z => absurd z.2 (by decide)), fr12_13_I v0 42 (by omega)]), show vA h14_14 (v0 + 22) = vA hr12_13 (v0 + 22) from (by rw [ah14_14 (v0 + 22)]), show vA hr12_13 (v0 + 22) (vI h v0 42) = (vA h (v0 + 22) (vI h v0 42) + 1) from (by rw [gr12_13_0]), show vI h14_14 v0 41 = ((vI h v0 41) + 1) from (by rw [ih14_14 v0 41, if_pos ⟨rfl, rfl⟩]), show vI hrz15_16 v0 41 = (x_nl t n ((vI h v0 41) + 1)) from (by rw [g1rz15_16_2])] at g1rz15_16_5
            rw [show vI h14_14 v0 42 = (vI h v0 42) from (by rw [ih14_14 v0 42, if_neg (fun z => absurd z.2 (by decide)), fr12_13_I v0 42 (by omega)]), show vA h14_14 (v0 + 22) = vA hr12_13 (v0 + 22) from (by rw [ah14_14 (v0 + 22)]), show vA hr12_13 (v0 + 22) (vI h v0 42) = (vA h (v0 + 22) (vI h v0 42) + 1) from (by rw [gr12_13_0])] at g1rz15_16_6
            exact ⟨Thrz15_16, Or.inl ⟨(by show vI hrz15_16 v0 48 = 0; rw [show vI hrz15_16 v0 48 = 0 from (by rw [g1rz15_16_0])] <;> (first | assumption | with_reducible rfl | grind)), (by show vI h v0 48 = 0; first | assumption | with_reducible rfl | grind), (by show vI hrz15_16 v0 41 = x_nl t n (vI h v0 41); rw [show vI hrz15_16 v0 41 = (x_nl t n ((vI h v0 41) + 1)) from (by rw [g1rz15_16_2])] <;> (exact (x_nl_st n2 (x_lk_at (t := t) cc3).1 (by rw [(x_lk_at (t := t) cc3).2]; exact cc8)).symm)), (by show vI h v0 41 ≤ vI hrz15_16 v0 41 ∧ vI hrz15_16 v0 41 ≤ n; rw [show vI hrz15_16 v0 41 = (x_nl t n ((vI h v0 41) + 1)) from (by rw [g1rz15_16_2])] <;> (exact ⟨Int32.le_trans (Int32.le_of_lt (x_lp1 n2 (t := t) cc3)) g1rz15_16_3.1, g1rz15_16_3.2⟩)), (by show vA hrz15_16 (v0 + 22) (vI h v0 42) = vA h (v0 + 22) (vI h v0 42) + (vI hrz15_16 v0 41 - vI h v0 41); rw [show vA hrz15_16 (v0 + 22) (vI h v0 42) = ((vA h (v0 + 22) (vI h v0 42) + 1) + (vI hrz15_16 v0 41 - ((vI h v0 41) + 1))) from (by rw [g1rz15_16_4]), show vI hrz15_16 v0 41 = (x_nl t n ((vI h v0 41) + 1)) from (by rw [g1rz15_16_2])] <;> (exact x_ch1)), (by show r_SW hrz15_16 v0 (300 * vI h v0 42 + vA h (v0 + 22) (vI h v0 42)) t (vI h v0 41) (vI hrz15_16 v0 41 - vI h v0 41); rw [show vI hrz15_16 v0 41 = (x_nl t n ((vI h v0 41) + 1)) from (by rw [g1rz15_16_2])] <;> (exact r_SW_c (r_cb cb n1).1.1 (r_cb cb n1).1.2 a0 (r_cb cb n1).2.2.1 g1rz15_16_3.1 (Int32.le_trans g1rz15_16_3.2 n2) (by rw [ah14_14 (v0 + 28), gr12_13_1 _ (r_cb cb n1).1.1, if_pos rfl]; exact (x_lk_at (t := t) cc3).2.symm) (by rw [Int32.add_assoc]; exact g1rz15_16_6) (by rw [Int32.add_assoc]; exact g1rz15_16_5))), (by show r_SK h hrz15_16 v0 (300 * vI h v0 42 + vA h (v0 + 22) (vI h v0 42)) (300 * vI h v0 42 + 300); exact r_SK_t (r_SK_t (r_SK_k gr12_13_1 (r_cb cb n1).2.1) (r_SK_a (by rw [ah14_14 (v0 + 28)])) (Int32.le_refl _)) g1rz15_16_6 (r_cb cb n1).2.2.2), (fun a k na => by rw [f1rz15_16_I a k (fun z => na (z)), ih14_14 a k, if_neg (fun z => na (z)), fr12_13_I a k (by omega)]), (fun a na => by rw [f1rz15_16_A a (fun z => na (z.elim (fun z => Or.inl z) (fun z => z.elim (fun z => Or.inr (Or.inl z)) (fun z => Or.inr (Or.inr (z)))))), ah14_14 a, fr12_13_A a (fun z => na (z.elim (fun z => Or.inr (Or.inl z)) (fun z => Or.inr (Or.inr (z)))))]), (fun a na => by rw [f1rz15_16_L a (by omega), lh14_14 a, fr12_13_L a (by omega)])⟩⟩
          · try dsimp only at *
            rw [show vA h14_14 (v0 + 28) = vA hr12_13 (v0 + 28) from (by rw [ah14_14 (v0 + 28)])] at g0rz15_16_2
            rw [show vI hrz15_16 v0 48 = (vI h v0 48) from (by rw [f0rz15_16_I v0 48 (by omega), ih14_14 v0 48, if_neg (fun z => absurd z.2 (by decide)), fr12_13_I v0 48 (by omega)])] at g0rz15_16_0
            rw [show vI h14_14 v0 48 = (vI h v0 48) from (by rw [ih14_14 v0 48, if_neg (fun z => absurd z.2 (by decide)), fr12_13_I v0 48 (by omega)])] at g0rz15_16_1
            exact absurd cc1 g0rz15_16_0
    · skip
      unfold f_Mod_readText_77
      refine l_gR T (d_Mo_16 kv0) ?_
      refine l_gO ?_
      refine jj_Mod_stored (v0 := v0) (e := (300 * vI h v0 42 + vA h (v0 + 22) (vI h v0 42))) T kv0 rfl ?_
      try dsimp only
      refine o_uI T ?_
      intro h4i17_19 Th4i17_19 jh4i17_19 ih4i17_19 ah4i17_19 bh4i17_19 lh4i17_19
      refine qi_some ?_
      exact ⟨Th4i17_19, Or.inr ⟨(by show ¬ vI h4i17_19 v0 48 = 0; rw [show vI h4i17_19 v0 48 = (vI h v0 48) from (by rw [ih4i17_19 v0 48])] <;> (first | assumption | decide)), (by show ¬ vI h v0 48 = 0; first | assumption | (exfalso; grind)), (by show vA h4i17_19 (v0 + 28) = vA h (v0 + 28); rw [show vA h4i17_19 (v0 + 28) = vA h (v0 + 28) from (by rw [bh4i17_19 (v0 + 28) (by omega)])] <;> (first | with_reducible rfl | (exfalso; grind))), (fun a k na => by rw [ih4i17_19 a k]), (fun a na => by rw [bh4i17_19 a (fun z => na (Or.inl z))]), (fun a na => by rw [lh4i17_19 a])⟩⟩
theorem jj_Mod_readText_32 {L : q_L} {π : Nat → Nat → Option Nat} {N : Nat} {t : Int32 → Int32} {n : Int32} {m9 : Nat} {h : z_H} {v0 : Nat} {v1 : Int32} {β : Type} {f : z_H → Option β} {Q : β → Prop} (T : x_U L π h) (kv0 : q_M L π v0) (ht : ∀ j, 0 ≤ j → j < n → vA h (v0 + 1) j = t j) (hn : vI h v0 3 = n) (n1 : n ≤ 240) (tp : ∀ j, t j ≠ -1) (a0 : vI h v0 48 = 0 → 0 ≤ vI h v0 41) (cb : vI h v0 48 = 0 → ((0 ≤ vA h (v0 + 22) (vI h v0 42) ∧ vA h (v0 + 22) (vI h v0 42) ≤ vI h v0 41) ∧ (vI h v0 42 = 0 ∨ vI h v0 42 = 1)) ∧ vI h v0 41 ≤ n) (H1 : ∀ h', x_U L π h' → (vI h' v0 48 = 0) → (vI h v0 48 = 0) → (vI h' v0 41 = x_nl t n (vI h v0 41)) → (vI h v0 41 ≤ vI h' v0 41 ∧ vI h' v0 41 ≤ n) → (vA h' (v0 + 22) (vI h v0 42) = vA h (v0 + 22) (vI h v0 42) + (vI h' v0 41 - vI h v0 41)) → (r_SW h' v0 (300 * vI h v0 42 + vA h (v0 + 22) (vI h v0 42)) t (vI h v0 41) (vI h' v0 41 - vI h v0 41)) → (r_SK h h' v0 (300 * vI h v0 42 + vA h (v0 + 22) (vI h v0 42)) (300 * vI h v0 42 + 300)) → (∀ a k, ¬ ((a = v0 ∧ k = 41)) → vI h' a k = vI h a k) → (∀ a, ¬ (a = (v0 + 11) ∨ a = (v0 + 28) ∨ a = (v0 + 22)) → vA h' a = vA h a) → (∀ a, ¬ (a < a) → vL h' a = vL h a) → qi (f h') Q) (H0 : ∀ h', x_U L π h' → (¬ vI h' v0 48 = 0) → (¬ vI h v0 48 = 0) → (vA h' (v0 + 28) = vA h (v0 + 28)) → (∀ a k, ¬ ((a = v0 ∧ k = 41)) → vI h' a k = vI h a k) → (∀ a, ¬ (a = (v0 + 11) ∨ a = (v0 + 28) ∨ a = (v0 + 22)) → vA h' a = vA h a) → (∀ a, ¬ (a < a) → vL h' a = vL h a) → qi (f h') Q) : qi (z_b (f_Mod_readText_32 N m9 v0 v1 h) f) Q := by
  refine qi_b (ii_Mod_readText_32 m9 v0 v1 h  T kv0 ht hn n1 tp a0 cb) ?_
  rintro hz ⟨Tz, ⟨g0, g1, g2, g3, g4, g5, g6, g7, g8, g9⟩ | ⟨g0, g1, g2, g3, g4, g5⟩⟩
  · exact H1 hz Tz g0 g1 g2 g3 g4 g5 g6 g7 g8 g9
  · exact H0 hz Tz g0 g1 g2 g3 g4 g5
