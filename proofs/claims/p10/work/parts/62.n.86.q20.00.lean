set_option maxHeartbeats 4000000 in
theorem ii_Mod_exchange_81s {L : q_L} {π : Nat → Nat → Option Nat} {N : Nat} : ∀ (m9 : Nat) (v0 : Nat) (v1 : Int32) (v2 : Int32) (v3 : Int32) (h : z_H), x_U L π h → q_M L π v0 → (300 * vI h v0 42 + vA h (v0 + 22) (vI h v0 42) < 300 * vI h v0 42 + 300) → qi (f_Mod_exchange_81s N m9 v0 v1 v2 v3 h) (fun r => x_U L π r ∧ (((vI r v0 48 = 0) ∧ (vI h v0 48 = 0) ∧ (vI r v0 41 = vI h v0 41 + 1) ∧ (vA r (v0 + 22) (vI h v0 42) = vA h (v0 + 22) (vI h v0 42) + 1) ∧ (∀ i, v3 ≤ i → i < 300 * vI h v0 42 + vA h (v0 + 22) (vI h v0 42) → ¬ vA h (v0 + 28) i = v2) ∧ (∀ j, 0 ≤ j → vA r (v0 + 28) j = if j = 300 * vI h v0 42 + vA h (v0 + 22) (vI h v0 42) then v2 else vA h (v0 + 28) j) ∧ (0 ≤ 300 * vI h v0 42 + vA h (v0 + 22) (vI h v0 42) ∧ 300 * vI h v0 42 + vA h (v0 + 22) (vI h v0 42) < 600) ∧ (r_SK h r v0 (300 * vI h v0 42 + vA h (v0 + 22) (vI h v0 42)) (300 * vI h v0 42 + 300)) ∧ (∀ a k, ¬ ((a = v0 ∧ k = 41) ∨ (a = v0 ∧ k = 5) ∨ (a = v0 ∧ k = 48)) → vI r a k = vI h a k) ∧ (∀ a, ¬ (a = (v0 + 28) ∨ a = (v0 + 22)) → vA r a = vA h a) ∧ (∀ a, ¬ (a < a) → vL r a = vL h a)) ∨ ((¬ vI r v0 48 = 0) ∧ (¬ vI h v0 48 = 0 ∨ ∃ i, v3 ≤ i ∧ i < 300 * vI h v0 42 + vA h (v0 + 22) (vI h v0 42) ∧ vA h (v0 + 28) i = v2) ∧ (vA r (v0 + 22) (vI h v0 42) = vA h (v0 + 22) (vI h v0 42) + 1) ∧ (r_SK h r v0 (300 * vI h v0 42 + vA h (v0 + 22) (vI h v0 42)) (300 * vI h v0 42 + 300)) ∧ (∀ a k, ¬ ((a = v0 ∧ k = 41) ∨ (a = v0 ∧ k = 5) ∨ (a = v0 ∧ k = 48)) → vI r a k = vI h a k) ∧ (∀ a, ¬ (a = (v0 + 28) ∨ a = (v0 + 22)) → vA r a = vA h a) ∧ (∀ a, ¬ (a < a) → vL r a = vL h a)))) := by
  intro m9
  induction m9 with
  | zero => intro v0 v1 v2 v3 h T kv0 c8 r e; rw [f_Mod_exchange_81s] at e; cases e
  | succ m9 ih =>
    intro v0 v1 v2 v3 h T kv0 c8
    rw [f_Mod_exchange_81s]
    by_cases fl : vI h v0 48 = 0
    · skip
      refine l_gO ?_
      refine jj_Mod_stored (v0 := v0) (e := (300 * vI h v0 42 + vA h (v0 + 22) (vI h v0 42))) T kv0 rfl ?_
      try dsimp only
      refine qi_if (fun cc2 => ?_) (fun cc2 => ?_)
      · skip
        unfold f_Mod_exchange_120s
        refine l_gO ?_
        refine jj_Mod_keep (v0 := v0) (v1 := v2) T kv0 ?_
        intro hr2i3_4 Thr2i3_4 gr2i3_4_0 gr2i3_4_1 gr2i3_4_2 fr2i3_4_I fr2i3_4_A fr2i3_4_L
        try dsimp only
        refine l_gI (e := (vI h v0 41)) (by rw [fr2i3_4_I v0 41 (by omega)]) ?_
        refine o_sI Thr2i3_4 (q_Mk kv0) (by decide) rfl ?_
        intro h4i3_5 Th4i3_5 ih4i3_5 ah4i3_5 lh4i3_5
        refine qi_some ?_
        exact ⟨Th4i3_5, Or.inl ⟨(by show vI h4i3_5 v0 48 = 0; rw [show vI h4i3_5 v0 48 = (vI h v0 48) from (by rw [ih4i3_5 v0 48, if_neg (fun z => absurd z.2 (by decide)), fr2i3_4_I v0 48 (by omega)])] <;> (first | assumption | with_reducible rfl | grind)), fl, (by show vI h4i3_5 v0 41 = vI h v0 41 + 1; rw [show vI h4i3_5 v0 41 = ((vI h v0 41) + 1) from (by rw [ih4i3_5 v0 41, if_pos ⟨rfl, rfl⟩])] <;> (first | assumption | with_reducible rfl | grind)), (by show vA h4i3_5 (v0 + 22) (vI h v0 42) = vA h (v0 + 22) (vI h v0 42) + 1; rw [show vA h4i3_5 (v0 + 22) = vA hr2i3_4 (v0 + 22) from (by rw [ah4i3_5 (v0 + 22)]), show vA hr2i3_4 (v0 + 22) (vI h v0 42) = (vA h (v0 + 22) (vI h v0 42) + 1) from (by rw [gr2i3_4_0])] <;> (first | assumption | with_reducible rfl | grind)), (fun i i1 i2 => absurd (Int32.lt_of_lt_of_le i2 (Int32.le_trans cc2 i1)) Int32.lt_irrefl), (fun j j0 => by rw [ah4i3_5 (v0 + 28)]; exact gr2i3_4_1 j j0), gr2i3_4_2, (by show r_SK h h4i3_5 v0 (300 * vI h v0 42 + vA h (v0 + 22) (vI h v0 42)) (300 * vI h v0 42 + 300); exact r_SK_t (r_SK_k gr2i3_4_1 c8) (r_SK_a (by rw [ah4i3_5 (v0 + 28)])) (Int32.le_refl _)), (fun a k na => by rw [ih4i3_5 a k, if_neg (fun z => na (Or.inl z)), fr2i3_4_I a k (by omega)]), (fun a na => by rw [ah4i3_5 a, fr2i3_4_A a (fun z => na (z.elim (fun z => Or.inl z) (fun z => Or.inr (z))))]), (fun a na => by rw [lh4i3_5 a, fr2i3_4_L a (by omega)])⟩⟩
      · skip
        refine l_gI (e := (vI h v0 48)) rfl ?_
        refine qi_if (fun _ => ?_) (fun cc6 => absurd fl cc6)
        refine l_gR T (d_Mo_33 kv0) ?_
        refine l_aI (e := (vA h (v0 + 28) v3)) (fun _ => rfl) (fun ix7 => ?_)
        refine qi_if (fun cc8 => ?_) (fun cc8 => ?_)
        · skip
          refine l_gI (e := (vI h v0 41)) rfl ?_
          refine l_gO ?_
          refine jj_Mod_wrong (v0 := v0) (v1 := (vI h v0 41)) T kv0 ?_
          intro hr12_9 Thr12_9 gr12_9_0 fr12_9_I fr12_9_A fr12_9_L
          try dsimp only
          refine qi_bs ?_
          refine qi_mono (ih v0 v1 v2 (v3 + 1) hr12_9 Thr12_9 kv0 (by show 300 * vI hr12_9 v0 42 + vA hr12_9 (v0 + 22) (vI hr12_9 v0 42) < 300 * vI hr12_9 v0 42 + 300; rw [show vI hr12_9 v0 42 = (vI h v0 42) from (by rw [fr12_9_I v0 42 (by omega)]), show vA hr12_9 (v0 + 22) = vA h (v0 + 22) from (by rw [fr12_9_A (v0 + 22) (by omega)])] <;> (exact c8))) ?_
          rintro hrz10_11 ⟨Thrz10_11, ⟨g1rz10_11_0, g1rz10_11_1, g1rz10_11_2, g1rz10_11_3, g1rz10_11_4, g1rz10_11_5, g1rz10_11_6, g1rz10_11_7, f1rz10_11_I, f1rz10_11_A, f1rz10_11_L⟩ | ⟨g0rz10_11_0, g0rz10_11_1, g0rz10_11_2, g0rz10_11_3, f0rz10_11_I, f0rz10_11_A, f0rz10_11_L⟩⟩
          · try dsimp only at *
            rw [show vI hr12_9 v0 41 = (vI h v0 41) from (by rw [fr12_9_I v0 41 (by omega)])] at g1rz10_11_2
            rw [show vI hr12_9 v0 42 = (vI h v0 42) from (by rw [fr12_9_I v0 42 (by omega)]), show vA hr12_9 (v0 + 22) = vA h (v0 + 22) from (by rw [fr12_9_A (v0 + 22) (by omega)])] at g1rz10_11_3
            rw [show vI hr12_9 v0 48 = 1 from (by rw [gr12_9_0])] at g1rz10_11_1
            rw [show vI hr12_9 v0 42 = (vI h v0 42) from (by rw [fr12_9_I v0 42 (by omega)]), show vA hr12_9 (v0 + 22) = vA h (v0 + 22) from (by rw [fr12_9_A (v0 + 22) (by omega)]), show vA hr12_9 (v0 + 28) = vA h (v0 + 28) from (by rw [fr12_9_A (v0 + 28) (by omega)])] at g1rz10_11_4
            rw [show vI hr12_9 v0 42 = (vI h v0 42) from (by rw [fr12_9_I v0 42 (by omega)]), show vA hr12_9 (v0 + 22) = vA h (v0 + 22) from (by rw [fr12_9_A (v0 + 22) (by omega)]), show vA hr12_9 (v0 + 28) = vA h (v0 + 28) from (by rw [fr12_9_A (v0 + 28) (by omega)])] at g1rz10_11_5
            rw [show vI hr12_9 v0 42 = (vI h v0 42) from (by rw [fr12_9_I v0 42 (by omega)]), show vA hr12_9 (v0 + 22) = vA h (v0 + 22) from (by rw [fr12_9_A (v0 + 22) (by omega)])] at g1rz10_11_6
            rw [show vI hr12_9 v0 42 = (vI h v0 42) from (by rw [fr12_9_I v0 42 (by omega)]), show vA hr12_9 (v0 + 22) = vA h (v0 + 22) from (by rw [fr12_9_A (v0 + 22) (by omega)])] at g1rz10_11_7
            exact absurd g1rz10_11_1 (by decide)
          · try dsimp only at *
            rw [show vI hr12_9 v0 42 = (vI h v0 42) from (by rw [fr12_9_I v0 42 (by omega)]), show vA hr12_9 (v0 + 22) = vA h (v0 + 22) from (by rw [fr12_9_A (v0 + 22) (by omega)])] at g0rz10_11_2
            rw [show vI hr12_9 v0 48 = 1 from (by rw [gr12_9_0]), show vI hr12_9 v0 42 = (vI h v0 42) from (by rw [fr12_9_I v0 42 (by omega)]), show vA hr12_9 (v0 + 22) = vA h (v0 + 22) from (by rw [fr12_9_A (v0 + 22) (by omega)]), show vA hr12_9 (v0 + 28) = vA h (v0 + 28) from (by rw [fr12_9_A (v0 + 28) (by omega)])] at g0rz10_11_1
            rw [show vI hr12_9 v0 42 = (vI h v0 42) from (by rw [fr12_9_I v0 42 (by omega)]), show vA hr12_9 (v0 + 22) = vA h (v0 + 22) from (by rw [fr12_9_A (v0 + 22) (by omega)])] at g0rz10_11_3
            exact ⟨Thrz10_11, Or.inr ⟨g0rz10_11_0, (by show ¬ vI h v0 48 = 0 ∨ ∃ i, v3 ≤ i ∧ i < 300 * vI h v0 42 + vA h (v0 + 22) (vI h v0 42) ∧ vA h (v0 + 28) i = v2; exact Or.inr ⟨v3, Int32.le_refl _, Int32.not_le.mp (by assumption), by assumption⟩), (by show vA hrz10_11 (v0 + 22) (vI h v0 42) = vA h (v0 + 22) (vI h v0 42) + 1; rw [show vA hrz10_11 (v0 + 22) (vI h v0 42) = (vA h (v0 + 22) (vI h v0 42) + 1) from (by rw [g0rz10_11_2])] <;> (first | assumption | with_reducible rfl | grind)), (by show r_SK h hrz10_11 v0 (300 * vI h v0 42 + vA h (v0 + 22) (vI h v0 42)) (300 * vI h v0 42 + 300); exact r_SK_t (r_SK_a (by rw [fr12_9_A (v0 + 28) (by omega)])) g0rz10_11_3 (Int32.le_refl _)), (fun a k na => by rw [f0rz10_11_I a k (fun z => na (z.elim (fun z => Or.inl z) (fun z => z.elim (fun z => Or.inr (Or.inl z)) (fun z => Or.inr (Or.inr (z)))))), fr12_9_I a k (fun z => na (z.elim (fun z => Or.inr (Or.inl z)) (fun z => Or.inr (Or.inr (z)))))]), (fun a na => by rw [f0rz10_11_A a (fun z => na (z.elim (fun z => Or.inl z) (fun z => Or.inr (z)))), fr12_9_A a (by omega)]), (fun a na => by rw [f0rz10_11_L a (by omega), fr12_9_L a (by omega)])⟩⟩
        · skip
          refine qi_bs ?_
          refine qi_mono (ih v0 v1 v2 (v3 + 1) h T kv0 c8) ?_
          rintro hrz12_13 ⟨Thrz12_13, ⟨g1rz12_13_0, g1rz12_13_1, g1rz12_13_2, g1rz12_13_3, g1rz12_13_4, g1rz12_13_5, g1rz12_13_6, g1rz12_13_7, f1rz12_13_I, f1rz12_13_A, f1rz12_13_L⟩ | ⟨g0rz12_13_0, g0rz12_13_1, g0rz12_13_2, g0rz12_13_3, f0rz12_13_I, f0rz12_13_A, f0rz12_13_L⟩⟩
          · try dsimp only at *
            exact ⟨Thrz12_13, Or.inl ⟨(by show vI hrz12_13 v0 48 = 0; rw [show vI hrz12_13 v0 48 = 0 from (by rw [g1rz12_13_0])] <;> (first | assumption | with_reducible rfl | grind)), g1rz12_13_1, (by show vI hrz12_13 v0 41 = vI h v0 41 + 1; rw [show vI hrz12_13 v0 41 = (vI h v0 41 + 1) from (by rw [g1rz12_13_2])] <;> (first | assumption | with_reducible rfl | grind)), (by show vA hrz12_13 (v0 + 22) (vI h v0 42) = vA h (v0 + 22) (vI h v0 42) + 1; rw [show vA hrz12_13 (v0 + 22) (vI h v0 42) = (vA h (v0 + 22) (vI h v0 42) + 1) from (by rw [g1rz12_13_3])] <;> (first | assumption | with_reducible rfl | grind)), (fun i i1 i2 => by by_cases q : i = v3; (subst q; assumption); (exact g1rz12_13_4 i (x_i1 (Int32.not_le.mp (by assumption)) i1 q) i2)), g1rz12_13_5, g1rz12_13_6, g1rz12_13_7, (fun a k na => by rw [f1rz12_13_I a k (fun z => na (z.elim (fun z => Or.inl z) (fun z => z.elim (fun z => Or.inr (Or.inl z)) (fun z => Or.inr (Or.inr (z))))))]), (fun a na => by rw [f1rz12_13_A a (fun z => na (z.elim (fun z => Or.inl z) (fun z => Or.inr (z))))]), (fun a na => by rw [f1rz12_13_L a (by omega)])⟩⟩
          · try dsimp only at *
            exact ⟨Thrz12_13, Or.inr ⟨g0rz12_13_0, (by show ¬ vI h v0 48 = 0 ∨ ∃ i, v3 ≤ i ∧ i < 300 * vI h v0 42 + vA h (v0 + 22) (vI h v0 42) ∧ vA h (v0 + 28) i = v2; rcases g0rz12_13_1 with z | ⟨i, i1, i2, i3⟩; (exact absurd (by assumption) z); (exact Or.inr ⟨i, x_i2 (Int32.not_le.mp (by assumption)) i1, i2, i3⟩)), (by show vA hrz12_13 (v0 + 22) (vI h v0 42) = vA h (v0 + 22) (vI h v0 42) + 1; rw [show vA hrz12_13 (v0 + 22) (vI h v0 42) = (vA h (v0 + 22) (vI h v0 42) + 1) from (by rw [g0rz12_13_2])] <;> (first | assumption | with_reducible rfl | grind)), g0rz12_13_3, (fun a k na => by rw [f0rz12_13_I a k (fun z => na (z.elim (fun z => Or.inl z) (fun z => z.elim (fun z => Or.inr (Or.inl z)) (fun z => Or.inr (Or.inr (z))))))]), (fun a na => by rw [f0rz12_13_A a (fun z => na (z.elim (fun z => Or.inl z) (fun z => Or.inr (z))))]), (fun a na => by rw [f0rz12_13_L a (by omega)])⟩⟩
    · skip
      refine l_gO ?_
      refine jj_Mod_stored (v0 := v0) (e := (300 * vI h v0 42 + vA h (v0 + 22) (vI h v0 42))) T kv0 rfl ?_
      try dsimp only
      refine qi_if (fun cc15 => ?_) (fun cc15 => ?_)
      · skip
        unfold f_Mod_exchange_120s
        refine l_gO ?_
        refine jj_Mod_keep (v0 := v0) (v1 := v2) T kv0 ?_
        intro hr2i16_17 Thr2i16_17 gr2i16_17_0 gr2i16_17_1 gr2i16_17_2 fr2i16_17_I fr2i16_17_A fr2i16_17_L
        try dsimp only
        refine l_gI (e := (vI h v0 41)) (by rw [fr2i16_17_I v0 41 (by omega)]) ?_
        refine o_sI Thr2i16_17 (q_Mk kv0) (by decide) rfl ?_
        intro h4i16_18 Th4i16_18 ih4i16_18 ah4i16_18 lh4i16_18
        refine qi_some ?_
        exact ⟨Th4i16_18, Or.inr ⟨(by show ¬ vI h4i16_18 v0 48 = 0; rw [show vI h4i16_18 v0 48 = (vI h v0 48) from (by rw [ih4i16_18 v0 48, if_neg (fun z => absurd z.2 (by decide)), fr2i16_17_I v0 48 (by omega)])] <;> (first | assumption | decide)), (by show ¬ vI h v0 48 = 0 ∨ ∃ i, v3 ≤ i ∧ i < 300 * vI h v0 42 + vA h (v0 + 22) (vI h v0 42) ∧ vA h (v0 + 28) i = v2; exact Or.inl fl), (by show vA h4i16_18 (v0 + 22) (vI h v0 42) = vA h (v0 + 22) (vI h v0 42) + 1; rw [show vA h4i16_18 (v0 + 22) = vA hr2i16_17 (v0 + 22) from (by rw [ah4i16_18 (v0 + 22)]), show vA hr2i16_17 (v0 + 22) (vI h v0 42) = (vA h (v0 + 22) (vI h v0 42) + 1) from (by rw [gr2i16_17_0])] <;> (first | assumption | with_reducible rfl | grind)), (by show r_SK h h4i16_18 v0 (300 * vI h v0 42 + vA h (v0 + 22) (vI h v0 42)) (300 * vI h v0 42 + 300); exact r_SK_t (r_SK_k gr2i16_17_1 c8) (r_SK_a (by rw [ah4i16_18 (v0 + 28)])) (Int32.le_refl _)), (fun a k na => by rw [ih4i16_18 a k, if_neg (fun z => na (Or.inl z)), fr2i16_17_I a k (by omega)]), (fun a na => by rw [ah4i16_18 a, fr2i16_17_A a (fun z => na (z.elim (fun z => Or.inl z) (fun z => Or.inr (z))))]), (fun a na => by rw [lh4i16_18 a, fr2i16_17_L a (by omega)])⟩⟩
      · skip
        refine l_gI (e := (vI h v0 48)) rfl ?_
        refine qi_if (fun cc19 => absurd cc19 fl) (fun _ => ?_)
        unfold f_Mod_exchange_120s
        refine l_gO ?_
        refine jj_Mod_keep (v0 := v0) (v1 := v2) T kv0 ?_
        intro hr2i20_21 Thr2i20_21 gr2i20_21_0 gr2i20_21_1 gr2i20_21_2 fr2i20_21_I fr2i20_21_A fr2i20_21_L
        try dsimp only
        refine l_gI (e := (vI h v0 41)) (by rw [fr2i20_21_I v0 41 (by omega)]) ?_
        refine o_sI Thr2i20_21 (q_Mk kv0) (by decide) rfl ?_
        intro h4i20_22 Th4i20_22 ih4i20_22 ah4i20_22 lh4i20_22
        refine qi_some ?_
        exact ⟨Th4i20_22, Or.inr ⟨(by show ¬ vI h4i20_22 v0 48 = 0; rw [show vI h4i20_22 v0 48 = (vI h v0 48) from (by rw [ih4i20_22 v0 48, if_neg (fun z => absurd z.2 (by decide)), fr2i20_21_I v0 48 (by omega)])] <;> (first | assumption | decide)), (by show ¬ vI h v0 48 = 0 ∨ ∃ i, v3 ≤ i ∧ i < 300 * vI h v0 42 + vA h (v0 + 22) (vI h v0 42) ∧ vA h (v0 + 28) i = v2; exact Or.inl fl), (by show vA h4i20_22 (v0 + 22) (vI h v0 42) = vA h (v0 + 22) (vI h v0 42) + 1; rw [show vA h4i20_22 (v0 + 22) = vA hr2i20_21 (v0 + 22) from (by rw [ah4i20_22 (v0 + 22)]), show vA hr2i20_21 (v0 + 22) (vI h v0 42) = (vA h (v0 + 22) (vI h v0 42) + 1) from (by rw [gr2i20_21_0])] <;> (first | assumption | with_reducible rfl | grind)), (by show r_SK h h4i20_22 v0 (300 * vI h v0 42 + vA h (v0 + 22) (vI h v0 42)) (300 * vI h v0 42 + 300); exact r_SK_t (r_SK_k gr2i20_21_1 c8) (r_SK_a (by rw [ah4i20_22 (v0 + 28)])) (Int32.le_refl _)), (fun a k na => by rw [ih4i20_22 a k, if_neg (fun z => na (Or.inl z)), fr2i20_21_I a k (by omega)]), (fun a na => by rw [ah4i20_22 a, fr2i20_21_A a (fun z => na (z.elim (fun z => Or.inl z) (fun z => Or.inr (z))))]), (fun a na => by rw [lh4i20_22 a, fr2i20_21_L a (by omega)])⟩⟩
theorem jj_Mod_exchange_81s {L : q_L} {π : Nat → Nat → Option Nat} {N : Nat} {m9 : Nat} {h : z_H} {v0 : Nat} {v1 : Int32} {v2 : Int32} {v3 : Int32} {β : Type} {f : z_H → Option β} {Q : β → Prop} (T : x_U L π h) (kv0 : q_M L π v0) (c8 : 300 * vI h v0 42 + vA h (v0 + 22) (vI h v0 42) < 300 * vI h v0 42 + 300) (H1 : ∀ h', x_U L π h' → (vI h' v0 48 = 0) → (vI h v0 48 = 0) → (vI h' v0 41 = vI h v0 41 + 1) → (vA h' (v0 + 22) (vI h v0 42) = vA h (v0 + 22) (vI h v0 42) + 1) → (∀ i, v3 ≤ i → i < 300 * vI h v0 42 + vA h (v0 + 22) (vI h v0 42) → ¬ vA h (v0 + 28) i = v2) → (∀ j, 0 ≤ j → vA h' (v0 + 28) j = if j = 300 * vI h v0 42 + vA h (v0 + 22) (vI h v0 42) then v2 else vA h (v0 + 28) j) → (0 ≤ 300 * vI h v0 42 + vA h (v0 + 22) (vI h v0 42) ∧ 300 * vI h v0 42 + vA h (v0 + 22) (vI h v0 42) < 600) → (r_SK h h' v0 (300 * vI h v0 42 + vA h (v0 + 22) (vI h v0 42)) (300 * vI h v0 42 + 300)) → (∀ a k, ¬ ((a = v0 ∧ k = 41) ∨ (a = v0 ∧ k = 5) ∨ (a = v0 ∧ k = 48)) → vI h' a k = vI h a k) → (∀ a, ¬ (a = (v0 + 28) ∨ a = (v0 + 22)) → vA h' a = vA h a) → (∀ a, ¬ (a < a) → vL h' a = vL h a) → qi (f h') Q) (H0 : ∀ h', x_U L π h' → (¬ vI h' v0 48 = 0) → (¬ vI h v0 48 = 0 ∨ ∃ i, v3 ≤ i ∧ i < 300 * vI h v0 42 + vA h (v0 + 22) (vI h v0 42) ∧ vA h (v0 + 28) i = v2) → (vA h' (v0 + 22) (vI h v0 42) = vA h (v0 + 22) (vI h v0 42) + 1) → (r_SK h h' v0 (300 * vI h v0 42 + vA h (v0 + 22) (vI h v0 42)) (300 * vI h v0 42 + 300)) → (∀ a k, ¬ ((a = v0 ∧ k = 41) ∨ (a = v0 ∧ k = 5) ∨ (a = v0 ∧ k = 48)) → vI h' a k = vI h a k) → (∀ a, ¬ (a = (v0 + 28) ∨ a = (v0 + 22)) → vA h' a = vA h a) → (∀ a, ¬ (a < a) → vL h' a = vL h a) → qi (f h') Q) : qi (z_b (f_Mod_exchange_81s N m9 v0 v1 v2 v3 h) f) Q := by
  refine qi_b (ii_Mod_exchange_81s m9 v0 v1 v2 v3 h  T kv0 c8) ?_
  rintro hz ⟨Tz, ⟨g0, g1, g2, g3, g4, g5, g6, g7, g8, g9, g10⟩ | ⟨g0, g1, g2, g3, g4, g5, g6⟩⟩
  · exact H1 hz Tz g0 g1 g2 g3 g4 g5 g6 g7 g8 g9 g10
  · exact H0 hz Tz g0 g1 g2 g3 g4 g5 g6

