set_option maxHeartbeats 8000000 in
theorem i_Mod_replacement_10 {L : q_L} {π : Nat → Nat → Option Nat} {N : Nat} {t : Int32 → Int32} {n : Int32} {g : Int32} : ∀ (m9 : Nat) (v0 : Nat) (v1 : Int32) (h : z_H), x_U L π h → q_M L π v0 → (∀ j, 0 ≤ j → j < n → vA h (v0 + 1) j = t j) → (vI h v0 3 = n) → (n ≤ 240) → (∀ j, t j ≠ -1) → (vI h v0 48 = 0 → 0 ≤ vI h v0 41) → (vA h (v0 + 25) (vA h (v0 + 9) v1) = g) → (0 ≤ g ∧ g ≤ 3) → qi (f_Mod_replacement_10 N m9 v0 v1 h) (fun r => x_U L π r ∧ (((vI r v0 48 = 0) ∧ (vI h v0 48 = 0) ∧ (x_rep t n (vI h v0 41) g = some (vI r v0 41)) ∧ (∀ a k, ¬ ((a = v0 ∧ k = 41) ∨ (a = v0 ∧ k = 5) ∨ (a = v0 ∧ k = 48)) → vI r a k = vI h a k) ∧ (∀ a, ¬ (a = (v0 + 11) ∨ a = (v0 + 28) ∨ a = (v0 + 22)) → vA r a = vA h a)) ∨ ((¬ vI r v0 48 = 0) ∧ (¬ vI h v0 48 = 0 ∨ x_rep t n (vI h v0 41) g = none) ∧ (∀ a k, ¬ ((a = v0 ∧ k = 41) ∨ (a = v0 ∧ k = 5) ∨ (a = v0 ∧ k = 48)) → vI r a k = vI h a k) ∧ (∀ a, ¬ (a = (v0 + 11) ∨ a = (v0 + 28) ∨ a = (v0 + 22)) → vA r a = vA h a)))) := by
  intro m9
  induction m9 with
  | zero => intro v0 v1 h T kv0 ht hn n1 tp a0 hg g3 r e; rw [f_Mod_replacement_10] at e; cases e
  | succ m9 ih =>
    intro v0 v1 h T kv0 ht hn n1 tp a0 hg g3
    rw [f_Mod_replacement_10]
    have n2 : n ≤ 1000 := Int32.le_trans n1 (by decide)
    refine l_gI (e := (vI h v0 48)) rfl ?_
    refine qi_if (fun cc1 => ?_) (fun cc1 => ?_)
    · skip
      have a0 := a0 cc1
      refine l_gO ?_
      refine j_Mod_here (v0 := v0) (t := t) (n := n) (e := (x_lk t n (vI h v0 41))) T kv0 ht hn rfl ?_
      try dsimp only
      refine qi_if (fun cc3 => ?_) (fun cc3 => ?_)
      · skip
        unfold f_Mod_replacement_241
        refine l_gI (e := (vI h v0 41)) rfl ?_
        refine l_sI T (q_Mk kv0) (by decide) rfl ?_
        intro h2i4_5 Th2i4_5 ih2i4_5 ah2i4_5
        refine l_gR Th2i4_5 (d_Mo_16 kv0) ?_
        refine l_gO ?_
        refine j_Mod_stored (v0 := v0) (e := (300 * (vI h v0 42) + vA h (v0 + 22) (vI h v0 42))) Th2i4_5 kv0 (by rw [show vI h2i4_5 v0 42 = (vI h v0 42) from (by rw [ih2i4_5 v0 42, if_neg (fun z => absurd z.2 (by decide))]), show vA h2i4_5 (v0 + 22) = vA h (v0 + 22) from (by rw [ah2i4_5 (v0 + 22)])]) ?_
        try dsimp only
        refine l_uI Th2i4_5 ?_
        intro h6i4_7 Th6i4_7 jh6i4_7 ih6i4_7 ah6i4_7 bh6i4_7
        refine qi_some ?_
        exact ⟨Th6i4_7, Or.inl ⟨(by show vI h6i4_7 v0 48 = 0; rw [show vI h6i4_7 v0 48 = (vI h v0 48) from (by rw [ih6i4_7 v0 48, ih2i4_5 v0 48, if_neg (fun z => absurd z.2 (by decide))])] <;> (first | assumption | with_reducible rfl | grind)), (by show vI h v0 48 = 0; first | assumption | with_reducible rfl | grind), (by show x_rep t n (vI h v0 41) g = some (vI h6i4_7 v0 41); rw [show vI h6i4_7 v0 41 = ((vI h v0 41) + 1) from (by rw [ih6i4_7 v0 41, ih2i4_5 v0 41, if_pos ⟨rfl, rfl⟩])] <;> (exact x_re47 n2 cc3)), (fun a k na => by rw [ih6i4_7 a k, ih2i4_5 a k, if_neg (fun z => na (Or.inl z))]), (fun a na => by rw [bh6i4_7 a (fun z => na (Or.inl z)), ah2i4_5 a])⟩⟩
      · skip
        refine l_gO ?_
        refine j_Mod_here (v0 := v0) (t := t) (n := n) (e := (x_lk t n (vI h v0 41))) T kv0 ht hn rfl ?_
        try dsimp only
        refine qi_bs ?_
        refine l_gO ?_
        refine j_Mod_behind (v0 := v0) (t := t) (n := n) (e := (x_lk t n (vI h v0 41 + 1))) T kv0 ht hn rfl ?_
        try dsimp only
        refine qi_bs ?_
        refine qi_if (fun cc10 => ?_) (fun cc10 => ?_)
        · skip
          refine l_gI (e := (vI h v0 3)) rfl ?_
          refine l_gO ?_
          refine j_Mod_wrong (v0 := v0) (v1 := (vI h v0 3)) T kv0 ?_
          intro hr42_11 Thr42_11 gr42_11_0 fr42_11_I fr42_11_A
          try dsimp only
          refine qi_mono (ih v0 v1 hr42_11 Thr42_11 kv0 (by show ∀ j, 0 ≤ j → j < n → vA hr42_11 (v0 + 1) j = t j; rw [show vA hr42_11 (v0 + 1) = vA h (v0 + 1) from (by rw [fr42_11_A (v0 + 1) (by omega)])] <;> (first | assumption | with_reducible rfl | grind)) (by show vI hr42_11 v0 3 = n; rw [show vI hr42_11 v0 3 = (vI h v0 3) from (by rw [fr42_11_I v0 3 (by omega)])] <;> (first | assumption | with_reducible rfl | grind)) n1 tp (by show vI hr42_11 v0 48 = 0 → 0 ≤ vI hr42_11 v0 41; rw [show vI hr42_11 v0 48 = 1 from (by rw [gr42_11_0]), show vI hr42_11 v0 41 = (vI h v0 41) from (by rw [fr42_11_I v0 41 (by omega)])] <;> (intro z9; exact absurd z9 (by decide))) (by show vA hr42_11 (v0 + 25) (vA hr42_11 (v0 + 9) v1) = g; rw [show vA hr42_11 (v0 + 25) = vA h (v0 + 25) from (by rw [fr42_11_A (v0 + 25) (by omega)]), show vA hr42_11 (v0 + 9) = vA h (v0 + 9) from (by rw [fr42_11_A (v0 + 9) (by omega)])] <;> (first | assumption | with_reducible rfl | grind)) g3) ?_
          rintro hrz12_13 ⟨Thrz12_13, ⟨g1rz12_13_0, g1rz12_13_1, g1rz12_13_2, f1rz12_13_I, f1rz12_13_A⟩ | ⟨g0rz12_13_0, g0rz12_13_1, f0rz12_13_I, f0rz12_13_A⟩⟩
          · try dsimp only at *
            rw [show vI hr42_11 v0 48 = 1 from (by rw [gr42_11_0])] at g1rz12_13_1
            rw [show vI hr42_11 v0 41 = (vI h v0 41) from (by rw [fr42_11_I v0 41 (by omega)])] at g1rz12_13_2
            exact absurd g1rz12_13_1 (by decide)
          · try dsimp only at *
            rw [show vI hr42_11 v0 48 = 1 from (by rw [gr42_11_0]), show vI hr42_11 v0 41 = (vI h v0 41) from (by rw [fr42_11_I v0 41 (by omega)])] at g0rz12_13_1
            exact ⟨Thrz12_13, Or.inr ⟨g0rz12_13_0, (by show ¬ vI h v0 48 = 0 ∨ x_rep t n (vI h v0 41) g = none; refine Or.inr ?_; exact x_re_out (x_lk_no tp cc10)), (fun a k na => by rw [f0rz12_13_I a k (fun z => na (z.elim (fun z => Or.inl z) (fun z => z.elim (fun z => Or.inr (Or.inl z)) (fun z => Or.inr (Or.inr (z)))))), fr42_11_I a k (fun z => na (z.elim (fun z => Or.inr (Or.inl z)) (fun z => Or.inr (Or.inr (z)))))]), (fun a na => by rw [f0rz12_13_A a (fun z => na (z.elim (fun z => Or.inl z) (fun z => z.elim (fun z => Or.inr (Or.inl z)) (fun z => Or.inr (Or.inr (z)))))), fr42_11_A a (by omega)])⟩⟩
        · skip
          refine qi_if (fun cc14 => ?_) (fun cc14 => ?_)
          · skip
            refine l_gI (e := (vI h v0 41)) rfl ?_
            refine l_gO ?_
            refine j_Mod_wrong (v0 := v0) (v1 := (vI h v0 41)) T kv0 ?_
            intro hr39_15 Thr39_15 gr39_15_0 fr39_15_I fr39_15_A
            try dsimp only
            refine qi_mono (ih v0 v1 hr39_15 Thr39_15 kv0 (by show ∀ j, 0 ≤ j → j < n → vA hr39_15 (v0 + 1) j = t j; rw [show vA hr39_15 (v0 + 1) = vA h (v0 + 1) from (by rw [fr39_15_A (v0 + 1) (by omega)])] <;> (first | assumption | with_reducible rfl | grind)) (by show vI hr39_15 v0 3 = n; rw [show vI hr39_15 v0 3 = (vI h v0 3) from (by rw [fr39_15_I v0 3 (by omega)])] <;> (first | assumption | with_reducible rfl | grind)) n1 tp (by show vI hr39_15 v0 48 = 0 → 0 ≤ vI hr39_15 v0 41; rw [show vI hr39_15 v0 48 = 1 from (by rw [gr39_15_0]), show vI hr39_15 v0 41 = (vI h v0 41) from (by rw [fr39_15_I v0 41 (by omega)])] <;> (intro z9; exact absurd z9 (by decide))) (by show vA hr39_15 (v0 + 25) (vA hr39_15 (v0 + 9) v1) = g; rw [show vA hr39_15 (v0 + 25) = vA h (v0 + 25) from (by rw [fr39_15_A (v0 + 25) (by omega)]), show vA hr39_15 (v0 + 9) = vA h (v0 + 9) from (by rw [fr39_15_A (v0 + 9) (by omega)])] <;> (first | assumption | with_reducible rfl | grind)) g3) ?_
            rintro hrz16_17 ⟨Thrz16_17, ⟨g1rz16_17_0, g1rz16_17_1, g1rz16_17_2, f1rz16_17_I, f1rz16_17_A⟩ | ⟨g0rz16_17_0, g0rz16_17_1, f0rz16_17_I, f0rz16_17_A⟩⟩
            · try dsimp only at *
              rw [show vI hr39_15 v0 48 = 1 from (by rw [gr39_15_0])] at g1rz16_17_1
              rw [show vI hr39_15 v0 41 = (vI h v0 41) from (by rw [fr39_15_I v0 41 (by omega)])] at g1rz16_17_2
              exact absurd g1rz16_17_1 (by decide)
            · try dsimp only at *
              rw [show vI hr39_15 v0 48 = 1 from (by rw [gr39_15_0]), show vI hr39_15 v0 41 = (vI h v0 41) from (by rw [fr39_15_I v0 41 (by omega)])] at g0rz16_17_1
              exact ⟨Thrz16_17, Or.inr ⟨g0rz16_17_0, (by show ¬ vI h v0 48 = 0 ∨ x_rep t n (vI h v0 41) g = none; refine Or.inr ?_; exact x_re10 n2 cc14), (fun a k na => by rw [f0rz16_17_I a k (fun z => na (z.elim (fun z => Or.inl z) (fun z => z.elim (fun z => Or.inr (Or.inl z)) (fun z => Or.inr (Or.inr (z)))))), fr39_15_I a k (fun z => na (z.elim (fun z => Or.inr (Or.inl z)) (fun z => Or.inr (Or.inr (z)))))]), (fun a na => by rw [f0rz16_17_A a (fun z => na (z.elim (fun z => Or.inl z) (fun z => z.elim (fun z => Or.inr (Or.inl z)) (fun z => Or.inr (Or.inr (z)))))), fr39_15_A a (by omega)])⟩⟩
          · skip
            refine qi_if (fun cc18 => ?_) (fun cc18 => ?_)
            · skip
              refine l_gO ?_
              refine j_Mod_keep (v0 := v0) (v1 := (200 : Int32)) T kv0 ?_
              intro hr34_19 Thr34_19 gr34_19_0 gr34_19_1 gr34_19_2 fr34_19_I fr34_19_A
              try dsimp only
              refine l_gI (e := (vI h v0 41)) (by rw [fr34_19_I v0 41 (by omega)]) ?_
              refine l_sI Thr34_19 (q_Mk kv0) (by decide) rfl ?_
              intro h36_20 Th36_20 ih36_20 ah36_20
              refine qi_mono (ih v0 v1 h36_20 Th36_20 kv0 (by show ∀ j, 0 ≤ j → j < n → vA h36_20 (v0 + 1) j = t j; rw [show vA h36_20 (v0 + 1) = vA h (v0 + 1) from (by rw [ah36_20 (v0 + 1), fr34_19_A (v0 + 1) (by omega)])] <;> (first | assumption | with_reducible rfl | grind)) (by show vI h36_20 v0 3 = n; rw [show vI h36_20 v0 3 = (vI h v0 3) from (by rw [ih36_20 v0 3, if_neg (fun z => absurd z.2 (by decide)), fr34_19_I v0 3 (by omega)])] <;> (first | assumption | with_reducible rfl | grind)) n1 tp (by show vI h36_20 v0 48 = 0 → 0 ≤ vI h36_20 v0 41; rw [show vI h36_20 v0 48 = (vI h v0 48) from (by rw [ih36_20 v0 48, if_neg (fun z => absurd z.2 (by decide)), fr34_19_I v0 48 (by omega)]), show vI h36_20 v0 41 = ((vI h v0 41) + 1) from (by rw [ih36_20 v0 41, if_pos ⟨rfl, rfl⟩])] <;> (intro z9; exact x_0le a0 (x_lp1 n2 (t := t) cc10))) (by show vA h36_20 (v0 + 25) (vA h36_20 (v0 + 9) v1) = g; rw [show vA h36_20 (v0 + 25) = vA h (v0 + 25) from (by rw [ah36_20 (v0 + 25), fr34_19_A (v0 + 25) (by omega)]), show vA h36_20 (v0 + 9) = vA h (v0 + 9) from (by rw [ah36_20 (v0 + 9), fr34_19_A (v0 + 9) (by omega)])] <;> (first | assumption | with_reducible rfl | grind)) g3) ?_
              rintro hrz21_22 ⟨Thrz21_22, ⟨g1rz21_22_0, g1rz21_22_1, g1rz21_22_2, f1rz21_22_I, f1rz21_22_A⟩ | ⟨g0rz21_22_0, g0rz21_22_1, f0rz21_22_I, f0rz21_22_A⟩⟩
              · try dsimp only at *
                rw [show vI h36_20 v0 48 = (vI h v0 48) from (by rw [ih36_20 v0 48, if_neg (fun z => absurd z.2 (by decide)), fr34_19_I v0 48 (by omega)])] at g1rz21_22_1
                rw [show vI h36_20 v0 41 = ((vI h v0 41) + 1) from (by rw [ih36_20 v0 41, if_pos ⟨rfl, rfl⟩])] at g1rz21_22_2
                exact ⟨Thrz21_22, Or.inl ⟨(by show vI hrz21_22 v0 48 = 0; rw [show vI hrz21_22 v0 48 = 0 from (by rw [g1rz21_22_0])] <;> (first | assumption | with_reducible rfl | grind)), (by show vI h v0 48 = 0; first | assumption | with_reducible rfl | grind), (by show x_rep t n (vI h v0 41) g = some (vI hrz21_22 v0 41); exact (x_repl n2 cc10 cc3 cc14 (by rw [cc18]; decide)).trans g1rz21_22_2), (fun a k na => by rw [f1rz21_22_I a k (fun z => na (z.elim (fun z => Or.inl z) (fun z => z.elim (fun z => Or.inr (Or.inl z)) (fun z => Or.inr (Or.inr (z)))))), ih36_20 a k, if_neg (fun z => na (Or.inl z)), fr34_19_I a k (by omega)]), (fun a na => by rw [f1rz21_22_A a (fun z => na (z.elim (fun z => Or.inl z) (fun z => z.elim (fun z => Or.inr (Or.inl z)) (fun z => Or.inr (Or.inr (z)))))), ah36_20 a, fr34_19_A a (fun z => na (z.elim (fun z => Or.inr (Or.inl z)) (fun z => Or.inr (Or.inr (z)))))])⟩⟩
              · try dsimp only at *
                rw [show vI h36_20 v0 48 = (vI h v0 48) from (by rw [ih36_20 v0 48, if_neg (fun z => absurd z.2 (by decide)), fr34_19_I v0 48 (by omega)]), show vI h36_20 v0 41 = ((vI h v0 41) + 1) from (by rw [ih36_20 v0 41, if_pos ⟨rfl, rfl⟩])] at g0rz21_22_1
                exact ⟨Thrz21_22, Or.inr ⟨g0rz21_22_0, (by show ¬ vI h v0 48 = 0 ∨ x_rep t n (vI h v0 41) g = none; refine Or.inr ?_; exact (x_repl n2 cc10 cc3 cc14 (by rw [cc18]; decide)).trans (g0rz21_22_1.resolve_left (fun z => z (by first | rfl | assumption)))), (fun a k na => by rw [f0rz21_22_I a k (fun z => na (z.elim (fun z => Or.inl z) (fun z => z.elim (fun z => Or.inr (Or.inl z)) (fun z => Or.inr (Or.inr (z)))))), ih36_20 a k, if_neg (fun z => na (Or.inl z)), fr34_19_I a k (by omega)]), (fun a na => by rw [f0rz21_22_A a (fun z => na (z.elim (fun z => Or.inl z) (fun z => z.elim (fun z => Or.inr (Or.inl z)) (fun z => Or.inr (Or.inr (z)))))), ah36_20 a, fr34_19_A a (fun z => na (z.elim (fun z => Or.inr (Or.inl z)) (fun z => Or.inr (Or.inr (z)))))])⟩⟩
            · skip
              refine qi_if (fun cc23 => ?_) (fun cc23 => ?_)
              · skip
                refine qi_if (fun cc24 => ?_) (fun cc24 => ?_)
                · skip
                  refine l_gI (e := (vI h v0 3)) rfl ?_
                  refine l_gO ?_
                  refine j_Mod_wrong (v0 := v0) (v1 := (vI h v0 3)) T kv0 ?_
                  intro hr28_25 Thr28_25 gr28_25_0 fr28_25_I fr28_25_A
                  try dsimp only
                  unfold f_Mod_replacement_228
                  refine l_gI (e := (vI h v0 41)) (by rw [fr28_25_I v0 41 (by omega)]) ?_
                  refine l_sI Thr28_25 (q_Mk kv0) (by decide) rfl ?_
                  intro h2i26_27 Th2i26_27 ih2i26_27 ah2i26_27
                  refine qi_mono (ih v0 v1 h2i26_27 Th2i26_27 kv0 (by show ∀ j, 0 ≤ j → j < n → vA h2i26_27 (v0 + 1) j = t j; rw [show vA h2i26_27 (v0 + 1) = vA h (v0 + 1) from (by rw [ah2i26_27 (v0 + 1), fr28_25_A (v0 + 1) (by omega)])] <;> (first | assumption | with_reducible rfl | grind)) (by show vI h2i26_27 v0 3 = n; rw [show vI h2i26_27 v0 3 = (vI h v0 3) from (by rw [ih2i26_27 v0 3, if_neg (fun z => absurd z.2 (by decide)), fr28_25_I v0 3 (by omega)])] <;> (first | assumption | with_reducible rfl | grind)) n1 tp (by show vI h2i26_27 v0 48 = 0 → 0 ≤ vI h2i26_27 v0 41; rw [show vI h2i26_27 v0 48 = 1 from (by rw [ih2i26_27 v0 48, if_neg (fun z => absurd z.2 (by decide)), gr28_25_0]), show vI h2i26_27 v0 41 = ((vI h v0 41) + 2) from (by rw [ih2i26_27 v0 41, if_pos ⟨rfl, rfl⟩])] <;> (intro z9; exact absurd z9 (by decide))) (by show vA h2i26_27 (v0 + 25) (vA h2i26_27 (v0 + 9) v1) = g; rw [show vA h2i26_27 (v0 + 25) = vA h (v0 + 25) from (by rw [ah2i26_27 (v0 + 25), fr28_25_A (v0 + 25) (by omega)]), show vA h2i26_27 (v0 + 9) = vA h (v0 + 9) from (by rw [ah2i26_27 (v0 + 9), fr28_25_A (v0 + 9) (by omega)])] <;> (first | assumption | with_reducible rfl | grind)) g3) ?_
                  rintro hrz28_29 ⟨Thrz28_29, ⟨g1rz28_29_0, g1rz28_29_1, g1rz28_29_2, f1rz28_29_I, f1rz28_29_A⟩ | ⟨g0rz28_29_0, g0rz28_29_1, f0rz28_29_I, f0rz28_29_A⟩⟩
                  · try dsimp only at *
                    rw [show vI h2i26_27 v0 48 = 1 from (by rw [ih2i26_27 v0 48, if_neg (fun z => absurd z.2 (by decide)), gr28_25_0])] at g1rz28_29_1
                    rw [show vI h2i26_27 v0 41 = ((vI h v0 41) + 2) from (by rw [ih2i26_27 v0 41, if_pos ⟨rfl, rfl⟩])] at g1rz28_29_2
                    exact absurd g1rz28_29_1 (by decide)
                  · try dsimp only at *
                    rw [show vI h2i26_27 v0 48 = 1 from (by rw [ih2i26_27 v0 48, if_neg (fun z => absurd z.2 (by decide)), gr28_25_0]), show vI h2i26_27 v0 41 = ((vI h v0 41) + 2) from (by rw [ih2i26_27 v0 41, if_pos ⟨rfl, rfl⟩])] at g0rz28_29_1
                    exact ⟨Thrz28_29, Or.inr ⟨g0rz28_29_0, (by show ¬ vI h v0 48 = 0 ∨ x_rep t n (vI h v0 41) g = none; refine Or.inr ?_; rw [x_re92 n2 cc23, cc24, if_neg (x_m1 _)]), (fun a k na => by rw [f0rz28_29_I a k (fun z => na (z.elim (fun z => Or.inl z) (fun z => z.elim (fun z => Or.inr (Or.inl z)) (fun z => Or.inr (Or.inr (z)))))), ih2i26_27 a k, if_neg (fun z => na (Or.inl z)), fr28_25_I a k (fun z => na (z.elim (fun z => Or.inr (Or.inl z)) (fun z => Or.inr (Or.inr (z)))))]), (fun a na => by rw [f0rz28_29_A a (fun z => na (z.elim (fun z => Or.inl z) (fun z => z.elim (fun z => Or.inr (Or.inl z)) (fun z => Or.inr (Or.inr (z)))))), ah2i26_27 a, fr28_25_A a (by omega)])⟩⟩
                · skip
                  refine j_Mod_in (v0 := (x_lk t n (vI h v0 41 + 1))) (v1 := (49 : Int32)) (v2 := (51 : Int32)) T (fun _ g1r17_30_0 => ?_) (fun _ g0r17_30_0 => ?_)
                  · try dsimp only
                    refine qi_if (fun cc31 => absurd cc31 (by decide)) (fun _ => ?_)
                    refine l_gR T (d_Mo_30 kv0) ?_
                    refine l_gR T (d_Mo_14 kv0) ?_
                    refine l_aI (e := (vA h (v0 + 9) v1)) (fun _ => rfl) (fun ix32 => ?_)
                    refine l_aI (e := (vA h (v0 + 25) (vA h (v0 + 9) v1))) (fun _ => rfl) (fun ix33 => ?_)
                    refine qi_if (fun cc34 => ?_) (fun cc34 => ?_)
                    · skip
                      unfold f_Mod_replacement_179
                      refine qi_if (fun cc36 => ?_) (fun cc36 => ?_)
                      · skip
                        unfold f_Mod_replacement_197
                        refine l_gO ?_
                        refine j_Mod_keep (v0 := v0) (v1 := (x_lk t n (vI h v0 41 + 1))) T kv0 ?_
                        intro hr2i37_38 Thr2i37_38 gr2i37_38_0 gr2i37_38_1 gr2i37_38_2 fr2i37_38_I fr2i37_38_A
                        try dsimp only
                        unfold f_Mod_replacement_228
                        refine l_gI (e := (vI h v0 41)) (by rw [fr2i37_38_I v0 41 (by omega)]) ?_
                        refine l_sI Thr2i37_38 (q_Mk kv0) (by decide) rfl ?_
                        intro h2i39_40 Th2i39_40 ih2i39_40 ah2i39_40
                        refine qi_mono (ih v0 v1 h2i39_40 Th2i39_40 kv0 (by show ∀ j, 0 ≤ j → j < n → vA h2i39_40 (v0 + 1) j = t j; rw [show vA h2i39_40 (v0 + 1) = vA h (v0 + 1) from (by rw [ah2i39_40 (v0 + 1), fr2i37_38_A (v0 + 1) (by omega)])] <;> (first | assumption | with_reducible rfl | grind)) (by show vI h2i39_40 v0 3 = n; rw [show vI h2i39_40 v0 3 = (vI h v0 3) from (by rw [ih2i39_40 v0 3, if_neg (fun z => absurd z.2 (by decide)), fr2i37_38_I v0 3 (by omega)])] <;> (first | assumption | with_reducible rfl | grind)) n1 tp (by show vI h2i39_40 v0 48 = 0 → 0 ≤ vI h2i39_40 v0 41; rw [show vI h2i39_40 v0 48 = (vI h v0 48) from (by rw [ih2i39_40 v0 48, if_neg (fun z => absurd z.2 (by decide)), fr2i37_38_I v0 48 (by omega)]), show vI h2i39_40 v0 41 = ((vI h v0 41) + 2) from (by rw [ih2i39_40 v0 41, if_pos ⟨rfl, rfl⟩])] <;> (intro z9; exact x_0le a0 (x_lp2 n2 (t := t) cc10))) (by show vA h2i39_40 (v0 + 25) (vA h2i39_40 (v0 + 9) v1) = g; rw [show vA h2i39_40 (v0 + 25) = vA h (v0 + 25) from (by rw [ah2i39_40 (v0 + 25), fr2i37_38_A (v0 + 25) (by omega)]), show vA h2i39_40 (v0 + 9) = vA h (v0 + 9) from (by rw [ah2i39_40 (v0 + 9), fr2i37_38_A (v0 + 9) (by omega)])] <;> (first | assumption | with_reducible rfl | grind)) g3) ?_
                        rintro hrz41_42 ⟨Thrz41_42, ⟨g1rz41_42_0, g1rz41_42_1, g1rz41_42_2, f1rz41_42_I, f1rz41_42_A⟩ | ⟨g0rz41_42_0, g0rz41_42_1, f0rz41_42_I, f0rz41_42_A⟩⟩
                        · try dsimp only at *
                          rw [show vI h2i39_40 v0 48 = (vI h v0 48) from (by rw [ih2i39_40 v0 48, if_neg (fun z => absurd z.2 (by decide)), fr2i37_38_I v0 48 (by omega)])] at g1rz41_42_1
                          rw [show vI h2i39_40 v0 41 = ((vI h v0 41) + 2) from (by rw [ih2i39_40 v0 41, if_pos ⟨rfl, rfl⟩])] at g1rz41_42_2
                          exact ⟨Thrz41_42, Or.inl ⟨(by show vI hrz41_42 v0 48 = 0; rw [show vI hrz41_42 v0 48 = 0 from (by rw [g1rz41_42_0])] <;> (first | assumption | with_reducible rfl | grind)), (by show vI h v0 48 = 0; first | assumption | with_reducible rfl | grind), (by show x_rep t n (vI h v0 41) g = some (vI hrz41_42 v0 41); rw [x_re92 n2 cc23, if_pos (by rw [cc36]; exact Or.inr (by decide))]; exact g1rz41_42_2), (fun a k na => by rw [f1rz41_42_I a k (fun z => na (z.elim (fun z => Or.inl z) (fun z => z.elim (fun z => Or.inr (Or.inl z)) (fun z => Or.inr (Or.inr (z)))))), ih2i39_40 a k, if_neg (fun z => na (Or.inl z)), fr2i37_38_I a k (by omega)]), (fun a na => by rw [f1rz41_42_A a (fun z => na (z.elim (fun z => Or.inl z) (fun z => z.elim (fun z => Or.inr (Or.inl z)) (fun z => Or.inr (Or.inr (z)))))), ah2i39_40 a, fr2i37_38_A a (fun z => na (z.elim (fun z => Or.inr (Or.inl z)) (fun z => Or.inr (Or.inr (z)))))])⟩⟩
                        · try dsimp only at *
                          rw [show vI h2i39_40 v0 48 = (vI h v0 48) from (by rw [ih2i39_40 v0 48, if_neg (fun z => absurd z.2 (by decide)), fr2i37_38_I v0 48 (by omega)]), show vI h2i39_40 v0 41 = ((vI h v0 41) + 2) from (by rw [ih2i39_40 v0 41, if_pos ⟨rfl, rfl⟩])] at g0rz41_42_1
                          exact ⟨Thrz41_42, Or.inr ⟨g0rz41_42_0, (by show ¬ vI h v0 48 = 0 ∨ x_rep t n (vI h v0 41) g = none; refine Or.inr ?_; rw [x_re92 n2 cc23, if_pos (by rw [cc36]; exact Or.inr (by decide))]; exact (g0rz41_42_1.resolve_left (fun z => z (by first | rfl | assumption)))), (fun a k na => by rw [f0rz41_42_I a k (fun z => na (z.elim (fun z => Or.inl z) (fun z => z.elim (fun z => Or.inr (Or.inl z)) (fun z => Or.inr (Or.inr (z)))))), ih2i39_40 a k, if_neg (fun z => na (Or.inl z)), fr2i37_38_I a k (by omega)]), (fun a na => by rw [f0rz41_42_A a (fun z => na (z.elim (fun z => Or.inl z) (fun z => z.elim (fun z => Or.inr (Or.inl z)) (fun z => Or.inr (Or.inr (z)))))), ah2i39_40 a, fr2i37_38_A a (fun z => na (z.elim (fun z => Or.inr (Or.inl z)) (fun z => Or.inr (Or.inr (z)))))])⟩⟩
                      · skip
                        refine qi_if (fun cc43 => ?_) (fun cc43 => ?_)
                        · skip
                          unfold f_Mod_replacement_197
                          refine l_gO ?_
                          refine j_Mod_keep (v0 := v0) (v1 := (x_lk t n (vI h v0 41 + 1))) T kv0 ?_
                          intro hr2i44_45 Thr2i44_45 gr2i44_45_0 gr2i44_45_1 gr2i44_45_2 fr2i44_45_I fr2i44_45_A
                          try dsimp only
                          unfold f_Mod_replacement_228
                          refine l_gI (e := (vI h v0 41)) (by rw [fr2i44_45_I v0 41 (by omega)]) ?_
                          refine l_sI Thr2i44_45 (q_Mk kv0) (by decide) rfl ?_
                          intro h2i46_47 Th2i46_47 ih2i46_47 ah2i46_47
                          refine qi_mono (ih v0 v1 h2i46_47 Th2i46_47 kv0 (by show ∀ j, 0 ≤ j → j < n → vA h2i46_47 (v0 + 1) j = t j; rw [show vA h2i46_47 (v0 + 1) = vA h (v0 + 1) from (by rw [ah2i46_47 (v0 + 1), fr2i44_45_A (v0 + 1) (by omega)])] <;> (first | assumption | with_reducible rfl | grind)) (by show vI h2i46_47 v0 3 = n; rw [show vI h2i46_47 v0 3 = (vI h v0 3) from (by rw [ih2i46_47 v0 3, if_neg (fun z => absurd z.2 (by decide)), fr2i44_45_I v0 3 (by omega)])] <;> (first | assumption | with_reducible rfl | grind)) n1 tp (by show vI h2i46_47 v0 48 = 0 → 0 ≤ vI h2i46_47 v0 41; rw [show vI h2i46_47 v0 48 = (vI h v0 48) from (by rw [ih2i46_47 v0 48, if_neg (fun z => absurd z.2 (by decide)), fr2i44_45_I v0 48 (by omega)]), show vI h2i46_47 v0 41 = ((vI h v0 41) + 2) from (by rw [ih2i46_47 v0 41, if_pos ⟨rfl, rfl⟩])] <;> (intro z9; exact x_0le a0 (x_lp2 n2 (t := t) cc10))) (by show vA h2i46_47 (v0 + 25) (vA h2i46_47 (v0 + 9) v1) = g; rw [show vA h2i46_47 (v0 + 25) = vA h (v0 + 25) from (by rw [ah2i46_47 (v0 + 25), fr2i44_45_A (v0 + 25) (by omega)]), show vA h2i46_47 (v0 + 9) = vA h (v0 + 9) from (by rw [ah2i46_47 (v0 + 9), fr2i44_45_A (v0 + 9) (by omega)])] <;> (first | assumption | with_reducible rfl | grind)) g3) ?_
                          rintro hrz48_49 ⟨Thrz48_49, ⟨g1rz48_49_0, g1rz48_49_1, g1rz48_49_2, f1rz48_49_I, f1rz48_49_A⟩ | ⟨g0rz48_49_0, g0rz48_49_1, f0rz48_49_I, f0rz48_49_A⟩⟩
                          · try dsimp only at *
                            rw [show vI h2i46_47 v0 48 = (vI h v0 48) from (by rw [ih2i46_47 v0 48, if_neg (fun z => absurd z.2 (by decide)), fr2i44_45_I v0 48 (by omega)])] at g1rz48_49_1
                            rw [show vI h2i46_47 v0 41 = ((vI h v0 41) + 2) from (by rw [ih2i46_47 v0 41, if_pos ⟨rfl, rfl⟩])] at g1rz48_49_2
                            exact ⟨Thrz48_49, Or.inl ⟨(by show vI hrz48_49 v0 48 = 0; rw [show vI hrz48_49 v0 48 = 0 from (by rw [g1rz48_49_0])] <;> (first | assumption | with_reducible rfl | grind)), (by show vI h v0 48 = 0; first | assumption | with_reducible rfl | grind), (by show x_rep t n (vI h v0 41) g = some (vI hrz48_49 v0 41); rw [x_re92 n2 cc23, if_pos (by rw [cc43]; exact Or.inr (by decide))]; exact g1rz48_49_2), (fun a k na => by rw [f1rz48_49_I a k (fun z => na (z.elim (fun z => Or.inl z) (fun z => z.elim (fun z => Or.inr (Or.inl z)) (fun z => Or.inr (Or.inr (z)))))), ih2i46_47 a k, if_neg (fun z => na (Or.inl z)), fr2i44_45_I a k (by omega)]), (fun a na => by rw [f1rz48_49_A a (fun z => na (z.elim (fun z => Or.inl z) (fun z => z.elim (fun z => Or.inr (Or.inl z)) (fun z => Or.inr (Or.inr (z)))))), ah2i46_47 a, fr2i44_45_A a (fun z => na (z.elim (fun z => Or.inr (Or.inl z)) (fun z => Or.inr (Or.inr (z)))))])⟩⟩
                          · try dsimp only at *
                            rw [show vI h2i46_47 v0 48 = (vI h v0 48) from (by rw [ih2i46_47 v0 48, if_neg (fun z => absurd z.2 (by decide)), fr2i44_45_I v0 48 (by omega)]), show vI h2i46_47 v0 41 = ((vI h v0 41) + 2) from (by rw [ih2i46_47 v0 41, if_pos ⟨rfl, rfl⟩])] at g0rz48_49_1
                            exact ⟨Thrz48_49, Or.inr ⟨g0rz48_49_0, (by show ¬ vI h v0 48 = 0 ∨ x_rep t n (vI h v0 41) g = none; refine Or.inr ?_; rw [x_re92 n2 cc23, if_pos (by rw [cc43]; exact Or.inr (by decide))]; exact (g0rz48_49_1.resolve_left (fun z => z (by first | rfl | assumption)))), (fun a k na => by rw [f0rz48_49_I a k (fun z => na (z.elim (fun z => Or.inl z) (fun z => z.elim (fun z => Or.inr (Or.inl z)) (fun z => Or.inr (Or.inr (z)))))), ih2i46_47 a k, if_neg (fun z => na (Or.inl z)), fr2i44_45_I a k (by omega)]), (fun a na => by rw [f0rz48_49_A a (fun z => na (z.elim (fun z => Or.inl z) (fun z => z.elim (fun z => Or.inr (Or.inl z)) (fun z => Or.inr (Or.inr (z)))))), ah2i46_47 a, fr2i44_45_A a (fun z => na (z.elim (fun z => Or.inr (Or.inl z)) (fun z => Or.inr (Or.inr (z)))))])⟩⟩
                        · skip
                          refine qi_if (fun cc50 => ?_) (fun cc50 => ?_)
                          · skip
                            unfold f_Mod_replacement_197
                            refine l_gO ?_
                            refine j_Mod_keep (v0 := v0) (v1 := (x_lk t n (vI h v0 41 + 1))) T kv0 ?_
                            intro hr2i51_52 Thr2i51_52 gr2i51_52_0 gr2i51_52_1 gr2i51_52_2 fr2i51_52_I fr2i51_52_A
                            try dsimp only
                            unfold f_Mod_replacement_228
                            refine l_gI (e := (vI h v0 41)) (by rw [fr2i51_52_I v0 41 (by omega)]) ?_
                            refine l_sI Thr2i51_52 (q_Mk kv0) (by decide) rfl ?_
                            intro h2i53_54 Th2i53_54 ih2i53_54 ah2i53_54
                            refine qi_mono (ih v0 v1 h2i53_54 Th2i53_54 kv0 (by show ∀ j, 0 ≤ j → j < n → vA h2i53_54 (v0 + 1) j = t j; rw [show vA h2i53_54 (v0 + 1) = vA h (v0 + 1) from (by rw [ah2i53_54 (v0 + 1), fr2i51_52_A (v0 + 1) (by omega)])] <;> (first | assumption | with_reducible rfl | grind)) (by show vI h2i53_54 v0 3 = n; rw [show vI h2i53_54 v0 3 = (vI h v0 3) from (by rw [ih2i53_54 v0 3, if_neg (fun z => absurd z.2 (by decide)), fr2i51_52_I v0 3 (by omega)])] <;> (first | assumption | with_reducible rfl | grind)) n1 tp (by show vI h2i53_54 v0 48 = 0 → 0 ≤ vI h2i53_54 v0 41; rw [show vI h2i53_54 v0 48 = (vI h v0 48) from (by rw [ih2i53_54 v0 48, if_neg (fun z => absurd z.2 (by decide)), fr2i51_52_I v0 48 (by omega)]), show vI h2i53_54 v0 41 = ((vI h v0 41) + 2) from (by rw [ih2i53_54 v0 41, if_pos ⟨rfl, rfl⟩])] <;> (intro z9; exact x_0le a0 (x_lp2 n2 (t := t) cc10))) (by show vA h2i53_54 (v0 + 25) (vA h2i53_54 (v0 + 9) v1) = g; rw [show vA h2i53_54 (v0 + 25) = vA h (v0 + 25) from (by rw [ah2i53_54 (v0 + 25), fr2i51_52_A (v0 + 25) (by omega)]), show vA h2i53_54 (v0 + 9) = vA h (v0 + 9) from (by rw [ah2i53_54 (v0 + 9), fr2i51_52_A (v0 + 9) (by omega)])] <;> (first | assumption | with_reducible rfl | grind)) g3) ?_
                            rintro hrz55_56 ⟨Thrz55_56, ⟨g1rz55_56_0, g1rz55_56_1, g1rz55_56_2, f1rz55_56_I, f1rz55_56_A⟩ | ⟨g0rz55_56_0, g0rz55_56_1, f0rz55_56_I, f0rz55_56_A⟩⟩
                            · try dsimp only at *
                              rw [show vI h2i53_54 v0 48 = (vI h v0 48) from (by rw [ih2i53_54 v0 48, if_neg (fun z => absurd z.2 (by decide)), fr2i51_52_I v0 48 (by omega)])] at g1rz55_56_1
                              rw [show vI h2i53_54 v0 41 = ((vI h v0 41) + 2) from (by rw [ih2i53_54 v0 41, if_pos ⟨rfl, rfl⟩])] at g1rz55_56_2
                              exact ⟨Thrz55_56, Or.inl ⟨(by show vI hrz55_56 v0 48 = 0; rw [show vI hrz55_56 v0 48 = 0 from (by rw [g1rz55_56_0])] <;> (first | assumption | with_reducible rfl | grind)), (by show vI h v0 48 = 0; first | assumption | with_reducible rfl | grind), (by show x_rep t n (vI h v0 41) g = some (vI hrz55_56 v0 41); rw [x_re92 n2 cc23, if_pos (by rw [cc50]; exact Or.inr (by decide))]; exact g1rz55_56_2), (fun a k na => by rw [f1rz55_56_I a k (fun z => na (z.elim (fun z => Or.inl z) (fun z => z.elim (fun z => Or.inr (Or.inl z)) (fun z => Or.inr (Or.inr (z)))))), ih2i53_54 a k, if_neg (fun z => na (Or.inl z)), fr2i51_52_I a k (by omega)]), (fun a na => by rw [f1rz55_56_A a (fun z => na (z.elim (fun z => Or.inl z) (fun z => z.elim (fun z => Or.inr (Or.inl z)) (fun z => Or.inr (Or.inr (z)))))), ah2i53_54 a, fr2i51_52_A a (fun z => na (z.elim (fun z => Or.inr (Or.inl z)) (fun z => Or.inr (Or.inr (z)))))])⟩⟩
                            · try dsimp only at *
                              rw [show vI h2i53_54 v0 48 = (vI h v0 48) from (by rw [ih2i53_54 v0 48, if_neg (fun z => absurd z.2 (by decide)), fr2i51_52_I v0 48 (by omega)]), show vI h2i53_54 v0 41 = ((vI h v0 41) + 2) from (by rw [ih2i53_54 v0 41, if_pos ⟨rfl, rfl⟩])] at g0rz55_56_1
                              exact ⟨Thrz55_56, Or.inr ⟨g0rz55_56_0, (by show ¬ vI h v0 48 = 0 ∨ x_rep t n (vI h v0 41) g = none; refine Or.inr ?_; rw [x_re92 n2 cc23, if_pos (by rw [cc50]; exact Or.inr (by decide))]; exact (g0rz55_56_1.resolve_left (fun z => z (by first | rfl | assumption)))), (fun a k na => by rw [f0rz55_56_I a k (fun z => na (z.elim (fun z => Or.inl z) (fun z => z.elim (fun z => Or.inr (Or.inl z)) (fun z => Or.inr (Or.inr (z)))))), ih2i53_54 a k, if_neg (fun z => na (Or.inl z)), fr2i51_52_I a k (by omega)]), (fun a na => by rw [f0rz55_56_A a (fun z => na (z.elim (fun z => Or.inl z) (fun z => z.elim (fun z => Or.inr (Or.inl z)) (fun z => Or.inr (Or.inr (z)))))), ah2i53_54 a, fr2i51_52_A a (fun z => na (z.elim (fun z => Or.inr (Or.inl z)) (fun z => Or.inr (Or.inr (z)))))])⟩⟩
                          · skip
                            refine qi_if (fun cc57 => ?_) (fun cc57 => ?_)
                            · skip
                              refine l_gO ?_
                              refine j_Mod_keep (v0 := v0) (v1 := (10 : Int32)) T kv0 ?_
                              intro hr9i35_58 Thr9i35_58 gr9i35_58_0 gr9i35_58_1 gr9i35_58_2 fr9i35_58_I fr9i35_58_A
                              try dsimp only
                              unfold f_Mod_replacement_228
                              refine l_gI (e := (vI h v0 41)) (by rw [fr9i35_58_I v0 41 (by omega)]) ?_
                              refine l_sI Thr9i35_58 (q_Mk kv0) (by decide) rfl ?_
                              intro h2i59_60 Th2i59_60 ih2i59_60 ah2i59_60
                              refine qi_mono (ih v0 v1 h2i59_60 Th2i59_60 kv0 (by show ∀ j, 0 ≤ j → j < n → vA h2i59_60 (v0 + 1) j = t j; rw [show vA h2i59_60 (v0 + 1) = vA h (v0 + 1) from (by rw [ah2i59_60 (v0 + 1), fr9i35_58_A (v0 + 1) (by omega)])] <;> (first | assumption | with_reducible rfl | grind)) (by show vI h2i59_60 v0 3 = n; rw [show vI h2i59_60 v0 3 = (vI h v0 3) from (by rw [ih2i59_60 v0 3, if_neg (fun z => absurd z.2 (by decide)), fr9i35_58_I v0 3 (by omega)])] <;> (first | assumption | with_reducible rfl | grind)) n1 tp (by show vI h2i59_60 v0 48 = 0 → 0 ≤ vI h2i59_60 v0 41; rw [show vI h2i59_60 v0 48 = (vI h v0 48) from (by rw [ih2i59_60 v0 48, if_neg (fun z => absurd z.2 (by decide)), fr9i35_58_I v0 48 (by omega)]), show vI h2i59_60 v0 41 = ((vI h v0 41) + 2) from (by rw [ih2i59_60 v0 41, if_pos ⟨rfl, rfl⟩])] <;> (intro z9; exact x_0le a0 (x_lp2 n2 (t := t) cc10))) (by show vA h2i59_60 (v0 + 25) (vA h2i59_60 (v0 + 9) v1) = g; rw [show vA h2i59_60 (v0 + 25) = vA h (v0 + 25) from (by rw [ah2i59_60 (v0 + 25), fr9i35_58_A (v0 + 25) (by omega)]), show vA h2i59_60 (v0 + 9) = vA h (v0 + 9) from (by rw [ah2i59_60 (v0 + 9), fr9i35_58_A (v0 + 9) (by omega)])] <;> (first | assumption | with_reducible rfl | grind)) g3) ?_
                              rintro hrz61_62 ⟨Thrz61_62, ⟨g1rz61_62_0, g1rz61_62_1, g1rz61_62_2, f1rz61_62_I, f1rz61_62_A⟩ | ⟨g0rz61_62_0, g0rz61_62_1, f0rz61_62_I, f0rz61_62_A⟩⟩
                              · try dsimp only at *
                                rw [show vI h2i59_60 v0 48 = (vI h v0 48) from (by rw [ih2i59_60 v0 48, if_neg (fun z => absurd z.2 (by decide)), fr9i35_58_I v0 48 (by omega)])] at g1rz61_62_1
                                rw [show vI h2i59_60 v0 41 = ((vI h v0 41) + 2) from (by rw [ih2i59_60 v0 41, if_pos ⟨rfl, rfl⟩])] at g1rz61_62_2
                                exact ⟨Thrz61_62, Or.inl ⟨(by show vI hrz61_62 v0 48 = 0; rw [show vI hrz61_62 v0 48 = 0 from (by rw [g1rz61_62_0])] <;> (first | assumption | with_reducible rfl | grind)), (by show vI h v0 48 = 0; first | assumption | with_reducible rfl | grind), (by show x_rep t n (vI h v0 41) g = some (vI hrz61_62 v0 41); rw [x_re92 n2 cc23, if_pos (by rw [cc57]; exact Or.inr (by decide))]; exact g1rz61_62_2), (fun a k na => by rw [f1rz61_62_I a k (fun z => na (z.elim (fun z => Or.inl z) (fun z => z.elim (fun z => Or.inr (Or.inl z)) (fun z => Or.inr (Or.inr (z)))))), ih2i59_60 a k, if_neg (fun z => na (Or.inl z)), fr9i35_58_I a k (by omega)]), (fun a na => by rw [f1rz61_62_A a (fun z => na (z.elim (fun z => Or.inl z) (fun z => z.elim (fun z => Or.inr (Or.inl z)) (fun z => Or.inr (Or.inr (z)))))), ah2i59_60 a, fr9i35_58_A a (fun z => na (z.elim (fun z => Or.inr (Or.inl z)) (fun z => Or.inr (Or.inr (z)))))])⟩⟩
                              · try dsimp only at *
                                rw [show vI h2i59_60 v0 48 = (vI h v0 48) from (by rw [ih2i59_60 v0 48, if_neg (fun z => absurd z.2 (by decide)), fr9i35_58_I v0 48 (by omega)]), show vI h2i59_60 v0 41 = ((vI h v0 41) + 2) from (by rw [ih2i59_60 v0 41, if_pos ⟨rfl, rfl⟩])] at g0rz61_62_1
                                exact ⟨Thrz61_62, Or.inr ⟨g0rz61_62_0, (by show ¬ vI h v0 48 = 0 ∨ x_rep t n (vI h v0 41) g = none; refine Or.inr ?_; rw [x_re92 n2 cc23, if_pos (by rw [cc57]; exact Or.inr (by decide))]; exact (g0rz61_62_1.resolve_left (fun z => z (by first | rfl | assumption)))), (fun a k na => by rw [f0rz61_62_I a k (fun z => na (z.elim (fun z => Or.inl z) (fun z => z.elim (fun z => Or.inr (Or.inl z)) (fun z => Or.inr (Or.inr (z)))))), ih2i59_60 a k, if_neg (fun z => na (Or.inl z)), fr9i35_58_I a k (by omega)]), (fun a na => by rw [f0rz61_62_A a (fun z => na (z.elim (fun z => Or.inl z) (fun z => z.elim (fun z => Or.inr (Or.inl z)) (fun z => Or.inr (Or.inr (z)))))), ah2i59_60 a, fr9i35_58_A a (fun z => na (z.elim (fun z => Or.inr (Or.inl z)) (fun z => Or.inr (Or.inr (z)))))])⟩⟩
                            · skip
                              refine l_gI (e := (vI h v0 41)) rfl ?_
                              refine l_gO ?_
                              refine j_Mod_wrong (v0 := v0) (v1 := (vI h v0 41)) T kv0 ?_
                              intro hr7i35_63 Thr7i35_63 gr7i35_63_0 fr7i35_63_I fr7i35_63_A
                              try dsimp only
                              unfold f_Mod_replacement_228
                              refine l_gI (e := (vI h v0 41)) (by rw [fr7i35_63_I v0 41 (by omega)]) ?_
                              refine l_sI Thr7i35_63 (q_Mk kv0) (by decide) rfl ?_
                              intro h2i64_65 Th2i64_65 ih2i64_65 ah2i64_65
                              refine qi_mono (ih v0 v1 h2i64_65 Th2i64_65 kv0 (by show ∀ j, 0 ≤ j → j < n → vA h2i64_65 (v0 + 1) j = t j; rw [show vA h2i64_65 (v0 + 1) = vA h (v0 + 1) from (by rw [ah2i64_65 (v0 + 1), fr7i35_63_A (v0 + 1) (by omega)])] <;> (first | assumption | with_reducible rfl | grind)) (by show vI h2i64_65 v0 3 = n; rw [show vI h2i64_65 v0 3 = (vI h v0 3) from (by rw [ih2i64_65 v0 3, if_neg (fun z => absurd z.2 (by decide)), fr7i35_63_I v0 3 (by omega)])] <;> (first | assumption | with_reducible rfl | grind)) n1 tp (by show vI h2i64_65 v0 48 = 0 → 0 ≤ vI h2i64_65 v0 41; rw [show vI h2i64_65 v0 48 = 1 from (by rw [ih2i64_65 v0 48, if_neg (fun z => absurd z.2 (by decide)), gr7i35_63_0]), show vI h2i64_65 v0 41 = ((vI h v0 41) + 2) from (by rw [ih2i64_65 v0 41, if_pos ⟨rfl, rfl⟩])] <;> (intro z9; exact absurd z9 (by decide))) (by show vA h2i64_65 (v0 + 25) (vA h2i64_65 (v0 + 9) v1) = g; rw [show vA h2i64_65 (v0 + 25) = vA h (v0 + 25) from (by rw [ah2i64_65 (v0 + 25), fr7i35_63_A (v0 + 25) (by omega)]), show vA h2i64_65 (v0 + 9) = vA h (v0 + 9) from (by rw [ah2i64_65 (v0 + 9), fr7i35_63_A (v0 + 9) (by omega)])] <;> (first | assumption | with_reducible rfl | grind)) g3) ?_
                              rintro hrz66_67 ⟨Thrz66_67, ⟨g1rz66_67_0, g1rz66_67_1, g1rz66_67_2, f1rz66_67_I, f1rz66_67_A⟩ | ⟨g0rz66_67_0, g0rz66_67_1, f0rz66_67_I, f0rz66_67_A⟩⟩
                              · try dsimp only at *
                                rw [show vI h2i64_65 v0 48 = 1 from (by rw [ih2i64_65 v0 48, if_neg (fun z => absurd z.2 (by decide)), gr7i35_63_0])] at g1rz66_67_1
                                rw [show vI h2i64_65 v0 41 = ((vI h v0 41) + 2) from (by rw [ih2i64_65 v0 41, if_pos ⟨rfl, rfl⟩])] at g1rz66_67_2
                                exact absurd g1rz66_67_1 (by decide)
                              · try dsimp only at *
                                rw [show vI h2i64_65 v0 48 = 1 from (by rw [ih2i64_65 v0 48, if_neg (fun z => absurd z.2 (by decide)), gr7i35_63_0]), show vI h2i64_65 v0 41 = ((vI h v0 41) + 2) from (by rw [ih2i64_65 v0 41, if_pos ⟨rfl, rfl⟩])] at g0rz66_67_1
                                exact ⟨Thrz66_67, Or.inr ⟨g0rz66_67_0, (by show ¬ vI h v0 48 = 0 ∨ x_rep t n (vI h v0 41) g = none; refine Or.inr ?_; rw [x_re92 n2 cc23, if_neg (x_rn g3 (by first | exact Or.inl (by assumption) | exact Or.inr (by rw [← hg]; assumption)) (by assumption) (by assumption) (by assumption) (by assumption))]), (fun a k na => by rw [f0rz66_67_I a k (fun z => na (z.elim (fun z => Or.inl z) (fun z => z.elim (fun z => Or.inr (Or.inl z)) (fun z => Or.inr (Or.inr (z)))))), ih2i64_65 a k, if_neg (fun z => na (Or.inl z)), fr7i35_63_I a k (fun z => na (z.elim (fun z => Or.inr (Or.inl z)) (fun z => Or.inr (Or.inr (z)))))]), (fun a na => by rw [f0rz66_67_A a (fun z => na (z.elim (fun z => Or.inl z) (fun z => z.elim (fun z => Or.inr (Or.inl z)) (fun z => Or.inr (Or.inr (z)))))), ah2i64_65 a, fr7i35_63_A a (by omega)])⟩⟩
                    · skip
                      refine l_gO ?_
                      refine j_Mod_keep (v0 := v0) (v1 := ((200 + (x_lk t n (vI h v0 41 + 1))) - 48)) T kv0 ?_
                      intro hr25_68 Thr25_68 gr25_68_0 gr25_68_1 gr25_68_2 fr25_68_I fr25_68_A
                      try dsimp only
                      unfold f_Mod_replacement_228
                      refine l_gI (e := (vI h v0 41)) (by rw [fr25_68_I v0 41 (by omega)]) ?_
                      refine l_sI Thr25_68 (q_Mk kv0) (by decide) rfl ?_
                      intro h2i69_70 Th2i69_70 ih2i69_70 ah2i69_70
                      refine qi_mono (ih v0 v1 h2i69_70 Th2i69_70 kv0 (by show ∀ j, 0 ≤ j → j < n → vA h2i69_70 (v0 + 1) j = t j; rw [show vA h2i69_70 (v0 + 1) = vA h (v0 + 1) from (by rw [ah2i69_70 (v0 + 1), fr25_68_A (v0 + 1) (by omega)])] <;> (first | assumption | with_reducible rfl | grind)) (by show vI h2i69_70 v0 3 = n; rw [show vI h2i69_70 v0 3 = (vI h v0 3) from (by rw [ih2i69_70 v0 3, if_neg (fun z => absurd z.2 (by decide)), fr25_68_I v0 3 (by omega)])] <;> (first | assumption | with_reducible rfl | grind)) n1 tp (by show vI h2i69_70 v0 48 = 0 → 0 ≤ vI h2i69_70 v0 41; rw [show vI h2i69_70 v0 48 = (vI h v0 48) from (by rw [ih2i69_70 v0 48, if_neg (fun z => absurd z.2 (by decide)), fr25_68_I v0 48 (by omega)]), show vI h2i69_70 v0 41 = ((vI h v0 41) + 2) from (by rw [ih2i69_70 v0 41, if_pos ⟨rfl, rfl⟩])] <;> (intro z9; exact x_0le a0 (x_lp2 n2 (t := t) cc10))) (by show vA h2i69_70 (v0 + 25) (vA h2i69_70 (v0 + 9) v1) = g; rw [show vA h2i69_70 (v0 + 25) = vA h (v0 + 25) from (by rw [ah2i69_70 (v0 + 25), fr25_68_A (v0 + 25) (by omega)]), show vA h2i69_70 (v0 + 9) = vA h (v0 + 9) from (by rw [ah2i69_70 (v0 + 9), fr25_68_A (v0 + 9) (by omega)])] <;> (first | assumption | with_reducible rfl | grind)) g3) ?_
                      rintro hrz71_72 ⟨Thrz71_72, ⟨g1rz71_72_0, g1rz71_72_1, g1rz71_72_2, f1rz71_72_I, f1rz71_72_A⟩ | ⟨g0rz71_72_0, g0rz71_72_1, f0rz71_72_I, f0rz71_72_A⟩⟩
                      · try dsimp only at *
                        rw [show vI h2i69_70 v0 48 = (vI h v0 48) from (by rw [ih2i69_70 v0 48, if_neg (fun z => absurd z.2 (by decide)), fr25_68_I v0 48 (by omega)])] at g1rz71_72_1
                        rw [show vI h2i69_70 v0 41 = ((vI h v0 41) + 2) from (by rw [ih2i69_70 v0 41, if_pos ⟨rfl, rfl⟩])] at g1rz71_72_2
                        exact ⟨Thrz71_72, Or.inl ⟨(by show vI hrz71_72 v0 48 = 0; rw [show vI hrz71_72 v0 48 = 0 from (by rw [g1rz71_72_0])] <;> (first | assumption | with_reducible rfl | grind)), (by show vI h v0 48 = 0; first | assumption | with_reducible rfl | grind), (by show x_rep t n (vI h v0 41) g = some (vI hrz71_72 v0 41); rw [x_re92 n2 cc23, if_pos (Or.inl (x_rg g3 (by assumption) (by rw [← hg]; assumption)))]; exact g1rz71_72_2), (fun a k na => by rw [f1rz71_72_I a k (fun z => na (z.elim (fun z => Or.inl z) (fun z => z.elim (fun z => Or.inr (Or.inl z)) (fun z => Or.inr (Or.inr (z)))))), ih2i69_70 a k, if_neg (fun z => na (Or.inl z)), fr25_68_I a k (by omega)]), (fun a na => by rw [f1rz71_72_A a (fun z => na (z.elim (fun z => Or.inl z) (fun z => z.elim (fun z => Or.inr (Or.inl z)) (fun z => Or.inr (Or.inr (z)))))), ah2i69_70 a, fr25_68_A a (fun z => na (z.elim (fun z => Or.inr (Or.inl z)) (fun z => Or.inr (Or.inr (z)))))])⟩⟩
                      · try dsimp only at *
                        rw [show vI h2i69_70 v0 48 = (vI h v0 48) from (by rw [ih2i69_70 v0 48, if_neg (fun z => absurd z.2 (by decide)), fr25_68_I v0 48 (by omega)]), show vI h2i69_70 v0 41 = ((vI h v0 41) + 2) from (by rw [ih2i69_70 v0 41, if_pos ⟨rfl, rfl⟩])] at g0rz71_72_1
                        exact ⟨Thrz71_72, Or.inr ⟨g0rz71_72_0, (by show ¬ vI h v0 48 = 0 ∨ x_rep t n (vI h v0 41) g = none; refine Or.inr ?_; rw [x_re92 n2 cc23, if_pos (Or.inl (x_rg g3 (by assumption) (by rw [← hg]; assumption)))]; exact (g0rz71_72_1.resolve_left (fun z => z (by first | rfl | assumption)))), (fun a k na => by rw [f0rz71_72_I a k (fun z => na (z.elim (fun z => Or.inl z) (fun z => z.elim (fun z => Or.inr (Or.inl z)) (fun z => Or.inr (Or.inr (z)))))), ih2i69_70 a k, if_neg (fun z => na (Or.inl z)), fr25_68_I a k (by omega)]), (fun a na => by rw [f0rz71_72_A a (fun z => na (z.elim (fun z => Or.inl z) (fun z => z.elim (fun z => Or.inr (Or.inl z)) (fun z => Or.inr (Or.inr (z)))))), ah2i69_70 a, fr25_68_A a (fun z => na (z.elim (fun z => Or.inr (Or.inl z)) (fun z => Or.inr (Or.inr (z)))))])⟩⟩
                  · try dsimp only
                    refine qi_if (fun _ => ?_) (fun cc73 => absurd (by decide) cc73)
                    unfold f_Mod_replacement_179
                    refine qi_if (fun cc75 => ?_) (fun cc75 => ?_)
                    · skip
                      unfold f_Mod_replacement_197
                      refine l_gO ?_
                      refine j_Mod_keep (v0 := v0) (v1 := (x_lk t n (vI h v0 41 + 1))) T kv0 ?_
                      intro hr2i76_77 Thr2i76_77 gr2i76_77_0 gr2i76_77_1 gr2i76_77_2 fr2i76_77_I fr2i76_77_A
                      try dsimp only
                      unfold f_Mod_replacement_228
                      refine l_gI (e := (vI h v0 41)) (by rw [fr2i76_77_I v0 41 (by omega)]) ?_
                      refine l_sI Thr2i76_77 (q_Mk kv0) (by decide) rfl ?_
                      intro h2i78_79 Th2i78_79 ih2i78_79 ah2i78_79
                      refine qi_mono (ih v0 v1 h2i78_79 Th2i78_79 kv0 (by show ∀ j, 0 ≤ j → j < n → vA h2i78_79 (v0 + 1) j = t j; rw [show vA h2i78_79 (v0 + 1) = vA h (v0 + 1) from (by rw [ah2i78_79 (v0 + 1), fr2i76_77_A (v0 + 1) (by omega)])] <;> (first | assumption | with_reducible rfl | grind)) (by show vI h2i78_79 v0 3 = n; rw [show vI h2i78_79 v0 3 = (vI h v0 3) from (by rw [ih2i78_79 v0 3, if_neg (fun z => absurd z.2 (by decide)), fr2i76_77_I v0 3 (by omega)])] <;> (first | assumption | with_reducible rfl | grind)) n1 tp (by show vI h2i78_79 v0 48 = 0 → 0 ≤ vI h2i78_79 v0 41; rw [show vI h2i78_79 v0 48 = (vI h v0 48) from (by rw [ih2i78_79 v0 48, if_neg (fun z => absurd z.2 (by decide)), fr2i76_77_I v0 48 (by omega)]), show vI h2i78_79 v0 41 = ((vI h v0 41) + 2) from (by rw [ih2i78_79 v0 41, if_pos ⟨rfl, rfl⟩])] <;> (intro z9; exact x_0le a0 (x_lp2 n2 (t := t) cc10))) (by show vA h2i78_79 (v0 + 25) (vA h2i78_79 (v0 + 9) v1) = g; rw [show vA h2i78_79 (v0 + 25) = vA h (v0 + 25) from (by rw [ah2i78_79 (v0 + 25), fr2i76_77_A (v0 + 25) (by omega)]), show vA h2i78_79 (v0 + 9) = vA h (v0 + 9) from (by rw [ah2i78_79 (v0 + 9), fr2i76_77_A (v0 + 9) (by omega)])] <;> (first | assumption | with_reducible rfl | grind)) g3) ?_
                      rintro hrz80_81 ⟨Thrz80_81, ⟨g1rz80_81_0, g1rz80_81_1, g1rz80_81_2, f1rz80_81_I, f1rz80_81_A⟩ | ⟨g0rz80_81_0, g0rz80_81_1, f0rz80_81_I, f0rz80_81_A⟩⟩
                      · try dsimp only at *
                        rw [show vI h2i78_79 v0 48 = (vI h v0 48) from (by rw [ih2i78_79 v0 48, if_neg (fun z => absurd z.2 (by decide)), fr2i76_77_I v0 48 (by omega)])] at g1rz80_81_1
                        rw [show vI h2i78_79 v0 41 = ((vI h v0 41) + 2) from (by rw [ih2i78_79 v0 41, if_pos ⟨rfl, rfl⟩])] at g1rz80_81_2
                        exact ⟨Thrz80_81, Or.inl ⟨(by show vI hrz80_81 v0 48 = 0; rw [show vI hrz80_81 v0 48 = 0 from (by rw [g1rz80_81_0])] <;> (first | assumption | with_reducible rfl | grind)), (by show vI h v0 48 = 0; first | assumption | with_reducible rfl | grind), (by show x_rep t n (vI h v0 41) g = some (vI hrz80_81 v0 41); rw [x_re92 n2 cc23, if_pos (by rw [cc75]; exact Or.inr (by decide))]; exact g1rz80_81_2), (fun a k na => by rw [f1rz80_81_I a k (fun z => na (z.elim (fun z => Or.inl z) (fun z => z.elim (fun z => Or.inr (Or.inl z)) (fun z => Or.inr (Or.inr (z)))))), ih2i78_79 a k, if_neg (fun z => na (Or.inl z)), fr2i76_77_I a k (by omega)]), (fun a na => by rw [f1rz80_81_A a (fun z => na (z.elim (fun z => Or.inl z) (fun z => z.elim (fun z => Or.inr (Or.inl z)) (fun z => Or.inr (Or.inr (z)))))), ah2i78_79 a, fr2i76_77_A a (fun z => na (z.elim (fun z => Or.inr (Or.inl z)) (fun z => Or.inr (Or.inr (z)))))])⟩⟩
                      · try dsimp only at *
                        rw [show vI h2i78_79 v0 48 = (vI h v0 48) from (by rw [ih2i78_79 v0 48, if_neg (fun z => absurd z.2 (by decide)), fr2i76_77_I v0 48 (by omega)]), show vI h2i78_79 v0 41 = ((vI h v0 41) + 2) from (by rw [ih2i78_79 v0 41, if_pos ⟨rfl, rfl⟩])] at g0rz80_81_1
                        exact ⟨Thrz80_81, Or.inr ⟨g0rz80_81_0, (by show ¬ vI h v0 48 = 0 ∨ x_rep t n (vI h v0 41) g = none; refine Or.inr ?_; rw [x_re92 n2 cc23, if_pos (by rw [cc75]; exact Or.inr (by decide))]; exact (g0rz80_81_1.resolve_left (fun z => z (by first | rfl | assumption)))), (fun a k na => by rw [f0rz80_81_I a k (fun z => na (z.elim (fun z => Or.inl z) (fun z => z.elim (fun z => Or.inr (Or.inl z)) (fun z => Or.inr (Or.inr (z)))))), ih2i78_79 a k, if_neg (fun z => na (Or.inl z)), fr2i76_77_I a k (by omega)]), (fun a na => by rw [f0rz80_81_A a (fun z => na (z.elim (fun z => Or.inl z) (fun z => z.elim (fun z => Or.inr (Or.inl z)) (fun z => Or.inr (Or.inr (z)))))), ah2i78_79 a, fr2i76_77_A a (fun z => na (z.elim (fun z => Or.inr (Or.inl z)) (fun z => Or.inr (Or.inr (z)))))])⟩⟩
                    · skip
                      refine qi_if (fun cc82 => ?_) (fun cc82 => ?_)
                      · skip
                        unfold f_Mod_replacement_197
                        refine l_gO ?_
                        refine j_Mod_keep (v0 := v0) (v1 := (x_lk t n (vI h v0 41 + 1))) T kv0 ?_
                        intro hr2i83_84 Thr2i83_84 gr2i83_84_0 gr2i83_84_1 gr2i83_84_2 fr2i83_84_I fr2i83_84_A
                        try dsimp only
                        unfold f_Mod_replacement_228
                        refine l_gI (e := (vI h v0 41)) (by rw [fr2i83_84_I v0 41 (by omega)]) ?_
                        refine l_sI Thr2i83_84 (q_Mk kv0) (by decide) rfl ?_
                        intro h2i85_86 Th2i85_86 ih2i85_86 ah2i85_86
                        refine qi_mono (ih v0 v1 h2i85_86 Th2i85_86 kv0 (by show ∀ j, 0 ≤ j → j < n → vA h2i85_86 (v0 + 1) j = t j; rw [show vA h2i85_86 (v0 + 1) = vA h (v0 + 1) from (by rw [ah2i85_86 (v0 + 1), fr2i83_84_A (v0 + 1) (by omega)])] <;> (first | assumption | with_reducible rfl | grind)) (by show vI h2i85_86 v0 3 = n; rw [show vI h2i85_86 v0 3 = (vI h v0 3) from (by rw [ih2i85_86 v0 3, if_neg (fun z => absurd z.2 (by decide)), fr2i83_84_I v0 3 (by omega)])] <;> (first | assumption | with_reducible rfl | grind)) n1 tp (by show vI h2i85_86 v0 48 = 0 → 0 ≤ vI h2i85_86 v0 41; rw [show vI h2i85_86 v0 48 = (vI h v0 48) from (by rw [ih2i85_86 v0 48, if_neg (fun z => absurd z.2 (by decide)), fr2i83_84_I v0 48 (by omega)]), show vI h2i85_86 v0 41 = ((vI h v0 41) + 2) from (by rw [ih2i85_86 v0 41, if_pos ⟨rfl, rfl⟩])] <;> (intro z9; exact x_0le a0 (x_lp2 n2 (t := t) cc10))) (by show vA h2i85_86 (v0 + 25) (vA h2i85_86 (v0 + 9) v1) = g; rw [show vA h2i85_86 (v0 + 25) = vA h (v0 + 25) from (by rw [ah2i85_86 (v0 + 25), fr2i83_84_A (v0 + 25) (by omega)]), show vA h2i85_86 (v0 + 9) = vA h (v0 + 9) from (by rw [ah2i85_86 (v0 + 9), fr2i83_84_A (v0 + 9) (by omega)])] <;> (first | assumption | with_reducible rfl | grind)) g3) ?_
                        rintro hrz87_88 ⟨Thrz87_88, ⟨g1rz87_88_0, g1rz87_88_1, g1rz87_88_2, f1rz87_88_I, f1rz87_88_A⟩ | ⟨g0rz87_88_0, g0rz87_88_1, f0rz87_88_I, f0rz87_88_A⟩⟩
                        · try dsimp only at *
                          rw [show vI h2i85_86 v0 48 = (vI h v0 48) from (by rw [ih2i85_86 v0 48, if_neg (fun z => absurd z.2 (by decide)), fr2i83_84_I v0 48 (by omega)])] at g1rz87_88_1
                          rw [show vI h2i85_86 v0 41 = ((vI h v0 41) + 2) from (by rw [ih2i85_86 v0 41, if_pos ⟨rfl, rfl⟩])] at g1rz87_88_2
                          exact ⟨Thrz87_88, Or.inl ⟨(by show vI hrz87_88 v0 48 = 0; rw [show vI hrz87_88 v0 48 = 0 from (by rw [g1rz87_88_0])] <;> (first | assumption | with_reducible rfl | grind)), (by show vI h v0 48 = 0; first | assumption | with_reducible rfl | grind), (by show x_rep t n (vI h v0 41) g = some (vI hrz87_88 v0 41); rw [x_re92 n2 cc23, if_pos (by rw [cc82]; exact Or.inr (by decide))]; exact g1rz87_88_2), (fun a k na => by rw [f1rz87_88_I a k (fun z => na (z.elim (fun z => Or.inl z) (fun z => z.elim (fun z => Or.inr (Or.inl z)) (fun z => Or.inr (Or.inr (z)))))), ih2i85_86 a k, if_neg (fun z => na (Or.inl z)), fr2i83_84_I a k (by omega)]), (fun a na => by rw [f1rz87_88_A a (fun z => na (z.elim (fun z => Or.inl z) (fun z => z.elim (fun z => Or.inr (Or.inl z)) (fun z => Or.inr (Or.inr (z)))))), ah2i85_86 a, fr2i83_84_A a (fun z => na (z.elim (fun z => Or.inr (Or.inl z)) (fun z => Or.inr (Or.inr (z)))))])⟩⟩
                        · try dsimp only at *
                          rw [show vI h2i85_86 v0 48 = (vI h v0 48) from (by rw [ih2i85_86 v0 48, if_neg (fun z => absurd z.2 (by decide)), fr2i83_84_I v0 48 (by omega)]), show vI h2i85_86 v0 41 = ((vI h v0 41) + 2) from (by rw [ih2i85_86 v0 41, if_pos ⟨rfl, rfl⟩])] at g0rz87_88_1
                          exact ⟨Thrz87_88, Or.inr ⟨g0rz87_88_0, (by show ¬ vI h v0 48 = 0 ∨ x_rep t n (vI h v0 41) g = none; refine Or.inr ?_; rw [x_re92 n2 cc23, if_pos (by rw [cc82]; exact Or.inr (by decide))]; exact (g0rz87_88_1.resolve_left (fun z => z (by first | rfl | assumption)))), (fun a k na => by rw [f0rz87_88_I a k (fun z => na (z.elim (fun z => Or.inl z) (fun z => z.elim (fun z => Or.inr (Or.inl z)) (fun z => Or.inr (Or.inr (z)))))), ih2i85_86 a k, if_neg (fun z => na (Or.inl z)), fr2i83_84_I a k (by omega)]), (fun a na => by rw [f0rz87_88_A a (fun z => na (z.elim (fun z => Or.inl z) (fun z => z.elim (fun z => Or.inr (Or.inl z)) (fun z => Or.inr (Or.inr (z)))))), ah2i85_86 a, fr2i83_84_A a (fun z => na (z.elim (fun z => Or.inr (Or.inl z)) (fun z => Or.inr (Or.inr (z)))))])⟩⟩
                      · skip
                        refine qi_if (fun cc89 => ?_) (fun cc89 => ?_)
                        · skip
                          unfold f_Mod_replacement_197
                          refine l_gO ?_
                          refine j_Mod_keep (v0 := v0) (v1 := (x_lk t n (vI h v0 41 + 1))) T kv0 ?_
                          intro hr2i90_91 Thr2i90_91 gr2i90_91_0 gr2i90_91_1 gr2i90_91_2 fr2i90_91_I fr2i90_91_A
                          try dsimp only
                          unfold f_Mod_replacement_228
                          refine l_gI (e := (vI h v0 41)) (by rw [fr2i90_91_I v0 41 (by omega)]) ?_
                          refine l_sI Thr2i90_91 (q_Mk kv0) (by decide) rfl ?_
                          intro h2i92_93 Th2i92_93 ih2i92_93 ah2i92_93
                          refine qi_mono (ih v0 v1 h2i92_93 Th2i92_93 kv0 (by show ∀ j, 0 ≤ j → j < n → vA h2i92_93 (v0 + 1) j = t j; rw [show vA h2i92_93 (v0 + 1) = vA h (v0 + 1) from (by rw [ah2i92_93 (v0 + 1), fr2i90_91_A (v0 + 1) (by omega)])] <;> (first | assumption | with_reducible rfl | grind)) (by show vI h2i92_93 v0 3 = n; rw [show vI h2i92_93 v0 3 = (vI h v0 3) from (by rw [ih2i92_93 v0 3, if_neg (fun z => absurd z.2 (by decide)), fr2i90_91_I v0 3 (by omega)])] <;> (first | assumption | with_reducible rfl | grind)) n1 tp (by show vI h2i92_93 v0 48 = 0 → 0 ≤ vI h2i92_93 v0 41; rw [show vI h2i92_93 v0 48 = (vI h v0 48) from (by rw [ih2i92_93 v0 48, if_neg (fun z => absurd z.2 (by decide)), fr2i90_91_I v0 48 (by omega)]), show vI h2i92_93 v0 41 = ((vI h v0 41) + 2) from (by rw [ih2i92_93 v0 41, if_pos ⟨rfl, rfl⟩])] <;> (intro z9; exact x_0le a0 (x_lp2 n2 (t := t) cc10))) (by show vA h2i92_93 (v0 + 25) (vA h2i92_93 (v0 + 9) v1) = g; rw [show vA h2i92_93 (v0 + 25) = vA h (v0 + 25) from (by rw [ah2i92_93 (v0 + 25), fr2i90_91_A (v0 + 25) (by omega)]), show vA h2i92_93 (v0 + 9) = vA h (v0 + 9) from (by rw [ah2i92_93 (v0 + 9), fr2i90_91_A (v0 + 9) (by omega)])] <;> (first | assumption | with_reducible rfl | grind)) g3) ?_
                          rintro hrz94_95 ⟨Thrz94_95, ⟨g1rz94_95_0, g1rz94_95_1, g1rz94_95_2, f1rz94_95_I, f1rz94_95_A⟩ | ⟨g0rz94_95_0, g0rz94_95_1, f0rz94_95_I, f0rz94_95_A⟩⟩
                          · try dsimp only at *
                            rw [show vI h2i92_93 v0 48 = (vI h v0 48) from (by rw [ih2i92_93 v0 48, if_neg (fun z => absurd z.2 (by decide)), fr2i90_91_I v0 48 (by omega)])] at g1rz94_95_1
                            rw [show vI h2i92_93 v0 41 = ((vI h v0 41) + 2) from (by rw [ih2i92_93 v0 41, if_pos ⟨rfl, rfl⟩])] at g1rz94_95_2
                            exact ⟨Thrz94_95, Or.inl ⟨(by show vI hrz94_95 v0 48 = 0; rw [show vI hrz94_95 v0 48 = 0 from (by rw [g1rz94_95_0])] <;> (first | assumption | with_reducible rfl | grind)), (by show vI h v0 48 = 0; first | assumption | with_reducible rfl | grind), (by show x_rep t n (vI h v0 41) g = some (vI hrz94_95 v0 41); rw [x_re92 n2 cc23, if_pos (by rw [cc89]; exact Or.inr (by decide))]; exact g1rz94_95_2), (fun a k na => by rw [f1rz94_95_I a k (fun z => na (z.elim (fun z => Or.inl z) (fun z => z.elim (fun z => Or.inr (Or.inl z)) (fun z => Or.inr (Or.inr (z)))))), ih2i92_93 a k, if_neg (fun z => na (Or.inl z)), fr2i90_91_I a k (by omega)]), (fun a na => by rw [f1rz94_95_A a (fun z => na (z.elim (fun z => Or.inl z) (fun z => z.elim (fun z => Or.inr (Or.inl z)) (fun z => Or.inr (Or.inr (z)))))), ah2i92_93 a, fr2i90_91_A a (fun z => na (z.elim (fun z => Or.inr (Or.inl z)) (fun z => Or.inr (Or.inr (z)))))])⟩⟩
                          · try dsimp only at *
                            rw [show vI h2i92_93 v0 48 = (vI h v0 48) from (by rw [ih2i92_93 v0 48, if_neg (fun z => absurd z.2 (by decide)), fr2i90_91_I v0 48 (by omega)]), show vI h2i92_93 v0 41 = ((vI h v0 41) + 2) from (by rw [ih2i92_93 v0 41, if_pos ⟨rfl, rfl⟩])] at g0rz94_95_1
                            exact ⟨Thrz94_95, Or.inr ⟨g0rz94_95_0, (by show ¬ vI h v0 48 = 0 ∨ x_rep t n (vI h v0 41) g = none; refine Or.inr ?_; rw [x_re92 n2 cc23, if_pos (by rw [cc89]; exact Or.inr (by decide))]; exact (g0rz94_95_1.resolve_left (fun z => z (by first | rfl | assumption)))), (fun a k na => by rw [f0rz94_95_I a k (fun z => na (z.elim (fun z => Or.inl z) (fun z => z.elim (fun z => Or.inr (Or.inl z)) (fun z => Or.inr (Or.inr (z)))))), ih2i92_93 a k, if_neg (fun z => na (Or.inl z)), fr2i90_91_I a k (by omega)]), (fun a na => by rw [f0rz94_95_A a (fun z => na (z.elim (fun z => Or.inl z) (fun z => z.elim (fun z => Or.inr (Or.inl z)) (fun z => Or.inr (Or.inr (z)))))), ah2i92_93 a, fr2i90_91_A a (fun z => na (z.elim (fun z => Or.inr (Or.inl z)) (fun z => Or.inr (Or.inr (z)))))])⟩⟩
                        · skip
                          refine qi_if (fun cc96 => ?_) (fun cc96 => ?_)
                          · skip
                            refine l_gO ?_
                            refine j_Mod_keep (v0 := v0) (v1 := (10 : Int32)) T kv0 ?_
                            intro hr9i74_97 Thr9i74_97 gr9i74_97_0 gr9i74_97_1 gr9i74_97_2 fr9i74_97_I fr9i74_97_A
                            try dsimp only
                            unfold f_Mod_replacement_228
                            refine l_gI (e := (vI h v0 41)) (by rw [fr9i74_97_I v0 41 (by omega)]) ?_
                            refine l_sI Thr9i74_97 (q_Mk kv0) (by decide) rfl ?_
                            intro h2i98_99 Th2i98_99 ih2i98_99 ah2i98_99
                            refine qi_mono (ih v0 v1 h2i98_99 Th2i98_99 kv0 (by show ∀ j, 0 ≤ j → j < n → vA h2i98_99 (v0 + 1) j = t j; rw [show vA h2i98_99 (v0 + 1) = vA h (v0 + 1) from (by rw [ah2i98_99 (v0 + 1), fr9i74_97_A (v0 + 1) (by omega)])] <;> (first | assumption | with_reducible rfl | grind)) (by show vI h2i98_99 v0 3 = n; rw [show vI h2i98_99 v0 3 = (vI h v0 3) from (by rw [ih2i98_99 v0 3, if_neg (fun z => absurd z.2 (by decide)), fr9i74_97_I v0 3 (by omega)])] <;> (first | assumption | with_reducible rfl | grind)) n1 tp (by show vI h2i98_99 v0 48 = 0 → 0 ≤ vI h2i98_99 v0 41; rw [show vI h2i98_99 v0 48 = (vI h v0 48) from (by rw [ih2i98_99 v0 48, if_neg (fun z => absurd z.2 (by decide)), fr9i74_97_I v0 48 (by omega)]), show vI h2i98_99 v0 41 = ((vI h v0 41) + 2) from (by rw [ih2i98_99 v0 41, if_pos ⟨rfl, rfl⟩])] <;> (intro z9; exact x_0le a0 (x_lp2 n2 (t := t) cc10))) (by show vA h2i98_99 (v0 + 25) (vA h2i98_99 (v0 + 9) v1) = g; rw [show vA h2i98_99 (v0 + 25) = vA h (v0 + 25) from (by rw [ah2i98_99 (v0 + 25), fr9i74_97_A (v0 + 25) (by omega)]), show vA h2i98_99 (v0 + 9) = vA h (v0 + 9) from (by rw [ah2i98_99 (v0 + 9), fr9i74_97_A (v0 + 9) (by omega)])] <;> (first | assumption | with_reducible rfl | grind)) g3) ?_
                            rintro hrz100_101 ⟨Thrz100_101, ⟨g1rz100_101_0, g1rz100_101_1, g1rz100_101_2, f1rz100_101_I, f1rz100_101_A⟩ | ⟨g0rz100_101_0, g0rz100_101_1, f0rz100_101_I, f0rz100_101_A⟩⟩
                            · try dsimp only at *
                              rw [show vI h2i98_99 v0 48 = (vI h v0 48) from (by rw [ih2i98_99 v0 48, if_neg (fun z => absurd z.2 (by decide)), fr9i74_97_I v0 48 (by omega)])] at g1rz100_101_1
                              rw [show vI h2i98_99 v0 41 = ((vI h v0 41) + 2) from (by rw [ih2i98_99 v0 41, if_pos ⟨rfl, rfl⟩])] at g1rz100_101_2
                              exact ⟨Thrz100_101, Or.inl ⟨(by show vI hrz100_101 v0 48 = 0; rw [show vI hrz100_101 v0 48 = 0 from (by rw [g1rz100_101_0])] <;> (first | assumption | with_reducible rfl | grind)), (by show vI h v0 48 = 0; first | assumption | with_reducible rfl | grind), (by show x_rep t n (vI h v0 41) g = some (vI hrz100_101 v0 41); rw [x_re92 n2 cc23, if_pos (by rw [cc96]; exact Or.inr (by decide))]; exact g1rz100_101_2), (fun a k na => by rw [f1rz100_101_I a k (fun z => na (z.elim (fun z => Or.inl z) (fun z => z.elim (fun z => Or.inr (Or.inl z)) (fun z => Or.inr (Or.inr (z)))))), ih2i98_99 a k, if_neg (fun z => na (Or.inl z)), fr9i74_97_I a k (by omega)]), (fun a na => by rw [f1rz100_101_A a (fun z => na (z.elim (fun z => Or.inl z) (fun z => z.elim (fun z => Or.inr (Or.inl z)) (fun z => Or.inr (Or.inr (z)))))), ah2i98_99 a, fr9i74_97_A a (fun z => na (z.elim (fun z => Or.inr (Or.inl z)) (fun z => Or.inr (Or.inr (z)))))])⟩⟩
                            · try dsimp only at *
                              rw [show vI h2i98_99 v0 48 = (vI h v0 48) from (by rw [ih2i98_99 v0 48, if_neg (fun z => absurd z.2 (by decide)), fr9i74_97_I v0 48 (by omega)]), show vI h2i98_99 v0 41 = ((vI h v0 41) + 2) from (by rw [ih2i98_99 v0 41, if_pos ⟨rfl, rfl⟩])] at g0rz100_101_1
                              exact ⟨Thrz100_101, Or.inr ⟨g0rz100_101_0, (by show ¬ vI h v0 48 = 0 ∨ x_rep t n (vI h v0 41) g = none; refine Or.inr ?_; rw [x_re92 n2 cc23, if_pos (by rw [cc96]; exact Or.inr (by decide))]; exact (g0rz100_101_1.resolve_left (fun z => z (by first | rfl | assumption)))), (fun a k na => by rw [f0rz100_101_I a k (fun z => na (z.elim (fun z => Or.inl z) (fun z => z.elim (fun z => Or.inr (Or.inl z)) (fun z => Or.inr (Or.inr (z)))))), ih2i98_99 a k, if_neg (fun z => na (Or.inl z)), fr9i74_97_I a k (by omega)]), (fun a na => by rw [f0rz100_101_A a (fun z => na (z.elim (fun z => Or.inl z) (fun z => z.elim (fun z => Or.inr (Or.inl z)) (fun z => Or.inr (Or.inr (z)))))), ah2i98_99 a, fr9i74_97_A a (fun z => na (z.elim (fun z => Or.inr (Or.inl z)) (fun z => Or.inr (Or.inr (z)))))])⟩⟩
                          · skip
                            refine l_gI (e := (vI h v0 41)) rfl ?_
                            refine l_gO ?_
                            refine j_Mod_wrong (v0 := v0) (v1 := (vI h v0 41)) T kv0 ?_
                            intro hr7i74_102 Thr7i74_102 gr7i74_102_0 fr7i74_102_I fr7i74_102_A
                            try dsimp only
                            unfold f_Mod_replacement_228
                            refine l_gI (e := (vI h v0 41)) (by rw [fr7i74_102_I v0 41 (by omega)]) ?_
                            refine l_sI Thr7i74_102 (q_Mk kv0) (by decide) rfl ?_
                            intro h2i103_104 Th2i103_104 ih2i103_104 ah2i103_104
                            refine qi_mono (ih v0 v1 h2i103_104 Th2i103_104 kv0 (by show ∀ j, 0 ≤ j → j < n → vA h2i103_104 (v0 + 1) j = t j; rw [show vA h2i103_104 (v0 + 1) = vA h (v0 + 1) from (by rw [ah2i103_104 (v0 + 1), fr7i74_102_A (v0 + 1) (by omega)])] <;> (first | assumption | with_reducible rfl | grind)) (by show vI h2i103_104 v0 3 = n; rw [show vI h2i103_104 v0 3 = (vI h v0 3) from (by rw [ih2i103_104 v0 3, if_neg (fun z => absurd z.2 (by decide)), fr7i74_102_I v0 3 (by omega)])] <;> (first | assumption | with_reducible rfl | grind)) n1 tp (by show vI h2i103_104 v0 48 = 0 → 0 ≤ vI h2i103_104 v0 41; rw [show vI h2i103_104 v0 48 = 1 from (by rw [ih2i103_104 v0 48, if_neg (fun z => absurd z.2 (by decide)), gr7i74_102_0]), show vI h2i103_104 v0 41 = ((vI h v0 41) + 2) from (by rw [ih2i103_104 v0 41, if_pos ⟨rfl, rfl⟩])] <;> (intro z9; exact absurd z9 (by decide))) (by show vA h2i103_104 (v0 + 25) (vA h2i103_104 (v0 + 9) v1) = g; rw [show vA h2i103_104 (v0 + 25) = vA h (v0 + 25) from (by rw [ah2i103_104 (v0 + 25), fr7i74_102_A (v0 + 25) (by omega)]), show vA h2i103_104 (v0 + 9) = vA h (v0 + 9) from (by rw [ah2i103_104 (v0 + 9), fr7i74_102_A (v0 + 9) (by omega)])] <;> (first | assumption | with_reducible rfl | grind)) g3) ?_
                            rintro hrz105_106 ⟨Thrz105_106, ⟨g1rz105_106_0, g1rz105_106_1, g1rz105_106_2, f1rz105_106_I, f1rz105_106_A⟩ | ⟨g0rz105_106_0, g0rz105_106_1, f0rz105_106_I, f0rz105_106_A⟩⟩
                            · try dsimp only at *
                              rw [show vI h2i103_104 v0 48 = 1 from (by rw [ih2i103_104 v0 48, if_neg (fun z => absurd z.2 (by decide)), gr7i74_102_0])] at g1rz105_106_1
                              rw [show vI h2i103_104 v0 41 = ((vI h v0 41) + 2) from (by rw [ih2i103_104 v0 41, if_pos ⟨rfl, rfl⟩])] at g1rz105_106_2
                              exact absurd g1rz105_106_1 (by decide)
                            · try dsimp only at *
                              rw [show vI h2i103_104 v0 48 = 1 from (by rw [ih2i103_104 v0 48, if_neg (fun z => absurd z.2 (by decide)), gr7i74_102_0]), show vI h2i103_104 v0 41 = ((vI h v0 41) + 2) from (by rw [ih2i103_104 v0 41, if_pos ⟨rfl, rfl⟩])] at g0rz105_106_1
                              exact ⟨Thrz105_106, Or.inr ⟨g0rz105_106_0, (by show ¬ vI h v0 48 = 0 ∨ x_rep t n (vI h v0 41) g = none; refine Or.inr ?_; rw [x_re92 n2 cc23, if_neg (x_rn g3 (by first | exact Or.inl (by assumption) | exact Or.inr (by rw [← hg]; assumption)) (by assumption) (by assumption) (by assumption) (by assumption))]), (fun a k na => by rw [f0rz105_106_I a k (fun z => na (z.elim (fun z => Or.inl z) (fun z => z.elim (fun z => Or.inr (Or.inl z)) (fun z => Or.inr (Or.inr (z)))))), ih2i103_104 a k, if_neg (fun z => na (Or.inl z)), fr7i74_102_I a k (fun z => na (z.elim (fun z => Or.inr (Or.inl z)) (fun z => Or.inr (Or.inr (z)))))]), (fun a na => by rw [f0rz105_106_A a (fun z => na (z.elim (fun z => Or.inl z) (fun z => z.elim (fun z => Or.inr (Or.inl z)) (fun z => Or.inr (Or.inr (z)))))), ah2i103_104 a, fr7i74_102_A a (by omega)])⟩⟩
              · skip
                refine l_gO ?_
                refine j_Mod_keep (v0 := v0) (v1 := (x_lk t n (vI h v0 41))) T kv0 ?_
                intro hr30_107 Thr30_107 gr30_107_0 gr30_107_1 gr30_107_2 fr30_107_I fr30_107_A
                try dsimp only
                refine l_gI (e := (vI h v0 41)) (by rw [fr30_107_I v0 41 (by omega)]) ?_
                refine l_sI Thr30_107 (q_Mk kv0) (by decide) rfl ?_
                intro h32_108 Th32_108 ih32_108 ah32_108
                refine qi_mono (ih v0 v1 h32_108 Th32_108 kv0 (by show ∀ j, 0 ≤ j → j < n → vA h32_108 (v0 + 1) j = t j; rw [show vA h32_108 (v0 + 1) = vA h (v0 + 1) from (by rw [ah32_108 (v0 + 1), fr30_107_A (v0 + 1) (by omega)])] <;> (first | assumption | with_reducible rfl | grind)) (by show vI h32_108 v0 3 = n; rw [show vI h32_108 v0 3 = (vI h v0 3) from (by rw [ih32_108 v0 3, if_neg (fun z => absurd z.2 (by decide)), fr30_107_I v0 3 (by omega)])] <;> (first | assumption | with_reducible rfl | grind)) n1 tp (by show vI h32_108 v0 48 = 0 → 0 ≤ vI h32_108 v0 41; rw [show vI h32_108 v0 48 = (vI h v0 48) from (by rw [ih32_108 v0 48, if_neg (fun z => absurd z.2 (by decide)), fr30_107_I v0 48 (by omega)]), show vI h32_108 v0 41 = ((vI h v0 41) + 1) from (by rw [ih32_108 v0 41, if_pos ⟨rfl, rfl⟩])] <;> (intro z9; exact x_0le a0 (x_lp1 n2 (t := t) cc10))) (by show vA h32_108 (v0 + 25) (vA h32_108 (v0 + 9) v1) = g; rw [show vA h32_108 (v0 + 25) = vA h (v0 + 25) from (by rw [ah32_108 (v0 + 25), fr30_107_A (v0 + 25) (by omega)]), show vA h32_108 (v0 + 9) = vA h (v0 + 9) from (by rw [ah32_108 (v0 + 9), fr30_107_A (v0 + 9) (by omega)])] <;> (first | assumption | with_reducible rfl | grind)) g3) ?_
                rintro hrz109_110 ⟨Thrz109_110, ⟨g1rz109_110_0, g1rz109_110_1, g1rz109_110_2, f1rz109_110_I, f1rz109_110_A⟩ | ⟨g0rz109_110_0, g0rz109_110_1, f0rz109_110_I, f0rz109_110_A⟩⟩
                · try dsimp only at *
                  rw [show vI h32_108 v0 48 = (vI h v0 48) from (by rw [ih32_108 v0 48, if_neg (fun z => absurd z.2 (by decide)), fr30_107_I v0 48 (by omega)])] at g1rz109_110_1
                  rw [show vI h32_108 v0 41 = ((vI h v0 41) + 1) from (by rw [ih32_108 v0 41, if_pos ⟨rfl, rfl⟩])] at g1rz109_110_2
                  exact ⟨Thrz109_110, Or.inl ⟨(by show vI hrz109_110 v0 48 = 0; rw [show vI hrz109_110 v0 48 = 0 from (by rw [g1rz109_110_0])] <;> (first | assumption | with_reducible rfl | grind)), (by show vI h v0 48 = 0; first | assumption | with_reducible rfl | grind), (by show x_rep t n (vI h v0 41) g = some (vI hrz109_110 v0 41); exact (x_repl n2 cc10 cc3 cc14 cc23).trans g1rz109_110_2), (fun a k na => by rw [f1rz109_110_I a k (fun z => na (z.elim (fun z => Or.inl z) (fun z => z.elim (fun z => Or.inr (Or.inl z)) (fun z => Or.inr (Or.inr (z)))))), ih32_108 a k, if_neg (fun z => na (Or.inl z)), fr30_107_I a k (by omega)]), (fun a na => by rw [f1rz109_110_A a (fun z => na (z.elim (fun z => Or.inl z) (fun z => z.elim (fun z => Or.inr (Or.inl z)) (fun z => Or.inr (Or.inr (z)))))), ah32_108 a, fr30_107_A a (fun z => na (z.elim (fun z => Or.inr (Or.inl z)) (fun z => Or.inr (Or.inr (z)))))])⟩⟩
                · try dsimp only at *
                  rw [show vI h32_108 v0 48 = (vI h v0 48) from (by rw [ih32_108 v0 48, if_neg (fun z => absurd z.2 (by decide)), fr30_107_I v0 48 (by omega)]), show vI h32_108 v0 41 = ((vI h v0 41) + 1) from (by rw [ih32_108 v0 41, if_pos ⟨rfl, rfl⟩])] at g0rz109_110_1
                  exact ⟨Thrz109_110, Or.inr ⟨g0rz109_110_0, (by show ¬ vI h v0 48 = 0 ∨ x_rep t n (vI h v0 41) g = none; refine Or.inr ?_; exact (x_repl n2 cc10 cc3 cc14 cc23).trans (g0rz109_110_1.resolve_left (fun z => z (by first | rfl | assumption)))), (fun a k na => by rw [f0rz109_110_I a k (fun z => na (z.elim (fun z => Or.inl z) (fun z => z.elim (fun z => Or.inr (Or.inl z)) (fun z => Or.inr (Or.inr (z)))))), ih32_108 a k, if_neg (fun z => na (Or.inl z)), fr30_107_I a k (by omega)]), (fun a na => by rw [f0rz109_110_A a (fun z => na (z.elim (fun z => Or.inl z) (fun z => z.elim (fun z => Or.inr (Or.inl z)) (fun z => Or.inr (Or.inr (z)))))), ah32_108 a, fr30_107_A a (fun z => na (z.elim (fun z => Or.inr (Or.inl z)) (fun z => Or.inr (Or.inr (z)))))])⟩⟩
    · skip
      unfold f_Mod_replacement_241
      refine l_gI (e := (vI h v0 41)) rfl ?_
      refine l_sI T (q_Mk kv0) (by decide) rfl ?_
      intro h2i111_112 Th2i111_112 ih2i111_112 ah2i111_112
      refine l_gR Th2i111_112 (d_Mo_16 kv0) ?_
      refine l_gO ?_
      refine j_Mod_stored (v0 := v0) (e := (300 * (vI h v0 42) + vA h (v0 + 22) (vI h v0 42))) Th2i111_112 kv0 (by rw [show vI h2i111_112 v0 42 = (vI h v0 42) from (by rw [ih2i111_112 v0 42, if_neg (fun z => absurd z.2 (by decide))]), show vA h2i111_112 (v0 + 22) = vA h (v0 + 22) from (by rw [ah2i111_112 (v0 + 22)])]) ?_
      try dsimp only
      refine l_uI Th2i111_112 ?_
      intro h6i111_114 Th6i111_114 jh6i111_114 ih6i111_114 ah6i111_114 bh6i111_114
      refine qi_some ?_
      exact ⟨Th6i111_114, Or.inr ⟨(by show ¬ vI h6i111_114 v0 48 = 0; rw [show vI h6i111_114 v0 48 = (vI h v0 48) from (by rw [ih6i111_114 v0 48, ih2i111_112 v0 48, if_neg (fun z => absurd z.2 (by decide))])] <;> (first | assumption | decide)), (by show ¬ vI h v0 48 = 0 ∨ x_rep t n (vI h v0 41) g = none; exact Or.inl cc1), (fun a k na => by rw [ih6i111_114 a k, ih2i111_112 a k, if_neg (fun z => na (Or.inl z))]), (fun a na => by rw [bh6i111_114 a (fun z => na (Or.inl z)), ah2i111_112 a])⟩⟩
theorem j_Mod_replacement_10 {L : q_L} {π : Nat → Nat → Option Nat} {N : Nat} {t : Int32 → Int32} {n : Int32} {g : Int32} {m9 : Nat} {h : z_H} {v0 : Nat} {v1 : Int32} {β : Type} {f : z_H → Option β} {Q : β → Prop} (T : x_U L π h) (kv0 : q_M L π v0) (ht : ∀ j, 0 ≤ j → j < n → vA h (v0 + 1) j = t j) (hn : vI h v0 3 = n) (n1 : n ≤ 240) (tp : ∀ j, t j ≠ -1) (a0 : vI h v0 48 = 0 → 0 ≤ vI h v0 41) (hg : vA h (v0 + 25) (vA h (v0 + 9) v1) = g) (g3 : 0 ≤ g ∧ g ≤ 3) (H1 : ∀ h', x_U L π h' → (vI h' v0 48 = 0) → (vI h v0 48 = 0) → (x_rep t n (vI h v0 41) g = some (vI h' v0 41)) → (∀ a k, ¬ ((a = v0 ∧ k = 41) ∨ (a = v0 ∧ k = 5) ∨ (a = v0 ∧ k = 48)) → vI h' a k = vI h a k) → (∀ a, ¬ (a = (v0 + 11) ∨ a = (v0 + 28) ∨ a = (v0 + 22)) → vA h' a = vA h a) → qi (f h') Q) (H0 : ∀ h', x_U L π h' → (¬ vI h' v0 48 = 0) → (¬ vI h v0 48 = 0 ∨ x_rep t n (vI h v0 41) g = none) → (∀ a k, ¬ ((a = v0 ∧ k = 41) ∨ (a = v0 ∧ k = 5) ∨ (a = v0 ∧ k = 48)) → vI h' a k = vI h a k) → (∀ a, ¬ (a = (v0 + 11) ∨ a = (v0 + 28) ∨ a = (v0 + 22)) → vA h' a = vA h a) → qi (f h') Q) : qi (z_b (f_Mod_replacement_10 N m9 v0 v1 h) f) Q := by
  refine qi_b (i_Mod_replacement_10 m9 v0 v1 h  T kv0 ht hn n1 tp a0 hg g3) ?_
  rintro hz ⟨Tz, ⟨g0, g1, g2, g3, g4⟩ | ⟨g0, g1, g2, g3⟩⟩
  · exact H1 hz Tz g0 g1 g2 g3 g4
  · exact H0 hz Tz g0 g1 g2 g3

