set_option maxHeartbeats 2000000 in
theorem ii_Pr_readSame {L : q_L} {π : Nat → Nat → Option Nat} {N : Nat} {cu : Nat} {it : Nat} {pt : Nat} {tx : Nat} {t : Int32 → Int32} {n : Int32} {d0 : Int32} {h : z_H} {v0 : Nat} {v1 : Int32} (T : x_U L π h) (kv0 : qκ L v0 = 9) (kcu : qκ L cu = 3) (pcu : π v0 0 = some cu) (kit : qκ L it = 5) (pit : π v0 1 = some it) (kpt : qκ L pt = 8) (ppt : π v0 2 = some pt) (ktx : qκ L tx = 11) (ptx : π cu 0 = some tx) (ht : ∀ j, 0 ≤ j → j < n → vA h (tx + 1) j = t j) (hn : vI h tx 1 = n) (n1 : n ≤ 240) (tp : ∀ j, t j ≠ -1) (D : cu + 1 = v0 ∧ v0 + 4 ≤ tx ∧ it = tx + 2 ∧ it + 6 ≤ pt) (gb : 0 ≤ vI h pt 6 ∧ vI h pt 6 ≤ 3) (a0 : 0 ≤ vI h cu 1) (c : x_lk t n (vI h cu 1) = 92) (d : x_lk t n (vI h cu 1 + 1) = d0) (e : d0 = 49 ∨ d0 = 50 ∨ d0 = 51) (dv : d0 - 48 = v1) (sz : ¬ 240 ≤ vI h it 4) (z0 : 0 ≤ vI h it 4) : qi (f_Pr_readSame N v0 v1 h) (fun r => x_U L π r.2 ∧ ((r.1 = 1 ∧ (x_pat t n (vI h cu 1) (vI h v0 3) (vI h v0 4) (vI h pt 6) (vI h v0 5) (vI h v0 6) = x_pat t n (vI r.2 cu 1) (vI r.2 v0 3) (vI r.2 v0 4) (vI r.2 pt 6) (vI r.2 v0 5) (vI r.2 v0 6)) ∧ (vI h cu 1 < vI r.2 cu 1) ∧ (0 ≤ vI r.2 pt 6 ∧ vI r.2 pt 6 ≤ 3) ∧ (vI r.2 cu 1 = vI h cu 1 + 2) ∧ (vA r.2 (it + 1) (vI h it 4) = 3) ∧ (vA r.2 (it + 2) (vI h it 4) = v1) ∧ (vI r.2 it 4 = vI h it 4 + 1) ∧ (∀ j, 0 ≤ j → ¬ j = (vI h it 4) → vA r.2 (it + 1) j = vA h (it + 1) j) ∧ (∀ j, 0 ≤ j → ¬ j = (vI h it 4) → vA r.2 (it + 2) j = vA h (it + 2) j) ∧ (∀ j, 0 ≤ j → ¬ j = (vI h it 4) → vL r.2 (it + 3) j = vL h (it + 3) j) ∧ (∀ j, 0 ≤ j → ¬ j = (vI h it 4) → vL r.2 (it + 4) j = vL h (it + 4) j) ∧ (v1 ≤ (if vI h v0 5 = 0 then vI h pt 6 else vI h pt 6 - 1)) ∧ (vI r.2 v0 6 = 0) ∧ (∀ a k, ¬ ((a = cu ∧ k = 2) ∨ (a = v0 ∧ k = 3) ∨ (a = v0 ∧ k = 6) ∨ (a = it ∧ k = 4) ∨ (a = cu ∧ k = 1)) → vI r.2 a k = vI h a k) ∧ (∀ a, ¬ (a = (it + 1) ∨ a = (it + 2)) → vA r.2 a = vA h a) ∧ (∀ a, ¬ (a = (it + 3) ∨ a = (it + 4)) → vL r.2 a = vL h a)) ∨ (r.1 = 0 ∧ (x_pat t n (vI h cu 1) (vI h v0 3) (vI h v0 4) (vI h pt 6) (vI h v0 5) (vI h v0 6) = none)))) := by
  have n2 : n ≤ 1000 := Int32.le_trans n1 (by decide)
  unfold f_Pr_readSame
  refine l_gI (e := (vI h v0 5)) rfl ?_
  refine qi_if (fun cc1 => ?_) (fun cc1 => ?_)
  · skip
    refine l_gR T ppt ?_
    refine l_gI (e := (vI h pt 6)) rfl ?_
    unfold f_Pr_readSame_26
    refine qi_if (fun cc3 => ?_) (fun cc3 => ?_)
    · skip
      unfold f_Pr_readSame_41
      refine l_gR T pcu ?_
      refine l_gO ?_
      refine jj_Cur_refuse (v0 := cu) (v1 := (0 : Int32)) T kcu ?_
      · intro hr3i4_5 Thr3i4_5
        try dsimp only
        refine qi_zB (fun zb6 => ?_)
        refine qi_some ?_
        exact ⟨Thr3i4_5, Or.inr ⟨rfl, (by show x_pat t n (vI h cu 1) (vI h v0 3) (vI h v0 4) (vI h pt 6) (vI h v0 5) (vI h v0 6) = none; rw [x_q92 n2 c, d, if_neg (x_49 e).1, if_neg (x_49 e).2.1, if_pos (x_49 e).2.2, dv, if_pos (by have q := x_cl (gr := vI h pt 6) (v := v1) gb.1 gb.2; grind)])⟩⟩
    · skip
      refine l_gI (e := (vI h v0 3)) rfl ?_
      refine qi_if (fun cc7 => ?_) (fun cc7 => ?_)
      · skip
        unfold f_Pr_readSame_41
        refine l_gR T pcu ?_
        refine l_gO ?_
        refine jj_Cur_refuse (v0 := cu) (v1 := (0 : Int32)) T kcu ?_
        · intro hr3i8_9 Thr3i8_9
          try dsimp only
          refine qi_zB (fun zb10 => ?_)
          refine qi_some ?_
          exact ⟨Thr3i8_9, Or.inr ⟨rfl, (by show x_pat t n (vI h cu 1) (vI h v0 3) (vI h v0 4) (vI h pt 6) (vI h v0 5) (vI h v0 6) = none; rw [x_q92 n2 c, d, if_neg (x_49 e).1, if_neg (x_49 e).2.1, if_pos (x_49 e).2.2, dv, if_pos (by have q := x_cl (gr := vI h pt 6) (v := v1) gb.1 gb.2; grind)])⟩⟩
      · skip
        refine l_gI (e := (vI h v0 3)) rfl ?_
        refine o_sI T kv0 (by decide) rfl ?_
        intro h5i2_11 Th5i2_11 ih5i2_11 ah5i2_11 lh5i2_11
        refine o_sI Th5i2_11 kv0 (by decide) rfl ?_
        intro h6i2_12 Th6i2_12 ih6i2_12 ah6i2_12 lh6i2_12
        refine l_gR Th6i2_12 pit ?_
        refine l_gO ?_
        refine jj_It_add (v0 := it) (v1 := (3 : Int32)) (v2 := v1) Th6i2_12 kit (by show ¬ 240 ≤ vI h6i2_12 it 4; rw [show vI h6i2_12 it 4 = (vI h it 4) from (by rw [ih6i2_12 it 4, if_neg (fun z => absurd z.2 (by decide)), ih5i2_11 it 4, if_neg (fun z => absurd z.2 (by decide))])] <;> (first | assumption | with_reducible rfl | grind)) ?_
        intro hr9i2_13 Thr9i2_13 gr9i2_13_0 gr9i2_13_1 gr9i2_13_2 gr9i2_13_3 gr9i2_13_4 gr9i2_13_5 gr9i2_13_6 gr9i2_13_7 gr9i2_13_8 fr9i2_13_I fr9i2_13_A fr9i2_13_L
        try dsimp only
        rw [show vI h6i2_12 it 4 = (vI h it 4) from (by rw [ih6i2_12 it 4, if_neg (fun z => absurd z.2 (by decide)), ih5i2_11 it 4, if_neg (fun z => absurd z.2 (by decide))])] at gr9i2_13_0
        rw [show vI h6i2_12 it 4 = (vI h it 4) from (by rw [ih6i2_12 it 4, if_neg (fun z => absurd z.2 (by decide)), ih5i2_11 it 4, if_neg (fun z => absurd z.2 (by decide))])] at gr9i2_13_1
        rw [show vI h6i2_12 it 4 = (vI h it 4) from (by rw [ih6i2_12 it 4, if_neg (fun z => absurd z.2 (by decide)), ih5i2_11 it 4, if_neg (fun z => absurd z.2 (by decide))])] at gr9i2_13_2
        rw [show vI h6i2_12 it 4 = (vI h it 4) from (by rw [ih6i2_12 it 4, if_neg (fun z => absurd z.2 (by decide)), ih5i2_11 it 4, if_neg (fun z => absurd z.2 (by decide))])] at gr9i2_13_3
        rw [show vI h6i2_12 it 4 = (vI h it 4) from (by rw [ih6i2_12 it 4, if_neg (fun z => absurd z.2 (by decide)), ih5i2_11 it 4, if_neg (fun z => absurd z.2 (by decide))])] at gr9i2_13_4
        rw [show vI h6i2_12 it 4 = (vI h it 4) from (by rw [ih6i2_12 it 4, if_neg (fun z => absurd z.2 (by decide)), ih5i2_11 it 4, if_neg (fun z => absurd z.2 (by decide))]), show vA h6i2_12 (it + 1) = vA h (it + 1) from (by rw [ah6i2_12 (it + 1), ah5i2_11 (it + 1)])] at gr9i2_13_5
        rw [show vI h6i2_12 it 4 = (vI h it 4) from (by rw [ih6i2_12 it 4, if_neg (fun z => absurd z.2 (by decide)), ih5i2_11 it 4, if_neg (fun z => absurd z.2 (by decide))]), show vA h6i2_12 (it + 2) = vA h (it + 2) from (by rw [ah6i2_12 (it + 2), ah5i2_11 (it + 2)])] at gr9i2_13_6
        rw [show vI h6i2_12 it 4 = (vI h it 4) from (by rw [ih6i2_12 it 4, if_neg (fun z => absurd z.2 (by decide)), ih5i2_11 it 4, if_neg (fun z => absurd z.2 (by decide))]), show vL h6i2_12 (it + 3) = vL h (it + 3) from (by rw [lh6i2_12 (it + 3), lh5i2_11 (it + 3)])] at gr9i2_13_7
        rw [show vI h6i2_12 it 4 = (vI h it 4) from (by rw [ih6i2_12 it 4, if_neg (fun z => absurd z.2 (by decide)), ih5i2_11 it 4, if_neg (fun z => absurd z.2 (by decide))]), show vL h6i2_12 (it + 4) = vL h (it + 4) from (by rw [lh6i2_12 (it + 4), lh5i2_11 (it + 4)])] at gr9i2_13_8
        refine l_gR Thr9i2_13 pcu ?_
        refine l_gI (e := (vI h cu 1)) (by rw [fr9i2_13_I cu 1 (by omega), ih6i2_12 cu 1, if_neg (fun z => absurd z.2 (by decide)), ih5i2_11 cu 1, if_neg (fun z => absurd z.2 (by decide))]) ?_
        refine o_sI Thr9i2_13 kcu (by decide) rfl ?_
        intro h12i2_14 Th12i2_14 ih12i2_14 ah12i2_14 lh12i2_14
        refine qi_some ?_
        exact ⟨Th12i2_14, Or.inl ⟨rfl, (by show x_pat t n (vI h cu 1) (vI h v0 3) (vI h v0 4) (vI h pt 6) (vI h v0 5) (vI h v0 6) = x_pat t n (vI h12i2_14 cu 1) (vI h12i2_14 v0 3) (vI h12i2_14 v0 4) (vI h12i2_14 pt 6) (vI h12i2_14 v0 5) (vI h12i2_14 v0 6); rw [show vI h12i2_14 cu 1 = ((vI h cu 1) + 2) from (by rw [ih12i2_14 cu 1, if_pos ⟨rfl, rfl⟩]), show vI h12i2_14 v0 3 = ((vI h v0 3) + 1) from (by rw [ih12i2_14 v0 3, if_neg (fun z => absurd z.2 (by decide)), fr9i2_13_I v0 3 (by omega), ih6i2_12 v0 3, if_neg (fun z => absurd z.2 (by decide)), ih5i2_11 v0 3, if_pos ⟨rfl, rfl⟩]), show vI h12i2_14 v0 4 = (vI h v0 4) from (by rw [ih12i2_14 v0 4, if_neg (fun z => absurd z.2 (by decide)), fr9i2_13_I v0 4 (by omega), ih6i2_12 v0 4, if_neg (fun z => absurd z.2 (by decide)), ih5i2_11 v0 4, if_neg (fun z => absurd z.2 (by decide))]), show vI h12i2_14 pt 6 = (vI h pt 6) from (by rw [ih12i2_14 pt 6, if_neg (fun z => absurd z.2 (by decide)), fr9i2_13_I pt 6 (by omega), ih6i2_12 pt 6, if_neg (fun z => absurd z.1 (by omega)), ih5i2_11 pt 6, if_neg (fun z => absurd z.2 (by decide))]), show vI h12i2_14 v0 5 = (vI h v0 5) from (by rw [ih12i2_14 v0 5, if_neg (fun z => absurd z.2 (by decide)), fr9i2_13_I v0 5 (by omega), ih6i2_12 v0 5, if_neg (fun z => absurd z.2 (by decide)), ih5i2_11 v0 5, if_neg (fun z => absurd z.2 (by decide))]), show vI h12i2_14 v0 6 = 0 from (by rw [ih12i2_14 v0 6, if_neg (fun z => absurd z.2 (by decide)), fr9i2_13_I v0 6 (by omega), ih6i2_12 v0 6, if_pos ⟨rfl, rfl⟩])] <;> (rw [x_q92 n2 c, d, if_neg (x_49 e).1, if_neg (x_49 e).2.1, if_pos (x_49 e).2.2, dv, if_neg (by have q := x_cl (gr := vI h pt 6) (v := v1) gb.1 gb.2; grind)])), (by show vI h cu 1 < vI h12i2_14 cu 1; rw [show vI h12i2_14 cu 1 = ((vI h cu 1) + 2) from (by rw [ih12i2_14 cu 1, if_pos ⟨rfl, rfl⟩])] <;> (exact x_lp2 n2 (by rw [c]; decide))), (by show 0 ≤ vI h12i2_14 pt 6 ∧ vI h12i2_14 pt 6 ≤ 3; rw [show vI h12i2_14 pt 6 = (vI h pt 6) from (by rw [ih12i2_14 pt 6, if_neg (fun z => absurd z.2 (by decide)), fr9i2_13_I pt 6 (by omega), ih6i2_12 pt 6, if_neg (fun z => absurd z.1 (by omega)), ih5i2_11 pt 6, if_neg (fun z => absurd z.2 (by decide))])] <;> (first | assumption | with_reducible rfl | grind)), (by show vI h12i2_14 cu 1 = vI h cu 1 + 2; rw [show vI h12i2_14 cu 1 = ((vI h cu 1) + 2) from (by rw [ih12i2_14 cu 1, if_pos ⟨rfl, rfl⟩])] <;> (first | assumption | with_reducible rfl | grind)), (by show vA h12i2_14 (it + 1) (vI h it 4) = 3; rw [show vA h12i2_14 (it + 1) = vA hr9i2_13 (it + 1) from (by rw [ah12i2_14 (it + 1)]), show vA hr9i2_13 (it + 1) (vI h it 4) = 3 from (by rw [gr9i2_13_0])] <;> (first | assumption | with_reducible rfl | grind)), (by show vA h12i2_14 (it + 2) (vI h it 4) = v1; rw [show vA h12i2_14 (it + 2) = vA hr9i2_13 (it + 2) from (by rw [ah12i2_14 (it + 2)]), show vA hr9i2_13 (it + 2) (vI h it 4) = v1 from (by rw [gr9i2_13_1])] <;> (first | assumption | with_reducible rfl | grind)), (by show vI h12i2_14 it 4 = vI h it 4 + 1; rw [show vI h12i2_14 it 4 = ((vI h it 4) + 1) from (by rw [ih12i2_14 it 4, if_neg (fun z => absurd z.2 (by decide)), gr9i2_13_4])] <;> (first | assumption | with_reducible rfl | grind)), (fun j j0 n1 => by rw [ah12i2_14 (it + 1), gr9i2_13_5 j j0 n1]), (fun j j0 n1 => by rw [ah12i2_14 (it + 2), gr9i2_13_6 j j0 n1]), (fun j j0 n1 => by rw [lh12i2_14 (it + 3), gr9i2_13_7 j j0 n1]), (fun j j0 n1 => by rw [lh12i2_14 (it + 4), gr9i2_13_8 j j0 n1]), (by show v1 ≤ (if vI h v0 5 = 0 then vI h pt 6 else vI h pt 6 - 1); first | (rw [if_pos (by assumption)]; exact Int32.not_lt.mp (by assumption)) | (rw [if_neg (by assumption)]; exact Int32.not_lt.mp (by assumption))), (by show vI h12i2_14 v0 6 = 0; rw [show vI h12i2_14 v0 6 = 0 from (by rw [ih12i2_14 v0 6, if_neg (fun z => absurd z.2 (by decide)), fr9i2_13_I v0 6 (by omega), ih6i2_12 v0 6, if_pos ⟨rfl, rfl⟩])] <;> (first | assumption | with_reducible rfl | grind)), (fun a k na => by rw [ih12i2_14 a k, if_neg (fun z => na (Or.inr (Or.inr (Or.inr (Or.inr (z)))))), fr9i2_13_I a k (fun z => na (Or.inr (Or.inr (Or.inr (Or.inl z))))), ih6i2_12 a k, if_neg (fun z => na (Or.inr (Or.inr (Or.inl z)))), ih5i2_11 a k, if_neg (fun z => na (Or.inr (Or.inl z)))]), (fun a na => by rw [ah12i2_14 a, fr9i2_13_A a (fun z => na (z.elim (fun z => Or.inl z) (fun z => Or.inr (z)))), ah6i2_12 a, ah5i2_11 a]), (fun a na => by rw [lh12i2_14 a, fr9i2_13_L a (fun z => na (z.elim (fun z => Or.inl z) (fun z => Or.inr (z)))), lh6i2_12 a, lh5i2_11 a])⟩⟩
  · skip
    refine l_gR T ppt ?_
    refine l_gI (e := (vI h pt 6)) rfl ?_
    unfold f_Pr_readSame_26
    refine qi_if (fun cc16 => ?_) (fun cc16 => ?_)
    · skip
      unfold f_Pr_readSame_41
      refine l_gR T pcu ?_
      refine l_gO ?_
      refine jj_Cur_refuse (v0 := cu) (v1 := (0 : Int32)) T kcu ?_
      · intro hr3i17_18 Thr3i17_18
        try dsimp only
        refine qi_zB (fun zb19 => ?_)
        refine qi_some ?_
        exact ⟨Thr3i17_18, Or.inr ⟨rfl, (by show x_pat t n (vI h cu 1) (vI h v0 3) (vI h v0 4) (vI h pt 6) (vI h v0 5) (vI h v0 6) = none; rw [x_q92 n2 c, d, if_neg (x_49 e).1, if_neg (x_49 e).2.1, if_pos (x_49 e).2.2, dv, if_pos (by have q := x_cl (gr := vI h pt 6) (v := v1) gb.1 gb.2; grind)])⟩⟩
    · skip
      refine l_gI (e := (vI h v0 3)) rfl ?_
      refine qi_if (fun cc20 => ?_) (fun cc20 => ?_)
      · skip
        unfold f_Pr_readSame_41
        refine l_gR T pcu ?_
        refine l_gO ?_
        refine jj_Cur_refuse (v0 := cu) (v1 := (0 : Int32)) T kcu ?_
        · intro hr3i21_22 Thr3i21_22
          try dsimp only
          refine qi_zB (fun zb23 => ?_)
          refine qi_some ?_
          exact ⟨Thr3i21_22, Or.inr ⟨rfl, (by show x_pat t n (vI h cu 1) (vI h v0 3) (vI h v0 4) (vI h pt 6) (vI h v0 5) (vI h v0 6) = none; rw [x_q92 n2 c, d, if_neg (x_49 e).1, if_neg (x_49 e).2.1, if_pos (x_49 e).2.2, dv, if_pos (by have q := x_cl (gr := vI h pt 6) (v := v1) gb.1 gb.2; grind)])⟩⟩
      · skip
        refine l_gI (e := (vI h v0 3)) rfl ?_
        refine o_sI T kv0 (by decide) rfl ?_
        intro h5i15_24 Th5i15_24 ih5i15_24 ah5i15_24 lh5i15_24
        refine o_sI Th5i15_24 kv0 (by decide) rfl ?_
        intro h6i15_25 Th6i15_25 ih6i15_25 ah6i15_25 lh6i15_25
        refine l_gR Th6i15_25 pit ?_
        refine l_gO ?_
        refine jj_It_add (v0 := it) (v1 := (3 : Int32)) (v2 := v1) Th6i15_25 kit (by show ¬ 240 ≤ vI h6i15_25 it 4; rw [show vI h6i15_25 it 4 = (vI h it 4) from (by rw [ih6i15_25 it 4, if_neg (fun z => absurd z.2 (by decide)), ih5i15_24 it 4, if_neg (fun z => absurd z.2 (by decide))])] <;> (first | assumption | with_reducible rfl | grind)) ?_
        intro hr9i15_26 Thr9i15_26 gr9i15_26_0 gr9i15_26_1 gr9i15_26_2 gr9i15_26_3 gr9i15_26_4 gr9i15_26_5 gr9i15_26_6 gr9i15_26_7 gr9i15_26_8 fr9i15_26_I fr9i15_26_A fr9i15_26_L
        try dsimp only
        rw [show vI h6i15_25 it 4 = (vI h it 4) from (by rw [ih6i15_25 it 4, if_neg (fun z => absurd z.2 (by decide)), ih5i15_24 it 4, if_neg (fun z => absurd z.2 (by decide))])] at gr9i15_26_0
        rw [show vI h6i15_25 it 4 = (vI h it 4) from (by rw [ih6i15_25 it 4, if_neg (fun z => absurd z.2 (by decide)), ih5i15_24 it 4, if_neg (fun z => absurd z.2 (by decide))])] at gr9i15_26_1
        rw [show vI h6i15_25 it 4 = (vI h it 4) from (by rw [ih6i15_25 it 4, if_neg (fun z => absurd z.2 (by decide)), ih5i15_24 it 4, if_neg (fun z => absurd z.2 (by decide))])] at gr9i15_26_2
        rw [show vI h6i15_25 it 4 = (vI h it 4) from (by rw [ih6i15_25 it 4, if_neg (fun z => absurd z.2 (by decide)), ih5i15_24 it 4, if_neg (fun z => absurd z.2 (by decide))])] at gr9i15_26_3
        rw [show vI h6i15_25 it 4 = (vI h it 4) from (by rw [ih6i15_25 it 4, if_neg (fun z => absurd z.2 (by decide)), ih5i15_24 it 4, if_neg (fun z => absurd z.2 (by decide))])] at gr9i15_26_4
        rw [show vI h6i15_25 it 4 = (vI h it 4) from (by rw [ih6i15_25 it 4, if_neg (fun z => absurd z.2 (by decide)), ih5i15_24 it 4, if_neg (fun z => absurd z.2 (by decide))]), show vA h6i15_25 (it + 1) = vA h (it + 1) from (by rw [ah6i15_25 (it + 1), ah5i15_24 (it + 1)])] at gr9i15_26_5
        rw [show vI h6i15_25 it 4 = (vI h it 4) from (by rw [ih6i15_25 it 4, if_neg (fun z => absurd z.2 (by decide)), ih5i15_24 it 4, if_neg (fun z => absurd z.2 (by decide))]), show vA h6i15_25 (it + 2) = vA h (it + 2) from (by rw [ah6i15_25 (it + 2), ah5i15_24 (it + 2)])] at gr9i15_26_6
        rw [show vI h6i15_25 it 4 = (vI h it 4) from (by rw [ih6i15_25 it 4, if_neg (fun z => absurd z.2 (by decide)), ih5i15_24 it 4, if_neg (fun z => absurd z.2 (by decide))]), show vL h6i15_25 (it + 3) = vL h (it + 3) from (by rw [lh6i15_25 (it + 3), lh5i15_24 (it + 3)])] at gr9i15_26_7
        rw [show vI h6i15_25 it 4 = (vI h it 4) from (by rw [ih6i15_25 it 4, if_neg (fun z => absurd z.2 (by decide)), ih5i15_24 it 4, if_neg (fun z => absurd z.2 (by decide))]), show vL h6i15_25 (it + 4) = vL h (it + 4) from (by rw [lh6i15_25 (it + 4), lh5i15_24 (it + 4)])] at gr9i15_26_8
        refine l_gR Thr9i15_26 pcu ?_
        refine l_gI (e := (vI h cu 1)) (by rw [fr9i15_26_I cu 1 (by omega), ih6i15_25 cu 1, if_neg (fun z => absurd z.2 (by decide)), ih5i15_24 cu 1, if_neg (fun z => absurd z.2 (by decide))]) ?_
        refine o_sI Thr9i15_26 kcu (by decide) rfl ?_
        intro h12i15_27 Th12i15_27 ih12i15_27 ah12i15_27 lh12i15_27
        refine qi_some ?_
        exact ⟨Th12i15_27, Or.inl ⟨rfl, (by show x_pat t n (vI h cu 1) (vI h v0 3) (vI h v0 4) (vI h pt 6) (vI h v0 5) (vI h v0 6) = x_pat t n (vI h12i15_27 cu 1) (vI h12i15_27 v0 3) (vI h12i15_27 v0 4) (vI h12i15_27 pt 6) (vI h12i15_27 v0 5) (vI h12i15_27 v0 6); rw [show vI h12i15_27 cu 1 = ((vI h cu 1) + 2) from (by rw [ih12i15_27 cu 1, if_pos ⟨rfl, rfl⟩]), show vI h12i15_27 v0 3 = ((vI h v0 3) + 1) from (by rw [ih12i15_27 v0 3, if_neg (fun z => absurd z.2 (by decide)), fr9i15_26_I v0 3 (by omega), ih6i15_25 v0 3, if_neg (fun z => absurd z.2 (by decide)), ih5i15_24 v0 3, if_pos ⟨rfl, rfl⟩]), show vI h12i15_27 v0 4 = (vI h v0 4) from (by rw [ih12i15_27 v0 4, if_neg (fun z => absurd z.2 (by decide)), fr9i15_26_I v0 4 (by omega), ih6i15_25 v0 4, if_neg (fun z => absurd z.2 (by decide)), ih5i15_24 v0 4, if_neg (fun z => absurd z.2 (by decide))]), show vI h12i15_27 pt 6 = (vI h pt 6) from (by rw [ih12i15_27 pt 6, if_neg (fun z => absurd z.2 (by decide)), fr9i15_26_I pt 6 (by omega), ih6i15_25 pt 6, if_neg (fun z => absurd z.1 (by omega)), ih5i15_24 pt 6, if_neg (fun z => absurd z.2 (by decide))]), show vI h12i15_27 v0 5 = (vI h v0 5) from (by rw [ih12i15_27 v0 5, if_neg (fun z => absurd z.2 (by decide)), fr9i15_26_I v0 5 (by omega), ih6i15_25 v0 5, if_neg (fun z => absurd z.2 (by decide)), ih5i15_24 v0 5, if_neg (fun z => absurd z.2 (by decide))]), show vI h12i15_27 v0 6 = 0 from (by rw [ih12i15_27 v0 6, if_neg (fun z => absurd z.2 (by decide)), fr9i15_26_I v0 6 (by omega), ih6i15_25 v0 6, if_pos ⟨rfl, rfl⟩])] <;> (rw [x_q92 n2 c, d, if_neg (x_49 e).1, if_neg (x_49 e).2.1, if_pos (x_49 e).2.2, dv, if_neg (by have q := x_cl (gr := vI h pt 6) (v := v1) gb.1 gb.2; grind)])), (by show vI h cu 1 < vI h12i15_27 cu 1; rw [show vI h12i15_27 cu 1 = ((vI h cu 1) + 2) from (by rw [ih12i15_27 cu 1, if_pos ⟨rfl, rfl⟩])] <;> (exact x_lp2 n2 (by rw [c]; decide))), (by show 0 ≤ vI h12i15_27 pt 6 ∧ vI h12i15_27 pt 6 ≤ 3; rw [show vI h12i15_27 pt 6 = (vI h pt 6) from (by rw [ih12i15_27 pt 6, if_neg (fun z => absurd z.2 (by decide)), fr9i15_26_I pt 6 (by omega), ih6i15_25 pt 6, if_neg (fun z => absurd z.1 (by omega)), ih5i15_24 pt 6, if_neg (fun z => absurd z.2 (by decide))])] <;> (first | assumption | with_reducible rfl | grind)), (by show vI h12i15_27 cu 1 = vI h cu 1 + 2; rw [show vI h12i15_27 cu 1 = ((vI h cu 1) + 2) from (by rw [ih12i15_27 cu 1, if_pos ⟨rfl, rfl⟩])] <;> (first | assumption | with_reducible rfl | grind)), (by show vA h12i15_27 (it + 1) (vI h it 4) = 3; rw [show vA h12i15_27 (it + 1) = vA hr9i15_26 (it + 1) from (by rw [ah12i15_27 (it + 1)]), show vA hr9i15_26 (it + 1) (vI h it 4) = 3 from (by rw [gr9i15_26_0])] <;> (first | assumption | with_reducible rfl | grind)), (by show vA h12i15_27 (it + 2) (vI h it 4) = v1; rw [show vA h12i15_27 (it + 2) = vA hr9i15_26 (it + 2) from (by rw [ah12i15_27 (it + 2)]), show vA hr9i15_26 (it + 2) (vI h it 4) = v1 from (by rw [gr9i15_26_1])] <;> (first | assumption | with_reducible rfl | grind)), (by show vI h12i15_27 it 4 = vI h it 4 + 1; rw [show vI h12i15_27 it 4 = ((vI h it 4) + 1) from (by rw [ih12i15_27 it 4, if_neg (fun z => absurd z.2 (by decide)), gr9i15_26_4])] <;> (first | assumption | with_reducible rfl | grind)), (fun j j0 n1 => by rw [ah12i15_27 (it + 1), gr9i15_26_5 j j0 n1]), (fun j j0 n1 => by rw [ah12i15_27 (it + 2), gr9i15_26_6 j j0 n1]), (fun j j0 n1 => by rw [lh12i15_27 (it + 3), gr9i15_26_7 j j0 n1]), (fun j j0 n1 => by rw [lh12i15_27 (it + 4), gr9i15_26_8 j j0 n1]), (by show v1 ≤ (if vI h v0 5 = 0 then vI h pt 6 else vI h pt 6 - 1); first | (rw [if_pos (by assumption)]; exact Int32.not_lt.mp (by assumption)) | (rw [if_neg (by assumption)]; exact Int32.not_lt.mp (by assumption))), (by show vI h12i15_27 v0 6 = 0; rw [show vI h12i15_27 v0 6 = 0 from (by rw [ih12i15_27 v0 6, if_neg (fun z => absurd z.2 (by decide)), fr9i15_26_I v0 6 (by omega), ih6i15_25 v0 6, if_pos ⟨rfl, rfl⟩])] <;> (first | assumption | with_reducible rfl | grind)), (fun a k na => by rw [ih12i15_27 a k, if_neg (fun z => na (Or.inr (Or.inr (Or.inr (Or.inr (z)))))), fr9i15_26_I a k (fun z => na (Or.inr (Or.inr (Or.inr (Or.inl z))))), ih6i15_25 a k, if_neg (fun z => na (Or.inr (Or.inr (Or.inl z)))), ih5i15_24 a k, if_neg (fun z => na (Or.inr (Or.inl z)))]), (fun a na => by rw [ah12i15_27 a, fr9i15_26_A a (fun z => na (z.elim (fun z => Or.inl z) (fun z => Or.inr (z)))), ah6i15_25 a, ah5i15_24 a]), (fun a na => by rw [lh12i15_27 a, fr9i15_26_L a (fun z => na (z.elim (fun z => Or.inl z) (fun z => Or.inr (z)))), lh6i15_25 a, lh5i15_24 a])⟩⟩
theorem jj_Pr_readSame {L : q_L} {π : Nat → Nat → Option Nat} {N : Nat} {cu : Nat} {it : Nat} {pt : Nat} {tx : Nat} {t : Int32 → Int32} {n : Int32} {d0 : Int32} {h : z_H} {v0 : Nat} {v1 : Int32} {β : Type} {f : Int32 × z_H → Option β} {Q : β → Prop} (T : x_U L π h) (kv0 : qκ L v0 = 9) (kcu : qκ L cu = 3) (pcu : π v0 0 = some cu) (kit : qκ L it = 5) (pit : π v0 1 = some it) (kpt : qκ L pt = 8) (ppt : π v0 2 = some pt) (ktx : qκ L tx = 11) (ptx : π cu 0 = some tx) (ht : ∀ j, 0 ≤ j → j < n → vA h (tx + 1) j = t j) (hn : vI h tx 1 = n) (n1 : n ≤ 240) (tp : ∀ j, t j ≠ -1) (D : cu + 1 = v0 ∧ v0 + 4 ≤ tx ∧ it = tx + 2 ∧ it + 6 ≤ pt) (gb : 0 ≤ vI h pt 6 ∧ vI h pt 6 ≤ 3) (a0 : 0 ≤ vI h cu 1) (c : x_lk t n (vI h cu 1) = 92) (d : x_lk t n (vI h cu 1 + 1) = d0) (e : d0 = 49 ∨ d0 = 50 ∨ d0 = 51) (dv : d0 - 48 = v1) (sz : ¬ 240 ≤ vI h it 4) (z0 : 0 ≤ vI h it 4) (H1 : ∀ h', x_U L π h' → (x_pat t n (vI h cu 1) (vI h v0 3) (vI h v0 4) (vI h pt 6) (vI h v0 5) (vI h v0 6) = x_pat t n (vI h' cu 1) (vI h' v0 3) (vI h' v0 4) (vI h' pt 6) (vI h' v0 5) (vI h' v0 6)) → (vI h cu 1 < vI h' cu 1) → (0 ≤ vI h' pt 6 ∧ vI h' pt 6 ≤ 3) → (vI h' cu 1 = vI h cu 1 + 2) → (vA h' (it + 1) (vI h it 4) = 3) → (vA h' (it + 2) (vI h it 4) = v1) → (vI h' it 4 = vI h it 4 + 1) → (∀ j, 0 ≤ j → ¬ j = (vI h it 4) → vA h' (it + 1) j = vA h (it + 1) j) → (∀ j, 0 ≤ j → ¬ j = (vI h it 4) → vA h' (it + 2) j = vA h (it + 2) j) → (∀ j, 0 ≤ j → ¬ j = (vI h it 4) → vL h' (it + 3) j = vL h (it + 3) j) → (∀ j, 0 ≤ j → ¬ j = (vI h it 4) → vL h' (it + 4) j = vL h (it + 4) j) → (v1 ≤ (if vI h v0 5 = 0 then vI h pt 6 else vI h pt 6 - 1)) → (vI h' v0 6 = 0) → (∀ a k, ¬ ((a = cu ∧ k = 2) ∨ (a = v0 ∧ k = 3) ∨ (a = v0 ∧ k = 6) ∨ (a = it ∧ k = 4) ∨ (a = cu ∧ k = 1)) → vI h' a k = vI h a k) → (∀ a, ¬ (a = (it + 1) ∨ a = (it + 2)) → vA h' a = vA h a) → (∀ a, ¬ (a = (it + 3) ∨ a = (it + 4)) → vL h' a = vL h a) → qi (f (1, h')) Q) (H0 : ∀ h', x_U L π h' → (x_pat t n (vI h cu 1) (vI h v0 3) (vI h v0 4) (vI h pt 6) (vI h v0 5) (vI h v0 6) = none) → qi (f (0, h')) Q) : qi (z_b (f_Pr_readSame N v0 v1 h) f) Q := by
  refine qi_b (ii_Pr_readSame  T kv0 kcu pcu kit pit kpt ppt ktx ptx ht hn n1 tp D gb a0 c d e dv sz z0) ?_
  rintro ⟨y, hz⟩ ⟨Tz, ⟨ey, g0, g1, g2, g3, g4, g5, g6, g7, g8, g9, g10, g11, g12, g13, g14, g15⟩ | ⟨ey, g0⟩⟩
  · dsimp only at *; subst ey; exact H1 hz Tz g0 g1 g2 g3 g4 g5 g6 g7 g8 g9 g10 g11 g12 g13 g14 g15
  · dsimp only at *; subst ey; exact H0 hz Tz g0

set_option maxHeartbeats 2000000 in
theorem ii_Pr_addOne {L : q_L} {π : Nat → Nat → Option Nat} {N : Nat} {cu : Nat} {it : Nat} {pt : Nat} {h : z_H} {v0 : Nat} (T : x_U L π h) (kv0 : qκ L v0 = 9) (kcu : qκ L cu = 3) (pcu : π v0 0 = some cu) (kit : qκ L it = 5) (pit : π v0 1 = some it) (kpt : qκ L pt = 8) (ppt : π v0 2 = some pt) (D1 : cu + 1 = v0 ∧ v0 + 4 ≤ it ∧ it + 6 ≤ pt) (sz : ¬ 240 ≤ vI h it 4) (z0 : 0 ≤ vI h it 4) : qi (f_Pr_addOne N v0 h) (fun r => x_U L π r.2 ∧ ((r.1 = 1 ∧ (vI r.2 v0 3 = vI h v0 3 + 1) ∧ (vI r.2 v0 6 = 1) ∧ (¬ vI h v0 3 = 14) ∧ (vA r.2 (it + 1) (vI h it 4) = 0) ∧ (vA r.2 (it + 2) (vI h it 4) = 0) ∧ (vI r.2 it 4 = vI h it 4 + 1) ∧ (∀ j, 0 ≤ j → ¬ j = (vI h it 4) → vA r.2 (it + 1) j = vA h (it + 1) j) ∧ (∀ j, 0 ≤ j → ¬ j = (vI h it 4) → vA r.2 (it + 2) j = vA h (it + 2) j) ∧ (∀ j, 0 ≤ j → ¬ j = (vI h it 4) → vL r.2 (it + 3) j = vL h (it + 3) j) ∧ (∀ j, 0 ≤ j → ¬ j = (vI h it 4) → vL r.2 (it + 4) j = vL h (it + 4) j) ∧ (vL r.2 (it + 3) (vI h it 4) = 0) ∧ (vL r.2 (it + 4) (vI h it 4) = 0) ∧ (∀ a k, ¬ ((a = cu ∧ k = 2) ∨ (a = it ∧ k = 4) ∨ (a = v0 ∧ k = 3) ∨ (a = v0 ∧ k = 6)) → vI r.2 a k = vI h a k) ∧ (∀ a, ¬ (a = (it + 1) ∨ a = (it + 2)) → vA r.2 a = vA h a) ∧ (∀ a, ¬ (a = (it + 3) ∨ a = (it + 4)) → vL r.2 a = vL h a)) ∨ (r.1 = 0 ∧ (vI h v0 3 = 14)))) := by
  unfold f_Pr_addOne
  refine l_gI (e := (vI h v0 3)) rfl ?_
  refine qi_if (fun cc1 => ?_) (fun cc1 => ?_)
  · skip
    refine l_gR T pcu ?_
    refine l_gO ?_
    refine jj_Cur_refuse (v0 := cu) (v1 := (0 : Int32)) T kcu ?_
    · intro hr11_2 Thr11_2
      try dsimp only
      refine qi_zB (fun zb3 => ?_)
      refine qi_some ?_
      exact ⟨Thr11_2, Or.inr ⟨rfl, (by show vI h v0 3 = 14; first | assumption | with_reducible rfl | grind)⟩⟩
  · skip
    refine l_gR T pit ?_
    refine l_gO ?_
    refine jj_It_add (v0 := it) (v1 := (0 : Int32)) (v2 := (0 : Int32)) T kit sz ?_
    intro hr5_4 Thr5_4 gr5_4_0 gr5_4_1 gr5_4_2 gr5_4_3 gr5_4_4 gr5_4_5 gr5_4_6 gr5_4_7 gr5_4_8 fr5_4_I fr5_4_A fr5_4_L
    try dsimp only
    refine l_gI (e := (vI h v0 3)) (by rw [fr5_4_I v0 3 (by omega)]) ?_
    refine o_sI Thr5_4 kv0 (by decide) rfl ?_
    intro h7_5 Th7_5 ih7_5 ah7_5 lh7_5
    refine o_sI Th7_5 kv0 (by decide) rfl ?_
    intro h8_6 Th8_6 ih8_6 ah8_6 lh8_6
    refine qi_some ?_
    exact ⟨Th8_6, Or.inl ⟨rfl, (by show vI h8_6 v0 3 = vI h v0 3 + 1; rw [show vI h8_6 v0 3 = ((vI h v0 3) + 1) from (by rw [ih8_6 v0 3, if_neg (fun z => absurd z.2 (by decide)), ih7_5 v0 3, if_pos ⟨rfl, rfl⟩])] <;> (first | assumption | with_reducible rfl | grind)), (by show vI h8_6 v0 6 = 1; rw [show vI h8_6 v0 6 = 1 from (by rw [ih8_6 v0 6, if_pos ⟨rfl, rfl⟩])] <;> (first | assumption | with_reducible rfl | grind)), (by show ¬ vI h v0 3 = 14; first | assumption | with_reducible rfl | grind), (by show vA h8_6 (it + 1) (vI h it 4) = 0; rw [show vA h8_6 (it + 1) = vA hr5_4 (it + 1) from (by rw [ah8_6 (it + 1), ah7_5 (it + 1)]), show vA hr5_4 (it + 1) (vI h it 4) = 0 from (by rw [gr5_4_0])] <;> (first | assumption | with_reducible rfl | grind)), (by show vA h8_6 (it + 2) (vI h it 4) = 0; rw [show vA h8_6 (it + 2) = vA hr5_4 (it + 2) from (by rw [ah8_6 (it + 2), ah7_5 (it + 2)]), show vA hr5_4 (it + 2) (vI h it 4) = 0 from (by rw [gr5_4_1])] <;> (first | assumption | with_reducible rfl | grind)), (by show vI h8_6 it 4 = vI h it 4 + 1; rw [show vI h8_6 it 4 = (vI h it 4 + 1) from (by rw [ih8_6 it 4, if_neg (fun z => absurd z.2 (by decide)), ih7_5 it 4, if_neg (fun z => absurd z.2 (by decide)), gr5_4_4])] <;> (first | assumption | with_reducible rfl | grind)), (fun j j0 n1 => by rw [ah8_6 (it + 1), ah7_5 (it + 1), gr5_4_5 j j0 n1]), (fun j j0 n1 => by rw [ah8_6 (it + 2), ah7_5 (it + 2), gr5_4_6 j j0 n1]), (fun j j0 n1 => by rw [lh8_6 (it + 3), lh7_5 (it + 3), gr5_4_7 j j0 n1]), (fun j j0 n1 => by rw [lh8_6 (it + 4), lh7_5 (it + 4), gr5_4_8 j j0 n1]), (by show vL h8_6 (it + 3) (vI h it 4) = 0; rw [show vL h8_6 (it + 3) = vL hr5_4 (it + 3) from (by rw [lh8_6 (it + 3), lh7_5 (it + 3)]), show vL hr5_4 (it + 3) (vI h it 4) = 0 from (by rw [gr5_4_2])] <;> (first | assumption | with_reducible rfl | grind)), (by show vL h8_6 (it + 4) (vI h it 4) = 0; rw [show vL h8_6 (it + 4) = vL hr5_4 (it + 4) from (by rw [lh8_6 (it + 4), lh7_5 (it + 4)]), show vL hr5_4 (it + 4) (vI h it 4) = 0 from (by rw [gr5_4_3])] <;> (first | assumption | with_reducible rfl | grind)), (fun a k na => by rw [ih8_6 a k, if_neg (fun z => na (Or.inr (Or.inr (Or.inr (z))))), ih7_5 a k, if_neg (fun z => na (Or.inr (Or.inr (Or.inl z)))), fr5_4_I a k (fun z => na (Or.inr (Or.inl z)))]), (fun a na => by rw [ah8_6 a, ah7_5 a, fr5_4_A a (fun z => na (z.elim (fun z => Or.inl z) (fun z => Or.inr (z))))]), (fun a na => by rw [lh8_6 a, lh7_5 a, fr5_4_L a (fun z => na (z.elim (fun z => Or.inl z) (fun z => Or.inr (z))))])⟩⟩
theorem jj_Pr_addOne {L : q_L} {π : Nat → Nat → Option Nat} {N : Nat} {cu : Nat} {it : Nat} {pt : Nat} {h : z_H} {v0 : Nat} {β : Type} {f : Int32 × z_H → Option β} {Q : β → Prop} (T : x_U L π h) (kv0 : qκ L v0 = 9) (kcu : qκ L cu = 3) (pcu : π v0 0 = some cu) (kit : qκ L it = 5) (pit : π v0 1 = some it) (kpt : qκ L pt = 8) (ppt : π v0 2 = some pt) (D1 : cu + 1 = v0 ∧ v0 + 4 ≤ it ∧ it + 6 ≤ pt) (sz : ¬ 240 ≤ vI h it 4) (z0 : 0 ≤ vI h it 4) (H1 : ∀ h', x_U L π h' → (vI h' v0 3 = vI h v0 3 + 1) → (vI h' v0 6 = 1) → (¬ vI h v0 3 = 14) → (vA h' (it + 1) (vI h it 4) = 0) → (vA h' (it + 2) (vI h it 4) = 0) → (vI h' it 4 = vI h it 4 + 1) → (∀ j, 0 ≤ j → ¬ j = (vI h it 4) → vA h' (it + 1) j = vA h (it + 1) j) → (∀ j, 0 ≤ j → ¬ j = (vI h it 4) → vA h' (it + 2) j = vA h (it + 2) j) → (∀ j, 0 ≤ j → ¬ j = (vI h it 4) → vL h' (it + 3) j = vL h (it + 3) j) → (∀ j, 0 ≤ j → ¬ j = (vI h it 4) → vL h' (it + 4) j = vL h (it + 4) j) → (vL h' (it + 3) (vI h it 4) = 0) → (vL h' (it + 4) (vI h it 4) = 0) → (∀ a k, ¬ ((a = cu ∧ k = 2) ∨ (a = it ∧ k = 4) ∨ (a = v0 ∧ k = 3) ∨ (a = v0 ∧ k = 6)) → vI h' a k = vI h a k) → (∀ a, ¬ (a = (it + 1) ∨ a = (it + 2)) → vA h' a = vA h a) → (∀ a, ¬ (a = (it + 3) ∨ a = (it + 4)) → vL h' a = vL h a) → qi (f (1, h')) Q) (H0 : ∀ h', x_U L π h' → (vI h v0 3 = 14) → qi (f (0, h')) Q) : qi (z_b (f_Pr_addOne N v0 h) f) Q := by
  refine qi_b (ii_Pr_addOne  T kv0 kcu pcu kit pit kpt ppt D1 sz z0) ?_
  rintro ⟨y, hz⟩ ⟨Tz, ⟨ey, g0, g1, g2, g3, g4, g5, g6, g7, g8, g9, g10, g11, g12, g13, g14⟩ | ⟨ey, g0⟩⟩
  · dsimp only at *; subst ey; exact H1 hz Tz g0 g1 g2 g3 g4 g5 g6 g7 g8 g9 g10 g11 g12 g13 g14
  · dsimp only at *; subst ey; exact H0 hz Tz g0

