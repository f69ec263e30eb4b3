set_option maxHeartbeats 8000000 in
theorem i_Pr_readEscape {L : q_L} {π : Nat → Nat → Option Nat} {N : Nat} {cu : Nat} {it : Nat} {pt : Nat} {tx : Nat} {t : Int32 → Int32} {n : Int32} {h : z_H} {v0 : Nat} (T : x_U L π h) (kv0 : qκ L v0 = 9) (kcu : qκ L cu = 3) (pcu : π v0 0 = some cu) (kit : qκ L it = 5) (pit : π v0 1 = some it) (kpt : qκ L pt = 8) (ppt : π v0 2 = some pt) (ktx : qκ L tx = 11) (ptx : π cu 0 = some tx) (ht : ∀ j, 0 ≤ j → j < n → vA h (tx + 1) j = t j) (hn : vI h tx 1 = n) (n1 : n ≤ 240) (tp : ∀ j, t j ≠ -1) (D : cu + 1 = v0 ∧ v0 + 4 ≤ tx ∧ it = tx + 2 ∧ it + 6 ≤ pt) (gb : 0 ≤ vI h pt 6 ∧ vI h pt 6 ≤ 3) (a0 : 0 ≤ vI h cu 1) (c : x_lk t n (vI h cu 1) = 92) : qi (f_Pr_readEscape N v0 h) (fun r => x_U L π r.2 ∧ ((r.1 = 1 ∧ (x_pat t n (vI h cu 1) (vI h v0 3) (vI h v0 4) (vI h pt 6) (vI h v0 5) (vI h v0 6) = x_pat t n (vI r.2 cu 1) (vI r.2 v0 3) (vI r.2 v0 4) (vI r.2 pt 6) (vI r.2 v0 5) (vI r.2 v0 6)) ∧ (vI h cu 1 < vI r.2 cu 1) ∧ (0 ≤ vI r.2 pt 6 ∧ vI r.2 pt 6 ≤ 3) ∧ (∀ a k, ¬ ((a = cu ∧ k = 2) ∨ (a = it ∧ k = 4) ∨ (a = v0 ∧ k = 3) ∨ (a = v0 ∧ k = 6) ∨ (a = cu ∧ k = 1) ∨ (a = pt ∧ k = 6) ∨ (a = v0 ∧ k = 5)) → vI r.2 a k = vI h a k) ∧ (∀ a, ¬ (a = (it + 1) ∨ a = (it + 2)) → vA r.2 a = vA h a)) ∨ (r.1 = 0 ∧ (x_pat t n (vI h cu 1) (vI h v0 3) (vI h v0 4) (vI h pt 6) (vI h v0 5) (vI h v0 6) = none)))) := by
  have n2 : n ≤ 1000 := Int32.le_trans n1 (by decide)
  unfold f_Pr_readEscape
  refine l_gR T pcu ?_
  refine l_gO ?_
  refine j_Cur_look (v0 := cu) (v1 := (1 : Int32)) (tx := tx) (t := t) (n := n) (e := (x_lk t n (vI h cu 1 + 1))) T kcu ktx ptx ht hn rfl ?_
  try dsimp only
  refine qi_bs ?_
  refine qi_if (fun cc2 => ?_) (fun cc2 => ?_)
  · skip
    refine l_gR T pcu ?_
    refine l_gO ?_
    refine j_Pr_mayEscape (v0 := v0) (pt := pt) T kv0 kpt ppt (fun _ => ?_) (fun _ => ?_)
    · try dsimp only
      refine qi_if (fun cc4 => absurd cc4 (by decide)) (fun _ => ?_)
      unfold f_Pr_readEscape_140
      refine l_gO ?_
      refine j_Cur_refuse (v0 := cu) (v1 := (1 : Int32)) T kcu ?_
      · intro hr2i5_6 Thr2i5_6
        try dsimp only
        refine qi_zB (fun zb7 => ?_)
        refine qi_some ?_
        exact ⟨Thr2i5_6, Or.inr ⟨rfl, (by show x_pat t n (vI h cu 1) (vI h v0 3) (vI h v0 4) (vI h pt 6) (vI h v0 5) (vI h v0 6) = none; rw [x_q92 n2 c, cc2, if_neg (by decide), if_neg (by decide), if_neg (by decide), if_neg (by decide)])⟩⟩
    · try dsimp only
      refine qi_if (fun _ => ?_) (fun cc8 => absurd (by decide) cc8)
      unfold f_Pr_readEscape_140
      refine l_gO ?_
      refine j_Cur_refuse (v0 := cu) (v1 := (0 : Int32)) T kcu ?_
      · intro hr2i9_10 Thr2i9_10
        try dsimp only
        refine qi_zB (fun zb11 => ?_)
        refine qi_some ?_
        exact ⟨Thr2i9_10, Or.inr ⟨rfl, (by show x_pat t n (vI h cu 1) (vI h v0 3) (vI h v0 4) (vI h pt 6) (vI h v0 5) (vI h v0 6) = none; rw [x_q92 n2 c, cc2, if_neg (by decide), if_neg (by decide), if_neg (by decide), if_neg (by decide)])⟩⟩
  · skip
    refine qi_if (fun cc12 => ?_) (fun cc12 => ?_)
    · skip
      refine l_gO ?_
      refine j_Pr_addOne (v0 := v0) (cu := cu) (it := it) (pt := pt) T kv0 kcu pcu kit pit kpt ppt (by show cu + 1 = v0 ∧ v0 + 4 ≤ it ∧ it + 6 ≤ pt; first | assumption | with_reducible rfl | grind) ?_ ?_
      · intro hr12_13 Thr12_13 g1r12_13_0 g1r12_13_1 g1r12_13_2 f1r12_13_I f1r12_13_A
        try dsimp only
        refine qi_if (fun cc14 => absurd cc14 (by decide)) (fun _ => ?_)
        refine l_gR Thr12_13 pit ?_
        refine l_gO ?_
        refine j_It_allow (v0 := it) (v1 := (x_lk t n (vI h cu 1 + 1))) (v2 := (x_lk t n (vI h cu 1 + 1))) Thr12_13 kit ?_
        intro hr16_15 Thr16_15 fr16_15_I fr16_15_A
        try dsimp only
        refine l_gR Thr16_15 pcu ?_
        refine l_gI (e := (vI h cu 1)) (by rw [fr16_15_I cu 1 (by omega), f1r12_13_I cu 1 (by omega)]) ?_
        refine l_sI Thr16_15 kcu (by decide) rfl ?_
        intro h19_16 Th19_16 ih19_16 ah19_16
        refine qi_some ?_
        exact ⟨Th19_16, Or.inl ⟨rfl, (by show x_pat t n (vI h cu 1) (vI h v0 3) (vI h v0 4) (vI h pt 6) (vI h v0 5) (vI h v0 6) = x_pat t n (vI h19_16 cu 1) (vI h19_16 v0 3) (vI h19_16 v0 4) (vI h19_16 pt 6) (vI h19_16 v0 5) (vI h19_16 v0 6); rw [show vI h19_16 cu 1 = ((vI h cu 1) + 2) from (by rw [ih19_16 cu 1, if_pos ⟨rfl, rfl⟩]), show vI h19_16 v0 3 = (vI h v0 3 + 1) from (by rw [ih19_16 v0 3, if_neg (fun z => absurd z.2 (by decide)), fr16_15_I v0 3 (by omega), g1r12_13_0]), show vI h19_16 v0 4 = (vI h v0 4) from (by rw [ih19_16 v0 4, if_neg (fun z => absurd z.2 (by decide)), fr16_15_I v0 4 (by omega), f1r12_13_I v0 4 (by omega)]), show vI h19_16 pt 6 = (vI h pt 6) from (by rw [ih19_16 pt 6, if_neg (fun z => absurd z.2 (by decide)), fr16_15_I pt 6 (by omega), f1r12_13_I pt 6 (by omega)]), show vI h19_16 v0 5 = (vI h v0 5) from (by rw [ih19_16 v0 5, if_neg (fun z => absurd z.2 (by decide)), fr16_15_I v0 5 (by omega), f1r12_13_I v0 5 (by omega)]), show vI h19_16 v0 6 = 1 from (by rw [ih19_16 v0 6, if_neg (fun z => absurd z.2 (by decide)), fr16_15_I v0 6 (by omega), g1r12_13_1])] <;> (rw [x_q92 n2 c, cc12, if_neg (by decide), if_neg (by decide), if_neg (by decide), if_pos (by decide), if_neg g1r12_13_2])), (by show vI h cu 1 < vI h19_16 cu 1; rw [show vI h19_16 cu 1 = ((vI h cu 1) + 2) from (by rw [ih19_16 cu 1, if_pos ⟨rfl, rfl⟩])] <;> (exact x_lp2 n2 (by rw [c]; decide))), (by show 0 ≤ vI h19_16 pt 6 ∧ vI h19_16 pt 6 ≤ 3; rw [show vI h19_16 pt 6 = (vI h pt 6) from (by rw [ih19_16 pt 6, if_neg (fun z => absurd z.2 (by decide)), fr16_15_I pt 6 (by omega), f1r12_13_I pt 6 (by omega)])] <;> (first | assumption | with_reducible rfl | grind)), (fun a k na => by rw [ih19_16 a k, if_neg (fun z => na (Or.inr (Or.inr (Or.inr (Or.inr (Or.inl z)))))), fr16_15_I a k (by omega), f1r12_13_I a k (fun z => na (z.elim (fun z => Or.inl z) (fun z => z.elim (fun z => Or.inr (Or.inl z)) (fun z => z.elim (fun z => Or.inr (Or.inr (Or.inl z))) (fun z => Or.inr (Or.inr (Or.inr (Or.inl z))))))))]), (fun a na => by rw [ah19_16 a, fr16_15_A a (by omega), f1r12_13_A a (fun z => na (z.elim (fun z => Or.inl z) (fun z => Or.inr (z))))])⟩⟩
      · intro hr12_13 Thr12_13 g0r12_13_0
        try dsimp only
        refine qi_if (fun _ => ?_) (fun cc17 => absurd (by decide) cc17)
        refine qi_some ?_
        exact ⟨Thr12_13, Or.inr ⟨rfl, (by show x_pat t n (vI h cu 1) (vI h v0 3) (vI h v0 4) (vI h pt 6) (vI h v0 5) (vI h v0 6) = none; rw [x_q92 n2 c, cc12, if_neg (by decide), if_neg (by decide), if_neg (by decide), if_pos (by decide), if_pos g0r12_13_0])⟩⟩
    · skip
      refine qi_if (fun cc18 => ?_) (fun cc18 => ?_)
      · skip
        refine l_gO ?_
        refine j_Pr_openGroup (v0 := v0) (cu := cu) (it := it) (pt := pt) (tx := tx) (t := t) (n := n) T kv0 kcu pcu kit pit kpt ppt ktx ptx ht hn n1 tp D gb a0 c (by show x_lk t n (vI h cu 1 + 1) = 40; first | assumption | with_reducible rfl | grind) ?_ ?_
        · intro hr22_19 Thr22_19 g1r22_19_0 g1r22_19_1 g1r22_19_2 f1r22_19_I f1r22_19_A
          try dsimp only
          rw [show vI hr22_19 v0 3 = (vI h v0 3) from (by rw [f1r22_19_I v0 3 (by omega)]), show vI hr22_19 v0 4 = (vI h v0 4) from (by rw [f1r22_19_I v0 4 (by omega)])] at g1r22_19_0
          refine qi_zB (fun zb20 => ?_)
          refine qi_some ?_
          exact ⟨Thr22_19, Or.inl ⟨rfl, (by show x_pat t n (vI h cu 1) (vI h v0 3) (vI h v0 4) (vI h pt 6) (vI h v0 5) (vI h v0 6) = x_pat t n (vI hr22_19 cu 1) (vI hr22_19 v0 3) (vI hr22_19 v0 4) (vI hr22_19 pt 6) (vI hr22_19 v0 5) (vI hr22_19 v0 6); rw [show vI hr22_19 v0 3 = (vI h v0 3) from (by rw [f1r22_19_I v0 3 (by omega)]), show vI hr22_19 v0 4 = (vI h v0 4) from (by rw [f1r22_19_I v0 4 (by omega)])] <;> (exact g1r22_19_0)), g1r22_19_1, g1r22_19_2, (fun a k na => by rw [f1r22_19_I a k (fun z => na (z.elim (fun z => Or.inl z) (fun z => z.elim (fun z => Or.inr (Or.inr (Or.inr (Or.inr (Or.inr (Or.inl z)))))) (fun z => z.elim (fun z => Or.inr (Or.inr (Or.inr (Or.inr (Or.inr (Or.inr (z))))))) (fun z => z.elim (fun z => Or.inr (Or.inr (Or.inr (Or.inl z)))) (fun z => z.elim (fun z => Or.inr (Or.inl z)) (fun z => Or.inr (Or.inr (Or.inr (Or.inr (Or.inl z)))))))))))]), (fun a na => by rw [f1r22_19_A a (fun z => na (z.elim (fun z => Or.inl z) (fun z => Or.inr (z))))])⟩⟩
        · intro hr22_19 Thr22_19 g0r22_19_0
          try dsimp only
          refine qi_zB (fun zb21 => ?_)
          refine qi_some ?_
          exact ⟨Thr22_19, Or.inr ⟨rfl, g0r22_19_0⟩⟩
      · skip
        refine qi_if (fun cc22 => ?_) (fun cc22 => ?_)
        · skip
          refine l_gO ?_
          refine j_Pr_closeGroup (v0 := v0) (cu := cu) (it := it) (pt := pt) (tx := tx) (t := t) (n := n) T kv0 kcu pcu kit pit kpt ppt ktx ptx ht hn n1 tp D gb a0 c (by show x_lk t n (vI h cu 1 + 1) = 41; first | assumption | with_reducible rfl | grind) ?_ ?_
          · intro hr26_23 Thr26_23 g1r26_23_0 g1r26_23_1 g1r26_23_2 f1r26_23_I f1r26_23_A
            try dsimp only
            rw [show vI hr26_23 v0 3 = (vI h v0 3) from (by rw [f1r26_23_I v0 3 (by omega)]), show vI hr26_23 v0 4 = (vI h v0 4) from (by rw [f1r26_23_I v0 4 (by omega)]), show vI hr26_23 pt 6 = (vI h pt 6) from (by rw [f1r26_23_I pt 6 (by omega)])] at g1r26_23_0
            rw [show vI hr26_23 pt 6 = (vI h pt 6) from (by rw [f1r26_23_I pt 6 (by omega)])] at g1r26_23_2
            refine qi_zB (fun zb24 => ?_)
            refine qi_some ?_
            exact ⟨Thr26_23, Or.inl ⟨rfl, (by show x_pat t n (vI h cu 1) (vI h v0 3) (vI h v0 4) (vI h pt 6) (vI h v0 5) (vI h v0 6) = x_pat t n (vI hr26_23 cu 1) (vI hr26_23 v0 3) (vI hr26_23 v0 4) (vI hr26_23 pt 6) (vI hr26_23 v0 5) (vI hr26_23 v0 6); rw [show vI hr26_23 v0 3 = (vI h v0 3) from (by rw [f1r26_23_I v0 3 (by omega)]), show vI hr26_23 v0 4 = (vI h v0 4) from (by rw [f1r26_23_I v0 4 (by omega)]), show vI hr26_23 pt 6 = (vI h pt 6) from (by rw [f1r26_23_I pt 6 (by omega)])] <;> (exact g1r26_23_0)), g1r26_23_1, (by show 0 ≤ vI hr26_23 pt 6 ∧ vI hr26_23 pt 6 ≤ 3; rw [show vI hr26_23 pt 6 = (vI h pt 6) from (by rw [f1r26_23_I pt 6 (by omega)])] <;> (first | assumption | with_reducible rfl | grind)), (fun a k na => by rw [f1r26_23_I a k (fun z => na (z.elim (fun z => Or.inl z) (fun z => z.elim (fun z => Or.inr (Or.inr (Or.inr (Or.inr (Or.inr (Or.inr (z))))))) (fun z => z.elim (fun z => Or.inr (Or.inr (Or.inr (Or.inl z)))) (fun z => z.elim (fun z => Or.inr (Or.inl z)) (fun z => Or.inr (Or.inr (Or.inr (Or.inr (Or.inl z))))))))))]), (fun a na => by rw [f1r26_23_A a (fun z => na (z.elim (fun z => Or.inl z) (fun z => Or.inr (z))))])⟩⟩
          · intro hr26_23 Thr26_23 g0r26_23_0
            try dsimp only
            refine qi_zB (fun zb25 => ?_)
            refine qi_some ?_
            exact ⟨Thr26_23, Or.inr ⟨rfl, g0r26_23_0⟩⟩
        · skip
          refine qi_if (fun cc26 => ?_) (fun cc26 => ?_)
          · skip
            refine l_gO ?_
            refine j_Pr_addOne (v0 := v0) (cu := cu) (it := it) (pt := pt) T kv0 kcu pcu kit pit kpt ppt (by show cu + 1 = v0 ∧ v0 + 4 ≤ it ∧ it + 6 ≤ pt; first | assumption | with_reducible rfl | grind) ?_ ?_
            · intro hr30_27 Thr30_27 g1r30_27_0 g1r30_27_1 g1r30_27_2 f1r30_27_I f1r30_27_A
              try dsimp only
              refine qi_if (fun cc28 => absurd cc28 (by decide)) (fun _ => ?_)
              refine l_gR Thr30_27 pit ?_
              refine l_gO ?_
              refine j_It_allow (v0 := it) (v1 := (x_lk t n (vI h cu 1 + 1))) (v2 := (x_lk t n (vI h cu 1 + 1))) Thr30_27 kit ?_
              intro hr34_29 Thr34_29 fr34_29_I fr34_29_A
              try dsimp only
              refine l_gR Thr34_29 pcu ?_
              refine l_gI (e := (vI h cu 1)) (by rw [fr34_29_I cu 1 (by omega), f1r30_27_I cu 1 (by omega)]) ?_
              refine l_sI Thr34_29 kcu (by decide) rfl ?_
              intro h37_30 Th37_30 ih37_30 ah37_30
              refine qi_some ?_
              exact ⟨Th37_30, Or.inl ⟨rfl, (by show x_pat t n (vI h cu 1) (vI h v0 3) (vI h v0 4) (vI h pt 6) (vI h v0 5) (vI h v0 6) = x_pat t n (vI h37_30 cu 1) (vI h37_30 v0 3) (vI h37_30 v0 4) (vI h37_30 pt 6) (vI h37_30 v0 5) (vI h37_30 v0 6); rw [show vI h37_30 cu 1 = ((vI h cu 1) + 2) from (by rw [ih37_30 cu 1, if_pos ⟨rfl, rfl⟩]), show vI h37_30 v0 3 = (vI h v0 3 + 1) from (by rw [ih37_30 v0 3, if_neg (fun z => absurd z.2 (by decide)), fr34_29_I v0 3 (by omega), g1r30_27_0]), show vI h37_30 v0 4 = (vI h v0 4) from (by rw [ih37_30 v0 4, if_neg (fun z => absurd z.2 (by decide)), fr34_29_I v0 4 (by omega), f1r30_27_I v0 4 (by omega)]), show vI h37_30 pt 6 = (vI h pt 6) from (by rw [ih37_30 pt 6, if_neg (fun z => absurd z.2 (by decide)), fr34_29_I pt 6 (by omega), f1r30_27_I pt 6 (by omega)]), show vI h37_30 v0 5 = (vI h v0 5) from (by rw [ih37_30 v0 5, if_neg (fun z => absurd z.2 (by decide)), fr34_29_I v0 5 (by omega), f1r30_27_I v0 5 (by omega)]), show vI h37_30 v0 6 = 1 from (by rw [ih37_30 v0 6, if_neg (fun z => absurd z.2 (by decide)), fr34_29_I v0 6 (by omega), g1r30_27_1])] <;> (rw [x_q92 n2 c, cc26, if_neg (by decide), if_neg (by decide), if_neg (by decide), if_pos (by decide), if_neg g1r30_27_2])), (by show vI h cu 1 < vI h37_30 cu 1; rw [show vI h37_30 cu 1 = ((vI h cu 1) + 2) from (by rw [ih37_30 cu 1, if_pos ⟨rfl, rfl⟩])] <;> (exact x_lp2 n2 (by rw [c]; decide))), (by show 0 ≤ vI h37_30 pt 6 ∧ vI h37_30 pt 6 ≤ 3; rw [show vI h37_30 pt 6 = (vI h pt 6) from (by rw [ih37_30 pt 6, if_neg (fun z => absurd z.2 (by decide)), fr34_29_I pt 6 (by omega), f1r30_27_I pt 6 (by omega)])] <;> (first | assumption | with_reducible rfl | grind)), (fun a k na => by rw [ih37_30 a k, if_neg (fun z => na (Or.inr (Or.inr (Or.inr (Or.inr (Or.inl z)))))), fr34_29_I a k (by omega), f1r30_27_I a k (fun z => na (z.elim (fun z => Or.inl z) (fun z => z.elim (fun z => Or.inr (Or.inl z)) (fun z => z.elim (fun z => Or.inr (Or.inr (Or.inl z))) (fun z => Or.inr (Or.inr (Or.inr (Or.inl z))))))))]), (fun a na => by rw [ah37_30 a, fr34_29_A a (by omega), f1r30_27_A a (fun z => na (z.elim (fun z => Or.inl z) (fun z => Or.inr (z))))])⟩⟩
            · intro hr30_27 Thr30_27 g0r30_27_0
              try dsimp only
              refine qi_if (fun _ => ?_) (fun cc31 => absurd (by decide) cc31)
              refine qi_some ?_
              exact ⟨Thr30_27, Or.inr ⟨rfl, (by show x_pat t n (vI h cu 1) (vI h v0 3) (vI h v0 4) (vI h pt 6) (vI h v0 5) (vI h v0 6) = none; rw [x_q92 n2 c, cc26, if_neg (by decide), if_neg (by decide), if_neg (by decide), if_pos (by decide), if_pos g0r30_27_0])⟩⟩
          · skip
            refine qi_if (fun cc32 => ?_) (fun cc32 => ?_)
            · skip
              refine l_gO ?_
              refine j_Pr_addOne (v0 := v0) (cu := cu) (it := it) (pt := pt) T kv0 kcu pcu kit pit kpt ppt (by show cu + 1 = v0 ∧ v0 + 4 ≤ it ∧ it + 6 ≤ pt; first | assumption | with_reducible rfl | grind) ?_ ?_
              · intro hr40_33 Thr40_33 g1r40_33_0 g1r40_33_1 g1r40_33_2 f1r40_33_I f1r40_33_A
                try dsimp only
                refine qi_if (fun cc34 => absurd cc34 (by decide)) (fun _ => ?_)
                refine l_gR Thr40_33 pit ?_
                refine l_gO ?_
                refine j_It_allow (v0 := it) (v1 := (x_lk t n (vI h cu 1 + 1))) (v2 := (x_lk t n (vI h cu 1 + 1))) Thr40_33 kit ?_
                intro hr44_35 Thr44_35 fr44_35_I fr44_35_A
                try dsimp only
                refine l_gR Thr44_35 pcu ?_
                refine l_gI (e := (vI h cu 1)) (by rw [fr44_35_I cu 1 (by omega), f1r40_33_I cu 1 (by omega)]) ?_
                refine l_sI Thr44_35 kcu (by decide) rfl ?_
                intro h47_36 Th47_36 ih47_36 ah47_36
                refine qi_some ?_
                exact ⟨Th47_36, Or.inl ⟨rfl, (by show x_pat t n (vI h cu 1) (vI h v0 3) (vI h v0 4) (vI h pt 6) (vI h v0 5) (vI h v0 6) = x_pat t n (vI h47_36 cu 1) (vI h47_36 v0 3) (vI h47_36 v0 4) (vI h47_36 pt 6) (vI h47_36 v0 5) (vI h47_36 v0 6); rw [show vI h47_36 cu 1 = ((vI h cu 1) + 2) from (by rw [ih47_36 cu 1, if_pos ⟨rfl, rfl⟩]), show vI h47_36 v0 3 = (vI h v0 3 + 1) from (by rw [ih47_36 v0 3, if_neg (fun z => absurd z.2 (by decide)), fr44_35_I v0 3 (by omega), g1r40_33_0]), show vI h47_36 v0 4 = (vI h v0 4) from (by rw [ih47_36 v0 4, if_neg (fun z => absurd z.2 (by decide)), fr44_35_I v0 4 (by omega), f1r40_33_I v0 4 (by omega)]), show vI h47_36 pt 6 = (vI h pt 6) from (by rw [ih47_36 pt 6, if_neg (fun z => absurd z.2 (by decide)), fr44_35_I pt 6 (by omega), f1r40_33_I pt 6 (by omega)]), show vI h47_36 v0 5 = (vI h v0 5) from (by rw [ih47_36 v0 5, if_neg (fun z => absurd z.2 (by decide)), fr44_35_I v0 5 (by omega), f1r40_33_I v0 5 (by omega)]), show vI h47_36 v0 6 = 1 from (by rw [ih47_36 v0 6, if_neg (fun z => absurd z.2 (by decide)), fr44_35_I v0 6 (by omega), g1r40_33_1])] <;> (rw [x_q92 n2 c, cc32, if_neg (by decide), if_neg (by decide), if_neg (by decide), if_pos (by decide), if_neg g1r40_33_2])), (by show vI h cu 1 < vI h47_36 cu 1; rw [show vI h47_36 cu 1 = ((vI h cu 1) + 2) from (by rw [ih47_36 cu 1, if_pos ⟨rfl, rfl⟩])] <;> (exact x_lp2 n2 (by rw [c]; decide))), (by show 0 ≤ vI h47_36 pt 6 ∧ vI h47_36 pt 6 ≤ 3; rw [show vI h47_36 pt 6 = (vI h pt 6) from (by rw [ih47_36 pt 6, if_neg (fun z => absurd z.2 (by decide)), fr44_35_I pt 6 (by omega), f1r40_33_I pt 6 (by omega)])] <;> (first | assumption | with_reducible rfl | grind)), (fun a k na => by rw [ih47_36 a k, if_neg (fun z => na (Or.inr (Or.inr (Or.inr (Or.inr (Or.inl z)))))), fr44_35_I a k (by omega), f1r40_33_I a k (fun z => na (z.elim (fun z => Or.inl z) (fun z => z.elim (fun z => Or.inr (Or.inl z)) (fun z => z.elim (fun z => Or.inr (Or.inr (Or.inl z))) (fun z => Or.inr (Or.inr (Or.inr (Or.inl z))))))))]), (fun a na => by rw [ah47_36 a, fr44_35_A a (by omega), f1r40_33_A a (fun z => na (z.elim (fun z => Or.inl z) (fun z => Or.inr (z))))])⟩⟩
              · intro hr40_33 Thr40_33 g0r40_33_0
                try dsimp only
                refine qi_if (fun _ => ?_) (fun cc37 => absurd (by decide) cc37)
                refine qi_some ?_
                exact ⟨Thr40_33, Or.inr ⟨rfl, (by show x_pat t n (vI h cu 1) (vI h v0 3) (vI h v0 4) (vI h pt 6) (vI h v0 5) (vI h v0 6) = none; rw [x_q92 n2 c, cc32, if_neg (by decide), if_neg (by decide), if_neg (by decide), if_pos (by decide), if_pos g0r40_33_0])⟩⟩
            · skip
              refine qi_if (fun cc38 => ?_) (fun cc38 => ?_)
              · skip
                refine l_gO ?_
                refine j_Pr_addOne (v0 := v0) (cu := cu) (it := it) (pt := pt) T kv0 kcu pcu kit pit kpt ppt (by show cu + 1 = v0 ∧ v0 + 4 ≤ it ∧ it + 6 ≤ pt; first | assumption | with_reducible rfl | grind) ?_ ?_
                · intro hr50_39 Thr50_39 g1r50_39_0 g1r50_39_1 g1r50_39_2 f1r50_39_I f1r50_39_A
                  try dsimp only
                  refine qi_if (fun cc40 => absurd cc40 (by decide)) (fun _ => ?_)
                  refine l_gR Thr50_39 pit ?_
                  refine l_gO ?_
                  refine j_It_allow (v0 := it) (v1 := (x_lk t n (vI h cu 1 + 1))) (v2 := (x_lk t n (vI h cu 1 + 1))) Thr50_39 kit ?_
                  intro hr54_41 Thr54_41 fr54_41_I fr54_41_A
                  try dsimp only
                  refine l_gR Thr54_41 pcu ?_
                  refine l_gI (e := (vI h cu 1)) (by rw [fr54_41_I cu 1 (by omega), f1r50_39_I cu 1 (by omega)]) ?_
                  refine l_sI Thr54_41 kcu (by decide) rfl ?_
                  intro h57_42 Th57_42 ih57_42 ah57_42
                  refine qi_some ?_
                  exact ⟨Th57_42, Or.inl ⟨rfl, (by show x_pat t n (vI h cu 1) (vI h v0 3) (vI h v0 4) (vI h pt 6) (vI h v0 5) (vI h v0 6) = x_pat t n (vI h57_42 cu 1) (vI h57_42 v0 3) (vI h57_42 v0 4) (vI h57_42 pt 6) (vI h57_42 v0 5) (vI h57_42 v0 6); rw [show vI h57_42 cu 1 = ((vI h cu 1) + 2) from (by rw [ih57_42 cu 1, if_pos ⟨rfl, rfl⟩]), show vI h57_42 v0 3 = (vI h v0 3 + 1) from (by rw [ih57_42 v0 3, if_neg (fun z => absurd z.2 (by decide)), fr54_41_I v0 3 (by omega), g1r50_39_0]), show vI h57_42 v0 4 = (vI h v0 4) from (by rw [ih57_42 v0 4, if_neg (fun z => absurd z.2 (by decide)), fr54_41_I v0 4 (by omega), f1r50_39_I v0 4 (by omega)]), show vI h57_42 pt 6 = (vI h pt 6) from (by rw [ih57_42 pt 6, if_neg (fun z => absurd z.2 (by decide)), fr54_41_I pt 6 (by omega), f1r50_39_I pt 6 (by omega)]), show vI h57_42 v0 5 = (vI h v0 5) from (by rw [ih57_42 v0 5, if_neg (fun z => absurd z.2 (by decide)), fr54_41_I v0 5 (by omega), f1r50_39_I v0 5 (by omega)]), show vI h57_42 v0 6 = 1 from (by rw [ih57_42 v0 6, if_neg (fun z => absurd z.2 (by decide)), fr54_41_I v0 6 (by omega), g1r50_39_1])] <;> (rw [x_q92 n2 c, cc38, if_neg (by decide), if_neg (by decide), if_neg (by decide), if_pos (by decide), if_neg g1r50_39_2])), (by show vI h cu 1 < vI h57_42 cu 1; rw [show vI h57_42 cu 1 = ((vI h cu 1) + 2) from (by rw [ih57_42 cu 1, if_pos ⟨rfl, rfl⟩])] <;> (exact x_lp2 n2 (by rw [c]; decide))), (by show 0 ≤ vI h57_42 pt 6 ∧ vI h57_42 pt 6 ≤ 3; rw [show vI h57_42 pt 6 = (vI h pt 6) from (by rw [ih57_42 pt 6, if_neg (fun z => absurd z.2 (by decide)), fr54_41_I pt 6 (by omega), f1r50_39_I pt 6 (by omega)])] <;> (first | assumption | with_reducible rfl | grind)), (fun a k na => by rw [ih57_42 a k, if_neg (fun z => na (Or.inr (Or.inr (Or.inr (Or.inr (Or.inl z)))))), fr54_41_I a k (by omega), f1r50_39_I a k (fun z => na (z.elim (fun z => Or.inl z) (fun z => z.elim (fun z => Or.inr (Or.inl z)) (fun z => z.elim (fun z => Or.inr (Or.inr (Or.inl z))) (fun z => Or.inr (Or.inr (Or.inr (Or.inl z))))))))]), (fun a na => by rw [ah57_42 a, fr54_41_A a (by omega), f1r50_39_A a (fun z => na (z.elim (fun z => Or.inl z) (fun z => Or.inr (z))))])⟩⟩
                · intro hr50_39 Thr50_39 g0r50_39_0
                  try dsimp only
                  refine qi_if (fun _ => ?_) (fun cc43 => absurd (by decide) cc43)
                  refine qi_some ?_
                  exact ⟨Thr50_39, Or.inr ⟨rfl, (by show x_pat t n (vI h cu 1) (vI h v0 3) (vI h v0 4) (vI h pt 6) (vI h v0 5) (vI h v0 6) = none; rw [x_q92 n2 c, cc38, if_neg (by decide), if_neg (by decide), if_neg (by decide), if_pos (by decide), if_pos g0r50_39_0])⟩⟩
              · skip
                refine qi_if (fun cc44 => ?_) (fun cc44 => ?_)
                · skip
                  refine l_gO ?_
                  refine j_Pr_readSame (v0 := v0) (v1 := ((x_lk t n (vI h cu 1 + 1)) - 48)) (cu := cu) (it := it) (pt := pt) (tx := tx) (t := t) (n := n) (d0 := (x_lk t n (vI h cu 1 + 1))) T kv0 kcu pcu kit pit kpt ppt ktx ptx ht hn n1 tp D gb a0 c (by show x_lk t n (vI h cu 1 + 1) = (x_lk t n (vI h cu 1 + 1)); rfl) (by show (x_lk t n (vI h cu 1 + 1)) = 49 ∨ (x_lk t n (vI h cu 1 + 1)) = 50 ∨ (x_lk t n (vI h cu 1 + 1)) = 51; grind) (by show (x_lk t n (vI h cu 1 + 1)) - 48 = ((x_lk t n (vI h cu 1 + 1)) - 48); rfl) ?_ ?_
                  · intro hr60_45 Thr60_45 g1r60_45_0 g1r60_45_1 g1r60_45_2 f1r60_45_I f1r60_45_A
                    try dsimp only
                    rw [show vI hr60_45 v0 4 = (vI h v0 4) from (by rw [f1r60_45_I v0 4 (by omega)]), show vI hr60_45 pt 6 = (vI h pt 6) from (by rw [f1r60_45_I pt 6 (by omega)]), show vI hr60_45 v0 5 = (vI h v0 5) from (by rw [f1r60_45_I v0 5 (by omega)])] at g1r60_45_0
                    rw [show vI hr60_45 pt 6 = (vI h pt 6) from (by rw [f1r60_45_I pt 6 (by omega)])] at g1r60_45_2
                    refine qi_zB (fun zb46 => ?_)
                    refine qi_some ?_
                    exact ⟨Thr60_45, Or.inl ⟨rfl, (by show x_pat t n (vI h cu 1) (vI h v0 3) (vI h v0 4) (vI h pt 6) (vI h v0 5) (vI h v0 6) = x_pat t n (vI hr60_45 cu 1) (vI hr60_45 v0 3) (vI hr60_45 v0 4) (vI hr60_45 pt 6) (vI hr60_45 v0 5) (vI hr60_45 v0 6); rw [show vI hr60_45 v0 4 = (vI h v0 4) from (by rw [f1r60_45_I v0 4 (by omega)]), show vI hr60_45 pt 6 = (vI h pt 6) from (by rw [f1r60_45_I pt 6 (by omega)]), show vI hr60_45 v0 5 = (vI h v0 5) from (by rw [f1r60_45_I v0 5 (by omega)])] <;> (exact g1r60_45_0)), g1r60_45_1, (by show 0 ≤ vI hr60_45 pt 6 ∧ vI hr60_45 pt 6 ≤ 3; rw [show vI hr60_45 pt 6 = (vI h pt 6) from (by rw [f1r60_45_I pt 6 (by omega)])] <;> (first | assumption | with_reducible rfl | grind)), (fun a k na => by rw [f1r60_45_I a k (fun z => na (z.elim (fun z => Or.inl z) (fun z => z.elim (fun z => Or.inr (Or.inr (Or.inl z))) (fun z => z.elim (fun z => Or.inr (Or.inr (Or.inr (Or.inl z)))) (fun z => z.elim (fun z => Or.inr (Or.inl z)) (fun z => Or.inr (Or.inr (Or.inr (Or.inr (Or.inl z))))))))))]), (fun a na => by rw [f1r60_45_A a (fun z => na (z.elim (fun z => Or.inl z) (fun z => Or.inr (z))))])⟩⟩
                  · intro hr60_45 Thr60_45 g0r60_45_0
                    try dsimp only
                    refine qi_zB (fun zb47 => ?_)
                    refine qi_some ?_
                    exact ⟨Thr60_45, Or.inr ⟨rfl, g0r60_45_0⟩⟩
                · skip
                  refine qi_if (fun cc48 => ?_) (fun cc48 => ?_)
                  · skip
                    refine l_gO ?_
                    refine j_Pr_readSame (v0 := v0) (v1 := ((x_lk t n (vI h cu 1 + 1)) - 48)) (cu := cu) (it := it) (pt := pt) (tx := tx) (t := t) (n := n) (d0 := (x_lk t n (vI h cu 1 + 1))) T kv0 kcu pcu kit pit kpt ppt ktx ptx ht hn n1 tp D gb a0 c (by show x_lk t n (vI h cu 1 + 1) = (x_lk t n (vI h cu 1 + 1)); rfl) (by show (x_lk t n (vI h cu 1 + 1)) = 49 ∨ (x_lk t n (vI h cu 1 + 1)) = 50 ∨ (x_lk t n (vI h cu 1 + 1)) = 51; grind) (by show (x_lk t n (vI h cu 1 + 1)) - 48 = ((x_lk t n (vI h cu 1 + 1)) - 48); rfl) ?_ ?_
                    · intro hr64_49 Thr64_49 g1r64_49_0 g1r64_49_1 g1r64_49_2 f1r64_49_I f1r64_49_A
                      try dsimp only
                      rw [show vI hr64_49 v0 4 = (vI h v0 4) from (by rw [f1r64_49_I v0 4 (by omega)]), show vI hr64_49 pt 6 = (vI h pt 6) from (by rw [f1r64_49_I pt 6 (by omega)]), show vI hr64_49 v0 5 = (vI h v0 5) from (by rw [f1r64_49_I v0 5 (by omega)])] at g1r64_49_0
                      rw [show vI hr64_49 pt 6 = (vI h pt 6) from (by rw [f1r64_49_I pt 6 (by omega)])] at g1r64_49_2
                      refine qi_zB (fun zb50 => ?_)
                      refine qi_some ?_
                      exact ⟨Thr64_49, Or.inl ⟨rfl, (by show x_pat t n (vI h cu 1) (vI h v0 3) (vI h v0 4) (vI h pt 6) (vI h v0 5) (vI h v0 6) = x_pat t n (vI hr64_49 cu 1) (vI hr64_49 v0 3) (vI hr64_49 v0 4) (vI hr64_49 pt 6) (vI hr64_49 v0 5) (vI hr64_49 v0 6); rw [show vI hr64_49 v0 4 = (vI h v0 4) from (by rw [f1r64_49_I v0 4 (by omega)]), show vI hr64_49 pt 6 = (vI h pt 6) from (by rw [f1r64_49_I pt 6 (by omega)]), show vI hr64_49 v0 5 = (vI h v0 5) from (by rw [f1r64_49_I v0 5 (by omega)])] <;> (exact g1r64_49_0)), g1r64_49_1, (by show 0 ≤ vI hr64_49 pt 6 ∧ vI hr64_49 pt 6 ≤ 3; rw [show vI hr64_49 pt 6 = (vI h pt 6) from (by rw [f1r64_49_I pt 6 (by omega)])] <;> (first | assumption | with_reducible rfl | grind)), (fun a k na => by rw [f1r64_49_I a k (fun z => na (z.elim (fun z => Or.inl z) (fun z => z.elim (fun z => Or.inr (Or.inr (Or.inl z))) (fun z => z.elim (fun z => Or.inr (Or.inr (Or.inr (Or.inl z)))) (fun z => z.elim (fun z => Or.inr (Or.inl z)) (fun z => Or.inr (Or.inr (Or.inr (Or.inr (Or.inl z))))))))))]), (fun a na => by rw [f1r64_49_A a (fun z => na (z.elim (fun z => Or.inl z) (fun z => Or.inr (z))))])⟩⟩
                    · intro hr64_49 Thr64_49 g0r64_49_0
                      try dsimp only
                      refine qi_zB (fun zb51 => ?_)
                      refine qi_some ?_
                      exact ⟨Thr64_49, Or.inr ⟨rfl, g0r64_49_0⟩⟩
                  · skip
                    refine qi_if (fun cc52 => ?_) (fun cc52 => ?_)
                    · skip
                      refine l_gO ?_
                      refine j_Pr_readSame (v0 := v0) (v1 := ((x_lk t n (vI h cu 1 + 1)) - 48)) (cu := cu) (it := it) (pt := pt) (tx := tx) (t := t) (n := n) (d0 := (x_lk t n (vI h cu 1 + 1))) T kv0 kcu pcu kit pit kpt ppt ktx ptx ht hn n1 tp D gb a0 c (by show x_lk t n (vI h cu 1 + 1) = (x_lk t n (vI h cu 1 + 1)); rfl) (by show (x_lk t n (vI h cu 1 + 1)) = 49 ∨ (x_lk t n (vI h cu 1 + 1)) = 50 ∨ (x_lk t n (vI h cu 1 + 1)) = 51; grind) (by show (x_lk t n (vI h cu 1 + 1)) - 48 = ((x_lk t n (vI h cu 1 + 1)) - 48); rfl) ?_ ?_
                      · intro hr68_53 Thr68_53 g1r68_53_0 g1r68_53_1 g1r68_53_2 f1r68_53_I f1r68_53_A
                        try dsimp only
                        rw [show vI hr68_53 v0 4 = (vI h v0 4) from (by rw [f1r68_53_I v0 4 (by omega)]), show vI hr68_53 pt 6 = (vI h pt 6) from (by rw [f1r68_53_I pt 6 (by omega)]), show vI hr68_53 v0 5 = (vI h v0 5) from (by rw [f1r68_53_I v0 5 (by omega)])] at g1r68_53_0
                        rw [show vI hr68_53 pt 6 = (vI h pt 6) from (by rw [f1r68_53_I pt 6 (by omega)])] at g1r68_53_2
                        refine qi_zB (fun zb54 => ?_)
                        refine qi_some ?_
                        exact ⟨Thr68_53, Or.inl ⟨rfl, (by show x_pat t n (vI h cu 1) (vI h v0 3) (vI h v0 4) (vI h pt 6) (vI h v0 5) (vI h v0 6) = x_pat t n (vI hr68_53 cu 1) (vI hr68_53 v0 3) (vI hr68_53 v0 4) (vI hr68_53 pt 6) (vI hr68_53 v0 5) (vI hr68_53 v0 6); rw [show vI hr68_53 v0 4 = (vI h v0 4) from (by rw [f1r68_53_I v0 4 (by omega)]), show vI hr68_53 pt 6 = (vI h pt 6) from (by rw [f1r68_53_I pt 6 (by omega)]), show vI hr68_53 v0 5 = (vI h v0 5) from (by rw [f1r68_53_I v0 5 (by omega)])] <;> (exact g1r68_53_0)), g1r68_53_1, (by show 0 ≤ vI hr68_53 pt 6 ∧ vI hr68_53 pt 6 ≤ 3; rw [show vI hr68_53 pt 6 = (vI h pt 6) from (by rw [f1r68_53_I pt 6 (by omega)])] <;> (first | assumption | with_reducible rfl | grind)), (fun a k na => by rw [f1r68_53_I a k (fun z => na (z.elim (fun z => Or.inl z) (fun z => z.elim (fun z => Or.inr (Or.inr (Or.inl z))) (fun z => z.elim (fun z => Or.inr (Or.inr (Or.inr (Or.inl z)))) (fun z => z.elim (fun z => Or.inr (Or.inl z)) (fun z => Or.inr (Or.inr (Or.inr (Or.inr (Or.inl z))))))))))]), (fun a na => by rw [f1r68_53_A a (fun z => na (z.elim (fun z => Or.inl z) (fun z => Or.inr (z))))])⟩⟩
                      · intro hr68_53 Thr68_53 g0r68_53_0
                        try dsimp only
                        refine qi_zB (fun zb55 => ?_)
                        refine qi_some ?_
                        exact ⟨Thr68_53, Or.inr ⟨rfl, g0r68_53_0⟩⟩
                    · skip
                      refine qi_if (fun cc56 => ?_) (fun cc56 => ?_)
                      · skip
                        refine l_gO ?_
                        refine j_Pr_addOne (v0 := v0) (cu := cu) (it := it) (pt := pt) T kv0 kcu pcu kit pit kpt ppt (by show cu + 1 = v0 ∧ v0 + 4 ≤ it ∧ it + 6 ≤ pt; first | assumption | with_reducible rfl | grind) ?_ ?_
                        · intro hr72_57 Thr72_57 g1r72_57_0 g1r72_57_1 g1r72_57_2 f1r72_57_I f1r72_57_A
                          try dsimp only
                          refine qi_if (fun cc58 => absurd cc58 (by decide)) (fun _ => ?_)
                          refine l_gR Thr72_57 pit ?_
                          refine l_gO ?_
                          refine j_It_allow (v0 := it) (v1 := (x_lk t n (vI h cu 1 + 1))) (v2 := (x_lk t n (vI h cu 1 + 1))) Thr72_57 kit ?_
                          intro hr76_59 Thr76_59 fr76_59_I fr76_59_A
                          try dsimp only
                          refine l_gR Thr76_59 pcu ?_
                          refine l_gI (e := (vI h cu 1)) (by rw [fr76_59_I cu 1 (by omega), f1r72_57_I cu 1 (by omega)]) ?_
                          refine l_sI Thr76_59 kcu (by decide) rfl ?_
                          intro h79_60 Th79_60 ih79_60 ah79_60
                          refine qi_some ?_
                          exact ⟨Th79_60, Or.inl ⟨rfl, (by show x_pat t n (vI h cu 1) (vI h v0 3) (vI h v0 4) (vI h pt 6) (vI h v0 5) (vI h v0 6) = x_pat t n (vI h79_60 cu 1) (vI h79_60 v0 3) (vI h79_60 v0 4) (vI h79_60 pt 6) (vI h79_60 v0 5) (vI h79_60 v0 6); rw [show vI h79_60 cu 1 = ((vI h cu 1) + 2) from (by rw [ih79_60 cu 1, if_pos ⟨rfl, rfl⟩]), show vI h79_60 v0 3 = (vI h v0 3 + 1) from (by rw [ih79_60 v0 3, if_neg (fun z => absurd z.2 (by decide)), fr76_59_I v0 3 (by omega), g1r72_57_0]), show vI h79_60 v0 4 = (vI h v0 4) from (by rw [ih79_60 v0 4, if_neg (fun z => absurd z.2 (by decide)), fr76_59_I v0 4 (by omega), f1r72_57_I v0 4 (by omega)]), show vI h79_60 pt 6 = (vI h pt 6) from (by rw [ih79_60 pt 6, if_neg (fun z => absurd z.2 (by decide)), fr76_59_I pt 6 (by omega), f1r72_57_I pt 6 (by omega)]), show vI h79_60 v0 5 = (vI h v0 5) from (by rw [ih79_60 v0 5, if_neg (fun z => absurd z.2 (by decide)), fr76_59_I v0 5 (by omega), f1r72_57_I v0 5 (by omega)]), show vI h79_60 v0 6 = 1 from (by rw [ih79_60 v0 6, if_neg (fun z => absurd z.2 (by decide)), fr76_59_I v0 6 (by omega), g1r72_57_1])] <;> (rw [x_q92 n2 c, cc56, if_neg (by decide), if_neg (by decide), if_neg (by decide), if_pos (by decide), if_neg g1r72_57_2])), (by show vI h cu 1 < vI h79_60 cu 1; rw [show vI h79_60 cu 1 = ((vI h cu 1) + 2) from (by rw [ih79_60 cu 1, if_pos ⟨rfl, rfl⟩])] <;> (exact x_lp2 n2 (by rw [c]; decide))), (by show 0 ≤ vI h79_60 pt 6 ∧ vI h79_60 pt 6 ≤ 3; rw [show vI h79_60 pt 6 = (vI h pt 6) from (by rw [ih79_60 pt 6, if_neg (fun z => absurd z.2 (by decide)), fr76_59_I pt 6 (by omega), f1r72_57_I pt 6 (by omega)])] <;> (first | assumption | with_reducible rfl | grind)), (fun a k na => by rw [ih79_60 a k, if_neg (fun z => na (Or.inr (Or.inr (Or.inr (Or.inr (Or.inl z)))))), fr76_59_I a k (by omega), f1r72_57_I a k (fun z => na (z.elim (fun z => Or.inl z) (fun z => z.elim (fun z => Or.inr (Or.inl z)) (fun z => z.elim (fun z => Or.inr (Or.inr (Or.inl z))) (fun z => Or.inr (Or.inr (Or.inr (Or.inl z))))))))]), (fun a na => by rw [ah79_60 a, fr76_59_A a (by omega), f1r72_57_A a (fun z => na (z.elim (fun z => Or.inl z) (fun z => Or.inr (z))))])⟩⟩
                        · intro hr72_57 Thr72_57 g0r72_57_0
                          try dsimp only
                          refine qi_if (fun _ => ?_) (fun cc61 => absurd (by decide) cc61)
                          refine qi_some ?_
                          exact ⟨Thr72_57, Or.inr ⟨rfl, (by show x_pat t n (vI h cu 1) (vI h v0 3) (vI h v0 4) (vI h pt 6) (vI h v0 5) (vI h v0 6) = none; rw [x_q92 n2 c, cc56, if_neg (by decide), if_neg (by decide), if_neg (by decide), if_pos (by decide), if_pos g0r72_57_0])⟩⟩
                      · skip
                        refine qi_if (fun cc62 => ?_) (fun cc62 => ?_)
                        · skip
                          refine l_gO ?_
                          refine j_Pr_addOne (v0 := v0) (cu := cu) (it := it) (pt := pt) T kv0 kcu pcu kit pit kpt ppt (by show cu + 1 = v0 ∧ v0 + 4 ≤ it ∧ it + 6 ≤ pt; first | assumption | with_reducible rfl | grind) ?_ ?_
                          · intro hr82_63 Thr82_63 g1r82_63_0 g1r82_63_1 g1r82_63_2 f1r82_63_I f1r82_63_A
                            try dsimp only
                            refine qi_if (fun cc64 => absurd cc64 (by decide)) (fun _ => ?_)
                            refine l_gR Thr82_63 pit ?_
                            refine l_gO ?_
                            refine j_It_allow (v0 := it) (v1 := (x_lk t n (vI h cu 1 + 1))) (v2 := (x_lk t n (vI h cu 1 + 1))) Thr82_63 kit ?_
                            intro hr86_65 Thr86_65 fr86_65_I fr86_65_A
                            try dsimp only
                            refine l_gR Thr86_65 pcu ?_
                            refine l_gI (e := (vI h cu 1)) (by rw [fr86_65_I cu 1 (by omega), f1r82_63_I cu 1 (by omega)]) ?_
                            refine l_sI Thr86_65 kcu (by decide) rfl ?_
                            intro h89_66 Th89_66 ih89_66 ah89_66
                            refine qi_some ?_
                            exact ⟨Th89_66, Or.inl ⟨rfl, (by show x_pat t n (vI h cu 1) (vI h v0 3) (vI h v0 4) (vI h pt 6) (vI h v0 5) (vI h v0 6) = x_pat t n (vI h89_66 cu 1) (vI h89_66 v0 3) (vI h89_66 v0 4) (vI h89_66 pt 6) (vI h89_66 v0 5) (vI h89_66 v0 6); rw [show vI h89_66 cu 1 = ((vI h cu 1) + 2) from (by rw [ih89_66 cu 1, if_pos ⟨rfl, rfl⟩]), show vI h89_66 v0 3 = (vI h v0 3 + 1) from (by rw [ih89_66 v0 3, if_neg (fun z => absurd z.2 (by decide)), fr86_65_I v0 3 (by omega), g1r82_63_0]), show vI h89_66 v0 4 = (vI h v0 4) from (by rw [ih89_66 v0 4, if_neg (fun z => absurd z.2 (by decide)), fr86_65_I v0 4 (by omega), f1r82_63_I v0 4 (by omega)]), show vI h89_66 pt 6 = (vI h pt 6) from (by rw [ih89_66 pt 6, if_neg (fun z => absurd z.2 (by decide)), fr86_65_I pt 6 (by omega), f1r82_63_I pt 6 (by omega)]), show vI h89_66 v0 5 = (vI h v0 5) from (by rw [ih89_66 v0 5, if_neg (fun z => absurd z.2 (by decide)), fr86_65_I v0 5 (by omega), f1r82_63_I v0 5 (by omega)]), show vI h89_66 v0 6 = 1 from (by rw [ih89_66 v0 6, if_neg (fun z => absurd z.2 (by decide)), fr86_65_I v0 6 (by omega), g1r82_63_1])] <;> (rw [x_q92 n2 c, cc62, if_neg (by decide), if_neg (by decide), if_neg (by decide), if_pos (by decide), if_neg g1r82_63_2])), (by show vI h cu 1 < vI h89_66 cu 1; rw [show vI h89_66 cu 1 = ((vI h cu 1) + 2) from (by rw [ih89_66 cu 1, if_pos ⟨rfl, rfl⟩])] <;> (exact x_lp2 n2 (by rw [c]; decide))), (by show 0 ≤ vI h89_66 pt 6 ∧ vI h89_66 pt 6 ≤ 3; rw [show vI h89_66 pt 6 = (vI h pt 6) from (by rw [ih89_66 pt 6, if_neg (fun z => absurd z.2 (by decide)), fr86_65_I pt 6 (by omega), f1r82_63_I pt 6 (by omega)])] <;> (first | assumption | with_reducible rfl | grind)), (fun a k na => by rw [ih89_66 a k, if_neg (fun z => na (Or.inr (Or.inr (Or.inr (Or.inr (Or.inl z)))))), fr86_65_I a k (by omega), f1r82_63_I a k (fun z => na (z.elim (fun z => Or.inl z) (fun z => z.elim (fun z => Or.inr (Or.inl z)) (fun z => z.elim (fun z => Or.inr (Or.inr (Or.inl z))) (fun z => Or.inr (Or.inr (Or.inr (Or.inl z))))))))]), (fun a na => by rw [ah89_66 a, fr86_65_A a (by omega), f1r82_63_A a (fun z => na (z.elim (fun z => Or.inl z) (fun z => Or.inr (z))))])⟩⟩
                          · intro hr82_63 Thr82_63 g0r82_63_0
                            try dsimp only
                            refine qi_if (fun _ => ?_) (fun cc67 => absurd (by decide) cc67)
                            refine qi_some ?_
                            exact ⟨Thr82_63, Or.inr ⟨rfl, (by show x_pat t n (vI h cu 1) (vI h v0 3) (vI h v0 4) (vI h pt 6) (vI h v0 5) (vI h v0 6) = none; rw [x_q92 n2 c, cc62, if_neg (by decide), if_neg (by decide), if_neg (by decide), if_pos (by decide), if_pos g0r82_63_0])⟩⟩
                        · skip
                          refine qi_if (fun cc68 => ?_) (fun cc68 => ?_)
                          · skip
                            refine l_gO ?_
                            refine j_Pr_addOne (v0 := v0) (cu := cu) (it := it) (pt := pt) T kv0 kcu pcu kit pit kpt ppt (by show cu + 1 = v0 ∧ v0 + 4 ≤ it ∧ it + 6 ≤ pt; first | assumption | with_reducible rfl | grind) ?_ ?_
                            · intro hr92_69 Thr92_69 g1r92_69_0 g1r92_69_1 g1r92_69_2 f1r92_69_I f1r92_69_A
                              try dsimp only
                              refine qi_if (fun cc70 => absurd cc70 (by decide)) (fun _ => ?_)
                              refine l_gR Thr92_69 pit ?_
                              refine l_gO ?_
                              refine j_It_allow (v0 := it) (v1 := (x_lk t n (vI h cu 1 + 1))) (v2 := (x_lk t n (vI h cu 1 + 1))) Thr92_69 kit ?_
                              intro hr96_71 Thr96_71 fr96_71_I fr96_71_A
                              try dsimp only
                              refine l_gR Thr96_71 pcu ?_
                              refine l_gI (e := (vI h cu 1)) (by rw [fr96_71_I cu 1 (by omega), f1r92_69_I cu 1 (by omega)]) ?_
                              refine l_sI Thr96_71 kcu (by decide) rfl ?_
                              intro h99_72 Th99_72 ih99_72 ah99_72
                              refine qi_some ?_
                              exact ⟨Th99_72, Or.inl ⟨rfl, (by show x_pat t n (vI h cu 1) (vI h v0 3) (vI h v0 4) (vI h pt 6) (vI h v0 5) (vI h v0 6) = x_pat t n (vI h99_72 cu 1) (vI h99_72 v0 3) (vI h99_72 v0 4) (vI h99_72 pt 6) (vI h99_72 v0 5) (vI h99_72 v0 6); rw [show vI h99_72 cu 1 = ((vI h cu 1) + 2) from (by rw [ih99_72 cu 1, if_pos ⟨rfl, rfl⟩]), show vI h99_72 v0 3 = (vI h v0 3 + 1) from (by rw [ih99_72 v0 3, if_neg (fun z => absurd z.2 (by decide)), fr96_71_I v0 3 (by omega), g1r92_69_0]), show vI h99_72 v0 4 = (vI h v0 4) from (by rw [ih99_72 v0 4, if_neg (fun z => absurd z.2 (by decide)), fr96_71_I v0 4 (by omega), f1r92_69_I v0 4 (by omega)]), show vI h99_72 pt 6 = (vI h pt 6) from (by rw [ih99_72 pt 6, if_neg (fun z => absurd z.2 (by decide)), fr96_71_I pt 6 (by omega), f1r92_69_I pt 6 (by omega)]), show vI h99_72 v0 5 = (vI h v0 5) from (by rw [ih99_72 v0 5, if_neg (fun z => absurd z.2 (by decide)), fr96_71_I v0 5 (by omega), f1r92_69_I v0 5 (by omega)]), show vI h99_72 v0 6 = 1 from (by rw [ih99_72 v0 6, if_neg (fun z => absurd z.2 (by decide)), fr96_71_I v0 6 (by omega), g1r92_69_1])] <;> (rw [x_q92 n2 c, cc68, if_neg (by decide), if_neg (by decide), if_neg (by decide), if_pos (by decide), if_neg g1r92_69_2])), (by show vI h cu 1 < vI h99_72 cu 1; rw [show vI h99_72 cu 1 = ((vI h cu 1) + 2) from (by rw [ih99_72 cu 1, if_pos ⟨rfl, rfl⟩])] <;> (exact x_lp2 n2 (by rw [c]; decide))), (by show 0 ≤ vI h99_72 pt 6 ∧ vI h99_72 pt 6 ≤ 3; rw [show vI h99_72 pt 6 = (vI h pt 6) from (by rw [ih99_72 pt 6, if_neg (fun z => absurd z.2 (by decide)), fr96_71_I pt 6 (by omega), f1r92_69_I pt 6 (by omega)])] <;> (first | assumption | with_reducible rfl | grind)), (fun a k na => by rw [ih99_72 a k, if_neg (fun z => na (Or.inr (Or.inr (Or.inr (Or.inr (Or.inl z)))))), fr96_71_I a k (by omega), f1r92_69_I a k (fun z => na (z.elim (fun z => Or.inl z) (fun z => z.elim (fun z => Or.inr (Or.inl z)) (fun z => z.elim (fun z => Or.inr (Or.inr (Or.inl z))) (fun z => Or.inr (Or.inr (Or.inr (Or.inl z))))))))]), (fun a na => by rw [ah99_72 a, fr96_71_A a (by omega), f1r92_69_A a (fun z => na (z.elim (fun z => Or.inl z) (fun z => Or.inr (z))))])⟩⟩
                            · intro hr92_69 Thr92_69 g0r92_69_0
                              try dsimp only
                              refine qi_if (fun _ => ?_) (fun cc73 => absurd (by decide) cc73)
                              refine qi_some ?_
                              exact ⟨Thr92_69, Or.inr ⟨rfl, (by show x_pat t n (vI h cu 1) (vI h v0 3) (vI h v0 4) (vI h pt 6) (vI h v0 5) (vI h v0 6) = none; rw [x_q92 n2 c, cc68, if_neg (by decide), if_neg (by decide), if_neg (by decide), if_pos (by decide), if_pos g0r92_69_0])⟩⟩
                          · skip
                            refine l_gR T pcu ?_
                            refine l_gO ?_
                            refine j_Cur_refuse (v0 := cu) (v1 := (0 : Int32)) T kcu ?_
                            · intro hr102_74 Thr102_74
                              try dsimp only
                              refine qi_zB (fun zb75 => ?_)
                              refine qi_some ?_
                              exact ⟨Thr102_74, Or.inr ⟨rfl, (by show x_pat t n (vI h cu 1) (vI h v0 3) (vI h v0 4) (vI h pt 6) (vI h v0 5) (vI h v0 6) = none; rw [x_q92 n2 c, if_neg (by assumption), if_neg (by assumption), if_neg (by (first | grind (ematch := 0) | grind)), if_neg (by (first | grind (ematch := 0) | grind))])⟩⟩
theorem j_Pr_readEscape {L : q_L} {π : Nat → Nat → Option Nat} {N : Nat} {cu : Nat} {it : Nat} {pt : Nat} {tx : Nat} {t : Int32 → Int32} {n : Int32} {h : z_H} {v0 : Nat} {β : Type} {f : Int32 × z_H → Option β} {Q : β → Prop} (T : x_U L π h) (kv0 : qκ L v0 = 9) (kcu : qκ L cu = 3) (pcu : π v0 0 = some cu) (kit : qκ L it = 5) (pit : π v0 1 = some it) (kpt : qκ L pt = 8) (ppt : π v0 2 = some pt) (ktx : qκ L tx = 11) (ptx : π cu 0 = some tx) (ht : ∀ j, 0 ≤ j → j < n → vA h (tx + 1) j = t j) (hn : vI h tx 1 = n) (n1 : n ≤ 240) (tp : ∀ j, t j ≠ -1) (D : cu + 1 = v0 ∧ v0 + 4 ≤ tx ∧ it = tx + 2 ∧ it + 6 ≤ pt) (gb : 0 ≤ vI h pt 6 ∧ vI h pt 6 ≤ 3) (a0 : 0 ≤ vI h cu 1) (c : x_lk t n (vI h cu 1) = 92) (H1 : ∀ h', x_U L π h' → (x_pat t n (vI h cu 1) (vI h v0 3) (vI h v0 4) (vI h pt 6) (vI h v0 5) (vI h v0 6) = x_pat t n (vI h' cu 1) (vI h' v0 3) (vI h' v0 4) (vI h' pt 6) (vI h' v0 5) (vI h' v0 6)) → (vI h cu 1 < vI h' cu 1) → (0 ≤ vI h' pt 6 ∧ vI h' pt 6 ≤ 3) → (∀ a k, ¬ ((a = cu ∧ k = 2) ∨ (a = it ∧ k = 4) ∨ (a = v0 ∧ k = 3) ∨ (a = v0 ∧ k = 6) ∨ (a = cu ∧ k = 1) ∨ (a = pt ∧ k = 6) ∨ (a = v0 ∧ k = 5)) → vI h' a k = vI h a k) → (∀ a, ¬ (a = (it + 1) ∨ a = (it + 2)) → vA h' a = vA h a) → qi (f (1, h')) Q) (H0 : ∀ h', x_U L π h' → (x_pat t n (vI h cu 1) (vI h v0 3) (vI h v0 4) (vI h pt 6) (vI h v0 5) (vI h v0 6) = none) → qi (f (0, h')) Q) : qi (z_b (f_Pr_readEscape N v0 h) f) Q := by
  refine qi_b (i_Pr_readEscape  T kv0 kcu pcu kit pit kpt ppt ktx ptx ht hn n1 tp D gb a0 c) ?_
  rintro ⟨y, hz⟩ ⟨Tz, ⟨ey, g0, g1, g2, g3, g4⟩ | ⟨ey, g0⟩⟩
  · dsimp only at *; subst ey; exact H1 hz Tz g0 g1 g2 g3 g4
  · dsimp only at *; subst ey; exact H0 hz Tz g0

