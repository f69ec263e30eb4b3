set_option maxHeartbeats 8000000 in
theorem i_Pr_read_8 {L : q_L} {π : Nat → Nat → Option Nat} {N : Nat} {cu : Nat} {it : Nat} {pt : Nat} {tx : Nat} {t : Int32 → Int32} {n : Int32} : ∀ (m9 : Nat) (v0 : Nat) (v3 : Int32) (h : z_H), x_U L π h → qκ L v0 = 9 → (qκ L cu = 3) → (π v0 0 = some cu) → (qκ L it = 5) → (π v0 1 = some it) → (qκ L pt = 8) → (π v0 2 = some pt) → (qκ L tx = 11) → (π cu 0 = some tx) → (∀ j, 0 ≤ j → j < n → vA h (tx + 1) j = t j) → (vI h tx 1 = n) → (n ≤ 240) → (∀ j, t j ≠ -1) → (cu + 1 = v0 ∧ v0 + 4 ≤ tx ∧ it = tx + 2 ∧ it + 6 ≤ pt) → (0 ≤ vI h pt 6 ∧ vI h pt 6 ≤ 3) → (0 ≤ vI h cu 1) → (v3 ≤ vI h cu 1) → qi (f_Pr_read_8 N m9 v0 v3 h) (fun r => x_U L π r.2 ∧ ((r.1 = 1 ∧ (x_pat t n (vI h cu 1) (vI h v0 3) (vI h v0 4) (vI h pt 6) (vI h v0 5) (vI h v0 6) = some (vI r.2 cu 1, vI r.2 pt 6)) ∧ (∀ a k, ¬ ((a = pt ∧ k = 3) ∨ (a = pt ∧ k = 5) ∨ (a = pt ∧ k = 4) ∨ (a = cu ∧ k = 1) ∨ (a = cu ∧ k = 2) ∨ (a = v0 ∧ k = 4) ∨ (a = v0 ∧ k = 6) ∨ (a = it ∧ k = 4) ∨ (a = v0 ∧ k = 3) ∨ (a = pt ∧ k = 6) ∨ (a = v0 ∧ k = 5) ∨ (a = pt ∧ k = 1)) → vI r.2 a k = vI h a k) ∧ (∀ a, ¬ (a = (it + 1) ∨ a = (it + 2)) → vA r.2 a = vA h a)) ∨ (r.1 = 0 ∧ (x_pat t n (vI h cu 1) (vI h v0 3) (vI h v0 4) (vI h pt 6) (vI h v0 5) (vI h v0 6) = none)))) := by
  intro m9
  induction m9 with
  | zero => intro v0 v3 h T kv0 kcu pcu kit pit kpt ppt ktx ptx ht hn n1 tp D gb a0 hs r e; rw [f_Pr_read_8] at e; cases e
  | succ m9 ih =>
    intro v0 v3 h T kv0 kcu pcu kit pit kpt ppt ktx ptx ht hn n1 tp D gb a0 hs
    rw [f_Pr_read_8]
    have n2 : n ≤ 1000 := Int32.le_trans n1 (by decide)
    refine qi_if (fun cc1 => ?_) (fun cc1 => ?_)
    · skip
      unfold f_Pr_read_128
      refine l_gO ?_
      refine j_Pr_finish (v0 := v0) (cu := cu) (it := it) (pt := pt) T kv0 kcu pcu kit pit kpt ppt (by show cu + 1 = v0 ∧ v0 + 4 ≤ it ∧ it + 6 ≤ pt; first | assumption | with_reducible rfl | grind) ?_
      intro hr2i2_3 Thr2i2_3 fr2i2_3_I fr2i2_3_A
      try dsimp only
      refine l_gI (e := (vI h v0 5)) (by rw [fr2i2_3_I v0 5 (by omega)]) ?_
      refine qi_if (fun cc4 => ?_) (fun cc4 => ?_)
      · skip
        refine l_gR Thr2i2_3 pcu ?_
        refine l_gO ?_
        refine j_Cur_pass (v0 := cu) (v1 := (47 : Int32)) (tx := tx) (t := t) (n := n) Thr2i2_3 kcu ktx ptx (by show ∀ j, 0 ≤ j → j < n → vA hr2i2_3 (tx + 1) j = t j; rw [show vA hr2i2_3 (tx + 1) = vA h (tx + 1) from (by rw [fr2i2_3_A (tx + 1) (by omega)])] <;> (first | assumption | with_reducible rfl | grind)) (by show vI hr2i2_3 tx 1 = n; rw [show vI hr2i2_3 tx 1 = (vI h tx 1) from (by rw [fr2i2_3_I tx 1 (by omega)])] <;> (first | assumption | with_reducible rfl | grind)) ?_ ?_
        · intro hr7i2_5 Thr7i2_5 g1r7i2_5_0 g1r7i2_5_1 f1r7i2_5_I f1r7i2_5_A
          try dsimp only
          rw [show vI hr2i2_3 cu 1 = (vI h cu 1) from (by rw [fr2i2_3_I cu 1 (by omega)])] at g1r7i2_5_0
          rw [show vI hr2i2_3 cu 1 = (vI h cu 1) from (by rw [fr2i2_3_I cu 1 (by omega)])] at g1r7i2_5_1
          refine qi_zB (fun zb6 => ?_)
          refine qi_some ?_
          exact ⟨Thr7i2_5, Or.inl ⟨rfl, (by show x_pat t n (vI h cu 1) (vI h v0 3) (vI h v0 4) (vI h pt 6) (vI h v0 5) (vI h v0 6) = some (vI hr7i2_5 cu 1, vI hr7i2_5 pt 6); rw [show vI hr7i2_5 cu 1 = ((vI h cu 1) + 1) from (by rw [g1r7i2_5_0]), show vI hr7i2_5 pt 6 = (vI h pt 6) from (by rw [f1r7i2_5_I pt 6 (by omega), fr2i2_3_I pt 6 (by omega)])] <;> (first | (rw [x_q47 n2 (by assumption), if_pos (by assumption)]) | (exfalso; have q := x_lk_out (t := t) (x_lim hs (by assumption) n1); grind))), (fun a k na => by rw [f1r7i2_5_I a k (fun z => na (z.elim (fun z => Or.inr (Or.inr (Or.inr (Or.inl z)))) (fun z => Or.inr (Or.inr (Or.inr (Or.inr (Or.inl z))))))), fr2i2_3_I a k (fun z => na (z.elim (fun z => Or.inl z) (fun z => z.elim (fun z => Or.inr (Or.inl z)) (fun z => Or.inr (Or.inr (Or.inl z))))))]), (fun a na => by rw [f1r7i2_5_A a (by omega), fr2i2_3_A a (by omega)])⟩⟩
        · intro hr7i2_5 Thr7i2_5 g0r7i2_5_0
          try dsimp only
          rw [show vI hr2i2_3 cu 1 = (vI h cu 1) from (by rw [fr2i2_3_I cu 1 (by omega)])] at g0r7i2_5_0
          refine qi_zB (fun zb7 => ?_)
          refine qi_some ?_
          exact ⟨Thr7i2_5, Or.inr ⟨rfl, (by show x_pat t n (vI h cu 1) (vI h v0 3) (vI h v0 4) (vI h pt 6) (vI h v0 5) (vI h v0 6) = none; first | exact x_qout (x_lim hs (by assumption) n1) | (rw [x_q47 n2 (by assumption), if_neg (by assumption)]) | (exfalso; grind))⟩⟩
      · skip
        refine l_gR Thr2i2_3 pcu ?_
        refine l_gO ?_
        refine j_Cur_refuse (v0 := cu) (v1 := (0 : Int32)) Thr2i2_3 kcu ?_
        · intro hr11i2_8 Thr11i2_8
          try dsimp only
          refine qi_zB (fun zb9 => ?_)
          refine qi_some ?_
          exact ⟨Thr11i2_8, Or.inr ⟨rfl, (by show x_pat t n (vI h cu 1) (vI h v0 3) (vI h v0 4) (vI h pt 6) (vI h v0 5) (vI h v0 6) = none; first | exact x_qout (x_lim hs (by assumption) n1) | (rw [x_q47 n2 (by assumption), if_neg (by assumption)]) | (exfalso; grind))⟩⟩
    · skip
      refine l_gR T pcu ?_
      refine l_gO ?_
      refine j_Cur_look (v0 := cu) (v1 := (0 : Int32)) (tx := tx) (t := t) (n := n) (e := (x_lk t n (vI h cu 1))) T kcu ktx ptx ht hn (by simp only [Int32.add_zero, x_s11, x_s12, x_s21, x_s13, x_s22, x_s31]) ?_
      try dsimp only
      refine qi_if (fun cc11 => ?_) (fun cc11 => ?_)
      · skip
        unfold f_Pr_read_128
        refine l_gO ?_
        refine j_Pr_finish (v0 := v0) (cu := cu) (it := it) (pt := pt) T kv0 kcu pcu kit pit kpt ppt (by show cu + 1 = v0 ∧ v0 + 4 ≤ it ∧ it + 6 ≤ pt; first | assumption | with_reducible rfl | grind) ?_
        intro hr2i12_13 Thr2i12_13 fr2i12_13_I fr2i12_13_A
        try dsimp only
        refine l_gI (e := (vI h v0 5)) (by rw [fr2i12_13_I v0 5 (by omega)]) ?_
        refine qi_if (fun cc14 => ?_) (fun cc14 => ?_)
        · skip
          refine l_gR Thr2i12_13 pcu ?_
          refine l_gO ?_
          refine j_Cur_pass (v0 := cu) (v1 := (47 : Int32)) (tx := tx) (t := t) (n := n) Thr2i12_13 kcu ktx ptx (by show ∀ j, 0 ≤ j → j < n → vA hr2i12_13 (tx + 1) j = t j; rw [show vA hr2i12_13 (tx + 1) = vA h (tx + 1) from (by rw [fr2i12_13_A (tx + 1) (by omega)])] <;> (first | assumption | with_reducible rfl | grind)) (by show vI hr2i12_13 tx 1 = n; rw [show vI hr2i12_13 tx 1 = (vI h tx 1) from (by rw [fr2i12_13_I tx 1 (by omega)])] <;> (first | assumption | with_reducible rfl | grind)) ?_ ?_
          · intro hr7i12_15 Thr7i12_15 g1r7i12_15_0 g1r7i12_15_1 f1r7i12_15_I f1r7i12_15_A
            try dsimp only
            rw [show vI hr2i12_13 cu 1 = (vI h cu 1) from (by rw [fr2i12_13_I cu 1 (by omega)])] at g1r7i12_15_0
            rw [show vI hr2i12_13 cu 1 = (vI h cu 1) from (by rw [fr2i12_13_I cu 1 (by omega)])] at g1r7i12_15_1
            refine qi_zB (fun zb16 => ?_)
            refine qi_some ?_
            exact ⟨Thr7i12_15, Or.inl ⟨rfl, (by show x_pat t n (vI h cu 1) (vI h v0 3) (vI h v0 4) (vI h pt 6) (vI h v0 5) (vI h v0 6) = some (vI hr7i12_15 cu 1, vI hr7i12_15 pt 6); rw [show vI hr7i12_15 cu 1 = ((vI h cu 1) + 1) from (by rw [g1r7i12_15_0]), show vI hr7i12_15 pt 6 = (vI h pt 6) from (by rw [f1r7i12_15_I pt 6 (by omega), fr2i12_13_I pt 6 (by omega)])] <;> (first | (rw [x_q47 n2 (by assumption), if_pos (by assumption)]) | (exfalso; have q := x_lk_out (t := t) (x_lim hs (by assumption) n1); grind))), (fun a k na => by rw [f1r7i12_15_I a k (fun z => na (z.elim (fun z => Or.inr (Or.inr (Or.inr (Or.inl z)))) (fun z => Or.inr (Or.inr (Or.inr (Or.inr (Or.inl z))))))), fr2i12_13_I a k (fun z => na (z.elim (fun z => Or.inl z) (fun z => z.elim (fun z => Or.inr (Or.inl z)) (fun z => Or.inr (Or.inr (Or.inl z))))))]), (fun a na => by rw [f1r7i12_15_A a (by omega), fr2i12_13_A a (by omega)])⟩⟩
          · intro hr7i12_15 Thr7i12_15 g0r7i12_15_0
            try dsimp only
            rw [show vI hr2i12_13 cu 1 = (vI h cu 1) from (by rw [fr2i12_13_I cu 1 (by omega)])] at g0r7i12_15_0
            refine qi_zB (fun zb17 => ?_)
            refine qi_some ?_
            exact ⟨Thr7i12_15, Or.inr ⟨rfl, (by show x_pat t n (vI h cu 1) (vI h v0 3) (vI h v0 4) (vI h pt 6) (vI h v0 5) (vI h v0 6) = none; first | exact x_qout (x_lim hs (by assumption) n1) | (rw [x_q47 n2 (by assumption), if_neg (by assumption)]) | (exfalso; grind))⟩⟩
        · skip
          refine l_gR Thr2i12_13 pcu ?_
          refine l_gO ?_
          refine j_Cur_refuse (v0 := cu) (v1 := (0 : Int32)) Thr2i12_13 kcu ?_
          · intro hr11i12_18 Thr11i12_18
            try dsimp only
            refine qi_zB (fun zb19 => ?_)
            refine qi_some ?_
            exact ⟨Thr11i12_18, Or.inr ⟨rfl, (by show x_pat t n (vI h cu 1) (vI h v0 3) (vI h v0 4) (vI h pt 6) (vI h v0 5) (vI h v0 6) = none; first | exact x_qout (x_lim hs (by assumption) n1) | (rw [x_q47 n2 (by assumption), if_neg (by assumption)]) | (exfalso; grind))⟩⟩
      · skip
        refine l_gR T pcu ?_
        refine l_gO ?_
        refine j_Cur_look (v0 := cu) (v1 := (0 : Int32)) (tx := tx) (t := t) (n := n) (e := (x_lk t n (vI h cu 1))) T kcu ktx ptx ht hn (by simp only [Int32.add_zero, x_s11, x_s12, x_s21, x_s13, x_s22, x_s31]) ?_
        try dsimp only
        refine qi_bs ?_
        refine qi_if (fun cc21 => ?_) (fun cc21 => ?_)
        · skip
          refine l_gO ?_
          refine j_Pr_readStar (v0 := v0) (cu := cu) (it := it) (pt := pt) (tx := tx) (t := t) (n := n) T kv0 kcu pcu kit pit kpt ppt ktx ptx ht hn n1 tp D gb a0 (by show x_lk t n (vI h cu 1) = 42; first | assumption | with_reducible rfl | grind) ?_ ?_
          · intro hr27_22 Thr27_22 g1r27_22_0 g1r27_22_1 g1r27_22_2 f1r27_22_I f1r27_22_A
            try dsimp only
            rw [show vI hr27_22 v0 3 = (vI h v0 3) from (by rw [f1r27_22_I v0 3 (by omega)]), show vI hr27_22 pt 6 = (vI h pt 6) from (by rw [f1r27_22_I pt 6 (by omega)]), show vI hr27_22 v0 5 = (vI h v0 5) from (by rw [f1r27_22_I v0 5 (by omega)])] at g1r27_22_0
            rw [show vI hr27_22 pt 6 = (vI h pt 6) from (by rw [f1r27_22_I pt 6 (by omega)])] at g1r27_22_2
            refine qi_bs ?_
            unfold f_Pr_read_115
            refine qi_if (fun cc24 => absurd cc24 (by decide)) (fun _ => ?_)
            refine qi_bs ?_
            refine qi_mono (ih v0 (v3 + 1) hr27_22 Thr27_22 kv0 kcu pcu kit pit kpt ppt ktx ptx (by show ∀ j, 0 ≤ j → j < n → vA hr27_22 (tx + 1) j = t j; rw [show vA hr27_22 (tx + 1) = vA h (tx + 1) from (by rw [f1r27_22_A (tx + 1) (by omega)])] <;> (first | assumption | with_reducible rfl | grind)) (by show vI hr27_22 tx 1 = n; rw [show vI hr27_22 tx 1 = (vI h tx 1) from (by rw [f1r27_22_I tx 1 (by omega)])] <;> (first | assumption | with_reducible rfl | grind)) n1 tp D (by show 0 ≤ vI hr27_22 pt 6 ∧ vI hr27_22 pt 6 ≤ 3; rw [show vI hr27_22 pt 6 = (vI h pt 6) from (by rw [f1r27_22_I pt 6 (by omega)])] <;> (first | assumption | with_reducible rfl | grind)) (by show 0 ≤ vI hr27_22 cu 1; exact x_0le a0 (by assumption)) (by show (v3 + 1) ≤ vI hr27_22 cu 1; exact x_stp hs (by assumption) (by assumption))) ?_
            rintro ⟨y, hrz25_26⟩ ⟨Thrz25_26, ⟨ey, g1rz25_26_0, f1rz25_26_I, f1rz25_26_A⟩ | ⟨ey, g0rz25_26_0⟩⟩
            · dsimp only at *
              subst ey
              rw [show vI hr27_22 v0 3 = (vI h v0 3) from (by rw [f1r27_22_I v0 3 (by omega)]), show vI hr27_22 pt 6 = (vI h pt 6) from (by rw [f1r27_22_I pt 6 (by omega)]), show vI hr27_22 v0 5 = (vI h v0 5) from (by rw [f1r27_22_I v0 5 (by omega)])] at g1rz25_26_0
              exact ⟨Thrz25_26, Or.inl ⟨rfl, (by show x_pat t n (vI h cu 1) (vI h v0 3) (vI h v0 4) (vI h pt 6) (vI h v0 5) (vI h v0 6) = some (vI hrz25_26 cu 1, vI hrz25_26 pt 6); exact g1r27_22_0.trans g1rz25_26_0), (fun a k na => by rw [f1rz25_26_I a k (fun z => na (z.elim (fun z => Or.inl z) (fun z => z.elim (fun z => Or.inr (Or.inl z)) (fun z => z.elim (fun z => Or.inr (Or.inr (Or.inl z))) (fun z => z.elim (fun z => Or.inr (Or.inr (Or.inr (Or.inl z)))) (fun z => z.elim (fun z => Or.inr (Or.inr (Or.inr (Or.inr (Or.inl z))))) (fun z => z.elim (fun z => Or.inr (Or.inr (Or.inr (Or.inr (Or.inr (Or.inl z)))))) (fun z => z.elim (fun z => Or.inr (Or.inr (Or.inr (Or.inr (Or.inr (Or.inr (Or.inl z))))))) (fun z => z.elim (fun z => Or.inr (Or.inr (Or.inr (Or.inr (Or.inr (Or.inr (Or.inr (Or.inl z)))))))) (fun z => z.elim (fun z => Or.inr (Or.inr (Or.inr (Or.inr (Or.inr (Or.inr (Or.inr (Or.inr (Or.inl z))))))))) (fun z => z.elim (fun z => Or.inr (Or.inr (Or.inr (Or.inr (Or.inr (Or.inr (Or.inr (Or.inr (Or.inr (Or.inl z)))))))))) (fun z => z.elim (fun z => Or.inr (Or.inr (Or.inr (Or.inr (Or.inr (Or.inr (Or.inr (Or.inr (Or.inr (Or.inr (Or.inl z))))))))))) (fun z => Or.inr (Or.inr (Or.inr (Or.inr (Or.inr (Or.inr (Or.inr (Or.inr (Or.inr (Or.inr (Or.inr (z)))))))))))))))))))))))), f1r27_22_I a k (fun z => na (z.elim (fun z => Or.inr (Or.inr (Or.inr (Or.inr (Or.inl z))))) (fun z => z.elim (fun z => Or.inr (Or.inr (Or.inl z))) (fun z => z.elim (fun z => Or.inr (Or.inr (Or.inr (Or.inr (Or.inr (Or.inl z)))))) (fun z => z.elim (fun z => Or.inr (Or.inr (Or.inr (Or.inr (Or.inr (Or.inr (Or.inl z))))))) (fun z => z.elim (fun z => Or.inr (Or.inr (Or.inr (Or.inl z)))) (fun z => Or.inr (Or.inl z))))))))]), (fun a na => by rw [f1rz25_26_A a (fun z => na (z.elim (fun z => Or.inl z) (fun z => Or.inr (z)))), f1r27_22_A a (by omega)])⟩⟩
            · dsimp only at *
              subst ey
              rw [show vI hr27_22 v0 3 = (vI h v0 3) from (by rw [f1r27_22_I v0 3 (by omega)]), show vI hr27_22 pt 6 = (vI h pt 6) from (by rw [f1r27_22_I pt 6 (by omega)]), show vI hr27_22 v0 5 = (vI h v0 5) from (by rw [f1r27_22_I v0 5 (by omega)])] at g0rz25_26_0
              exact ⟨Thrz25_26, Or.inr ⟨rfl, (by show x_pat t n (vI h cu 1) (vI h v0 3) (vI h v0 4) (vI h pt 6) (vI h v0 5) (vI h v0 6) = none; exact g1r27_22_0.trans g0rz25_26_0)⟩⟩
          · intro hr27_22 Thr27_22 g0r27_22_0
            try dsimp only
            refine qi_bs ?_
            unfold f_Pr_read_115
            refine qi_if (fun _ => ?_) (fun cc28 => absurd (by decide) cc28)
            refine qi_some ?_
            exact ⟨Thr27_22, Or.inr ⟨rfl, g0r27_22_0⟩⟩
        · skip
          refine qi_if (fun cc29 => ?_) (fun cc29 => ?_)
          · skip
            refine l_gO ?_
            refine j_Pr_readEscape (v0 := v0) (cu := cu) (it := it) (pt := pt) (tx := tx) (t := t) (n := n) T kv0 kcu pcu kit pit kpt ppt ktx ptx ht hn n1 tp D gb a0 (by show x_lk t n (vI h cu 1) = 92; first | assumption | with_reducible rfl | grind) ?_ ?_
            · intro hr24_30 Thr24_30 g1r24_30_0 g1r24_30_1 g1r24_30_2 f1r24_30_I f1r24_30_A
              try dsimp only
              rw [show vI hr24_30 v0 4 = (vI h v0 4) from (by rw [f1r24_30_I v0 4 (by omega)])] at g1r24_30_0
              refine qi_bs ?_
              unfold f_Pr_read_115
              refine qi_if (fun cc32 => absurd cc32 (by decide)) (fun _ => ?_)
              refine qi_bs ?_
              refine qi_mono (ih v0 (v3 + 1) hr24_30 Thr24_30 kv0 kcu pcu kit pit kpt ppt ktx ptx (by show ∀ j, 0 ≤ j → j < n → vA hr24_30 (tx + 1) j = t j; rw [show vA hr24_30 (tx + 1) = vA h (tx + 1) from (by rw [f1r24_30_A (tx + 1) (by omega)])] <;> (first | assumption | with_reducible rfl | grind)) (by show vI hr24_30 tx 1 = n; rw [show vI hr24_30 tx 1 = (vI h tx 1) from (by rw [f1r24_30_I tx 1 (by omega)])] <;> (first | assumption | with_reducible rfl | grind)) n1 tp D g1r24_30_2 (by show 0 ≤ vI hr24_30 cu 1; exact x_0le a0 (by assumption)) (by show (v3 + 1) ≤ vI hr24_30 cu 1; exact x_stp hs (by assumption) (by assumption))) ?_
              rintro ⟨y, hrz33_34⟩ ⟨Thrz33_34, ⟨ey, g1rz33_34_0, f1rz33_34_I, f1rz33_34_A⟩ | ⟨ey, g0rz33_34_0⟩⟩
              · dsimp only at *
                subst ey
                rw [show vI hr24_30 v0 4 = (vI h v0 4) from (by rw [f1r24_30_I v0 4 (by omega)])] at g1rz33_34_0
                exact ⟨Thrz33_34, Or.inl ⟨rfl, (by show x_pat t n (vI h cu 1) (vI h v0 3) (vI h v0 4) (vI h pt 6) (vI h v0 5) (vI h v0 6) = some (vI hrz33_34 cu 1, vI hrz33_34 pt 6); exact g1r24_30_0.trans g1rz33_34_0), (fun a k na => by rw [f1rz33_34_I a k (fun z => na (z.elim (fun z => Or.inl z) (fun z => z.elim (fun z => Or.inr (Or.inl z)) (fun z => z.elim (fun z => Or.inr (Or.inr (Or.inl z))) (fun z => z.elim (fun z => Or.inr (Or.inr (Or.inr (Or.inl z)))) (fun z => z.elim (fun z => Or.inr (Or.inr (Or.inr (Or.inr (Or.inl z))))) (fun z => z.elim (fun z => Or.inr (Or.inr (Or.inr (Or.inr (Or.inr (Or.inl z)))))) (fun z => z.elim (fun z => Or.inr (Or.inr (Or.inr (Or.inr (Or.inr (Or.inr (Or.inl z))))))) (fun z => z.elim (fun z => Or.inr (Or.inr (Or.inr (Or.inr (Or.inr (Or.inr (Or.inr (Or.inl z)))))))) (fun z => z.elim (fun z => Or.inr (Or.inr (Or.inr (Or.inr (Or.inr (Or.inr (Or.inr (Or.inr (Or.inl z))))))))) (fun z => z.elim (fun z => Or.inr (Or.inr (Or.inr (Or.inr (Or.inr (Or.inr (Or.inr (Or.inr (Or.inr (Or.inl z)))))))))) (fun z => z.elim (fun z => Or.inr (Or.inr (Or.inr (Or.inr (Or.inr (Or.inr (Or.inr (Or.inr (Or.inr (Or.inr (Or.inl z))))))))))) (fun z => Or.inr (Or.inr (Or.inr (Or.inr (Or.inr (Or.inr (Or.inr (Or.inr (Or.inr (Or.inr (Or.inr (z)))))))))))))))))))))))), f1r24_30_I a k (fun z => na (z.elim (fun z => Or.inr (Or.inr (Or.inr (Or.inr (Or.inl z))))) (fun z => z.elim (fun z => Or.inr (Or.inr (Or.inr (Or.inr (Or.inr (Or.inr (Or.inr (Or.inl z)))))))) (fun z => z.elim (fun z => Or.inr (Or.inr (Or.inr (Or.inr (Or.inr (Or.inr (Or.inr (Or.inr (Or.inl z))))))))) (fun z => z.elim (fun z => Or.inr (Or.inr (Or.inr (Or.inr (Or.inr (Or.inr (Or.inl z))))))) (fun z => z.elim (fun z => Or.inr (Or.inr (Or.inr (Or.inl z)))) (fun z => z.elim (fun z => Or.inr (Or.inr (Or.inr (Or.inr (Or.inr (Or.inr (Or.inr (Or.inr (Or.inr (Or.inl z)))))))))) (fun z => Or.inr (Or.inr (Or.inr (Or.inr (Or.inr (Or.inr (Or.inr (Or.inr (Or.inr (Or.inr (Or.inl z))))))))))))))))))]), (fun a na => by rw [f1rz33_34_A a (fun z => na (z.elim (fun z => Or.inl z) (fun z => Or.inr (z)))), f1r24_30_A a (fun z => na (z.elim (fun z => Or.inl z) (fun z => Or.inr (z))))])⟩⟩
              · dsimp only at *
                subst ey
                rw [show vI hr24_30 v0 4 = (vI h v0 4) from (by rw [f1r24_30_I v0 4 (by omega)])] at g0rz33_34_0
                exact ⟨Thrz33_34, Or.inr ⟨rfl, (by show x_pat t n (vI h cu 1) (vI h v0 3) (vI h v0 4) (vI h pt 6) (vI h v0 5) (vI h v0 6) = none; exact g1r24_30_0.trans g0rz33_34_0)⟩⟩
            · intro hr24_30 Thr24_30 g0r24_30_0
              try dsimp only
              refine qi_bs ?_
              unfold f_Pr_read_115
              refine qi_if (fun _ => ?_) (fun cc36 => absurd (by decide) cc36)
              refine qi_some ?_
              exact ⟨Thr24_30, Or.inr ⟨rfl, g0r24_30_0⟩⟩
          · skip
            refine qi_if (fun cc37 => ?_) (fun cc37 => ?_)
            · skip
              refine l_gO ?_
              refine j_Pr_readSet (v0 := v0) (cu := cu) (it := it) (pt := pt) (tx := tx) (t := t) (n := n) T kv0 kcu pcu kit pit kpt ppt ktx ptx ht hn n1 tp D gb a0 (by show x_lk t n (vI h cu 1) = 91; first | assumption | with_reducible rfl | grind) ?_ ?_
              · intro hr21_38 Thr21_38 g1r21_38_0 g1r21_38_1 g1r21_38_2 f1r21_38_I f1r21_38_A
                try dsimp only
                rw [show vI hr21_38 v0 4 = (vI h v0 4) from (by rw [f1r21_38_I v0 4 (by omega)]), show vI hr21_38 pt 6 = (vI h pt 6) from (by rw [f1r21_38_I pt 6 (by omega)]), show vI hr21_38 v0 5 = (vI h v0 5) from (by rw [f1r21_38_I v0 5 (by omega)])] at g1r21_38_0
                rw [show vI hr21_38 pt 6 = (vI h pt 6) from (by rw [f1r21_38_I pt 6 (by omega)])] at g1r21_38_2
                refine qi_bs ?_
                unfold f_Pr_read_115
                refine qi_if (fun cc40 => absurd cc40 (by decide)) (fun _ => ?_)
                refine qi_bs ?_
                refine qi_mono (ih v0 (v3 + 1) hr21_38 Thr21_38 kv0 kcu pcu kit pit kpt ppt ktx ptx (by show ∀ j, 0 ≤ j → j < n → vA hr21_38 (tx + 1) j = t j; rw [show vA hr21_38 (tx + 1) = vA h (tx + 1) from (by rw [f1r21_38_A (tx + 1) (by omega)])] <;> (first | assumption | with_reducible rfl | grind)) (by show vI hr21_38 tx 1 = n; rw [show vI hr21_38 tx 1 = (vI h tx 1) from (by rw [f1r21_38_I tx 1 (by omega)])] <;> (first | assumption | with_reducible rfl | grind)) n1 tp D (by show 0 ≤ vI hr21_38 pt 6 ∧ vI hr21_38 pt 6 ≤ 3; rw [show vI hr21_38 pt 6 = (vI h pt 6) from (by rw [f1r21_38_I pt 6 (by omega)])] <;> (first | assumption | with_reducible rfl | grind)) (by show 0 ≤ vI hr21_38 cu 1; exact x_0le a0 (by assumption)) (by show (v3 + 1) ≤ vI hr21_38 cu 1; exact x_stp hs (by assumption) (by assumption))) ?_
                rintro ⟨y, hrz41_42⟩ ⟨Thrz41_42, ⟨ey, g1rz41_42_0, f1rz41_42_I, f1rz41_42_A⟩ | ⟨ey, g0rz41_42_0⟩⟩
                · dsimp only at *
                  subst ey
                  rw [show vI hr21_38 v0 4 = (vI h v0 4) from (by rw [f1r21_38_I v0 4 (by omega)]), show vI hr21_38 pt 6 = (vI h pt 6) from (by rw [f1r21_38_I pt 6 (by omega)]), show vI hr21_38 v0 5 = (vI h v0 5) from (by rw [f1r21_38_I v0 5 (by omega)])] at g1rz41_42_0
                  exact ⟨Thrz41_42, Or.inl ⟨rfl, (by show x_pat t n (vI h cu 1) (vI h v0 3) (vI h v0 4) (vI h pt 6) (vI h v0 5) (vI h v0 6) = some (vI hrz41_42 cu 1, vI hrz41_42 pt 6); exact g1r21_38_0.trans g1rz41_42_0), (fun a k na => by rw [f1rz41_42_I a k (fun z => na (z.elim (fun z => Or.inl z) (fun z => z.elim (fun z => Or.inr (Or.inl z)) (fun z => z.elim (fun z => Or.inr (Or.inr (Or.inl z))) (fun z => z.elim (fun z => Or.inr (Or.inr (Or.inr (Or.inl z)))) (fun z => z.elim (fun z => Or.inr (Or.inr (Or.inr (Or.inr (Or.inl z))))) (fun z => z.elim (fun z => Or.inr (Or.inr (Or.inr (Or.inr (Or.inr (Or.inl z)))))) (fun z => z.elim (fun z => Or.inr (Or.inr (Or.inr (Or.inr (Or.inr (Or.inr (Or.inl z))))))) (fun z => z.elim (fun z => Or.inr (Or.inr (Or.inr (Or.inr (Or.inr (Or.inr (Or.inr (Or.inl z)))))))) (fun z => z.elim (fun z => Or.inr (Or.inr (Or.inr (Or.inr (Or.inr (Or.inr (Or.inr (Or.inr (Or.inl z))))))))) (fun z => z.elim (fun z => Or.inr (Or.inr (Or.inr (Or.inr (Or.inr (Or.inr (Or.inr (Or.inr (Or.inr (Or.inl z)))))))))) (fun z => z.elim (fun z => Or.inr (Or.inr (Or.inr (Or.inr (Or.inr (Or.inr (Or.inr (Or.inr (Or.inr (Or.inr (Or.inl z))))))))))) (fun z => Or.inr (Or.inr (Or.inr (Or.inr (Or.inr (Or.inr (Or.inr (Or.inr (Or.inr (Or.inr (Or.inr (z)))))))))))))))))))))))), f1r21_38_I a k (fun z => na (z.elim (fun z => Or.inr (Or.inr (Or.inr (Or.inr (Or.inl z))))) (fun z => z.elim (fun z => Or.inr (Or.inr (Or.inr (Or.inr (Or.inr (Or.inr (Or.inr (Or.inl z)))))))) (fun z => z.elim (fun z => Or.inr (Or.inr (Or.inr (Or.inr (Or.inr (Or.inr (Or.inr (Or.inr (Or.inl z))))))))) (fun z => z.elim (fun z => Or.inr (Or.inr (Or.inr (Or.inr (Or.inr (Or.inr (Or.inl z))))))) (fun z => Or.inr (Or.inr (Or.inr (Or.inl z)))))))))]), (fun a na => by rw [f1rz41_42_A a (fun z => na (z.elim (fun z => Or.inl z) (fun z => Or.inr (z)))), f1r21_38_A a (fun z => na (z.elim (fun z => Or.inl z) (fun z => Or.inr (z))))])⟩⟩
                · dsimp only at *
                  subst ey
                  rw [show vI hr21_38 v0 4 = (vI h v0 4) from (by rw [f1r21_38_I v0 4 (by omega)]), show vI hr21_38 pt 6 = (vI h pt 6) from (by rw [f1r21_38_I pt 6 (by omega)]), show vI hr21_38 v0 5 = (vI h v0 5) from (by rw [f1r21_38_I v0 5 (by omega)])] at g0rz41_42_0
                  exact ⟨Thrz41_42, Or.inr ⟨rfl, (by show x_pat t n (vI h cu 1) (vI h v0 3) (vI h v0 4) (vI h pt 6) (vI h v0 5) (vI h v0 6) = none; exact g1r21_38_0.trans g0rz41_42_0)⟩⟩
              · intro hr21_38 Thr21_38 g0r21_38_0
                try dsimp only
                refine qi_bs ?_
                unfold f_Pr_read_115
                refine qi_if (fun _ => ?_) (fun cc44 => absurd (by decide) cc44)
                refine qi_some ?_
                exact ⟨Thr21_38, Or.inr ⟨rfl, g0r21_38_0⟩⟩
            · skip
              refine qi_if (fun cc45 => ?_) (fun cc45 => ?_)
              · skip
                refine l_gO ?_
                refine j_Pr_mayEnd (v0 := v0) (cu := cu) (tx := tx) (t := t) (n := n) T kv0 kcu pcu ktx ptx ht hn (fun _ g1r15_46_0 g1r15_46_1 => ?_) (fun _ g0r15_46_0 => ?_)
                · try dsimp only
                  refine qi_if (fun cc47 => absurd cc47 (by decide)) (fun _ => ?_)
                  refine l_gO ?_
                  refine j_Pr_readEnd (v0 := v0) (cu := cu) (it := it) (pt := pt) (tx := tx) (t := t) (n := n) T kv0 kcu pcu kit pit kpt ppt ktx ptx ht hn n1 tp D gb a0 (by show x_lk t n (vI h cu 1) = 36; first | assumption | with_reducible rfl | grind) g1r15_46_0 g1r15_46_1 ?_
                  · intro hr18_48 Thr18_48 g1r18_48_0 g1r18_48_1 g1r18_48_2 f1r18_48_I f1r18_48_A
                    try dsimp only
                    rw [show vI hr18_48 v0 3 = (vI h v0 3) from (by rw [f1r18_48_I v0 3 (by omega)]), show vI hr18_48 v0 4 = (vI h v0 4) from (by rw [f1r18_48_I v0 4 (by omega)]), show vI hr18_48 pt 6 = (vI h pt 6) from (by rw [f1r18_48_I pt 6 (by omega)]), show vI hr18_48 v0 5 = (vI h v0 5) from (by rw [f1r18_48_I v0 5 (by omega)]), show vI hr18_48 v0 6 = (vI h v0 6) from (by rw [f1r18_48_I v0 6 (by omega)])] at g1r18_48_0
                    rw [show vI hr18_48 pt 6 = (vI h pt 6) from (by rw [f1r18_48_I pt 6 (by omega)])] at g1r18_48_2
                    refine qi_bs ?_
                    unfold f_Pr_read_115
                    refine qi_if (fun cc50 => absurd cc50 (by decide)) (fun _ => ?_)
                    refine qi_bs ?_
                    refine qi_mono (ih v0 (v3 + 1) hr18_48 Thr18_48 kv0 kcu pcu kit pit kpt ppt ktx ptx (by show ∀ j, 0 ≤ j → j < n → vA hr18_48 (tx + 1) j = t j; rw [show vA hr18_48 (tx + 1) = vA h (tx + 1) from (by rw [f1r18_48_A (tx + 1) (by omega)])] <;> (first | assumption | with_reducible rfl | grind)) (by show vI hr18_48 tx 1 = n; rw [show vI hr18_48 tx 1 = (vI h tx 1) from (by rw [f1r18_48_I tx 1 (by omega)])] <;> (first | assumption | with_reducible rfl | grind)) n1 tp D (by show 0 ≤ vI hr18_48 pt 6 ∧ vI hr18_48 pt 6 ≤ 3; rw [show vI hr18_48 pt 6 = (vI h pt 6) from (by rw [f1r18_48_I pt 6 (by omega)])] <;> (first | assumption | with_reducible rfl | grind)) (by show 0 ≤ vI hr18_48 cu 1; exact x_0le a0 (by assumption)) (by show (v3 + 1) ≤ vI hr18_48 cu 1; exact x_stp hs (by assumption) (by assumption))) ?_
                    rintro ⟨y, hrz51_52⟩ ⟨Thrz51_52, ⟨ey, g1rz51_52_0, f1rz51_52_I, f1rz51_52_A⟩ | ⟨ey, g0rz51_52_0⟩⟩
                    · dsimp only at *
                      subst ey
                      rw [show vI hr18_48 v0 3 = (vI h v0 3) from (by rw [f1r18_48_I v0 3 (by omega)]), show vI hr18_48 v0 4 = (vI h v0 4) from (by rw [f1r18_48_I v0 4 (by omega)]), show vI hr18_48 pt 6 = (vI h pt 6) from (by rw [f1r18_48_I pt 6 (by omega)]), show vI hr18_48 v0 5 = (vI h v0 5) from (by rw [f1r18_48_I v0 5 (by omega)]), show vI hr18_48 v0 6 = (vI h v0 6) from (by rw [f1r18_48_I v0 6 (by omega)])] at g1rz51_52_0
                      exact ⟨Thrz51_52, Or.inl ⟨rfl, (by show x_pat t n (vI h cu 1) (vI h v0 3) (vI h v0 4) (vI h pt 6) (vI h v0 5) (vI h v0 6) = some (vI hrz51_52 cu 1, vI hrz51_52 pt 6); exact g1r18_48_0.trans g1rz51_52_0), (fun a k na => by rw [f1rz51_52_I a k (fun z => na (z.elim (fun z => Or.inl z) (fun z => z.elim (fun z => Or.inr (Or.inl z)) (fun z => z.elim (fun z => Or.inr (Or.inr (Or.inl z))) (fun z => z.elim (fun z => Or.inr (Or.inr (Or.inr (Or.inl z)))) (fun z => z.elim (fun z => Or.inr (Or.inr (Or.inr (Or.inr (Or.inl z))))) (fun z => z.elim (fun z => Or.inr (Or.inr (Or.inr (Or.inr (Or.inr (Or.inl z)))))) (fun z => z.elim (fun z => Or.inr (Or.inr (Or.inr (Or.inr (Or.inr (Or.inr (Or.inl z))))))) (fun z => z.elim (fun z => Or.inr (Or.inr (Or.inr (Or.inr (Or.inr (Or.inr (Or.inr (Or.inl z)))))))) (fun z => z.elim (fun z => Or.inr (Or.inr (Or.inr (Or.inr (Or.inr (Or.inr (Or.inr (Or.inr (Or.inl z))))))))) (fun z => z.elim (fun z => Or.inr (Or.inr (Or.inr (Or.inr (Or.inr (Or.inr (Or.inr (Or.inr (Or.inr (Or.inl z)))))))))) (fun z => z.elim (fun z => Or.inr (Or.inr (Or.inr (Or.inr (Or.inr (Or.inr (Or.inr (Or.inr (Or.inr (Or.inr (Or.inl z))))))))))) (fun z => Or.inr (Or.inr (Or.inr (Or.inr (Or.inr (Or.inr (Or.inr (Or.inr (Or.inr (Or.inr (Or.inr (z)))))))))))))))))))))))), f1r18_48_I a k (fun z => na (z.elim (fun z => Or.inr (Or.inr (Or.inr (Or.inr (Or.inr (Or.inr (Or.inr (Or.inr (Or.inr (Or.inr (Or.inr (z)))))))))))) (fun z => Or.inr (Or.inr (Or.inr (Or.inl z))))))]), (fun a na => by rw [f1rz51_52_A a (fun z => na (z.elim (fun z => Or.inl z) (fun z => Or.inr (z)))), f1r18_48_A a (by omega)])⟩⟩
                    · dsimp only at *
                      subst ey
                      rw [show vI hr18_48 v0 3 = (vI h v0 3) from (by rw [f1r18_48_I v0 3 (by omega)]), show vI hr18_48 v0 4 = (vI h v0 4) from (by rw [f1r18_48_I v0 4 (by omega)]), show vI hr18_48 pt 6 = (vI h pt 6) from (by rw [f1r18_48_I pt 6 (by omega)]), show vI hr18_48 v0 5 = (vI h v0 5) from (by rw [f1r18_48_I v0 5 (by omega)]), show vI hr18_48 v0 6 = (vI h v0 6) from (by rw [f1r18_48_I v0 6 (by omega)])] at g0rz51_52_0
                      exact ⟨Thrz51_52, Or.inr ⟨rfl, (by show x_pat t n (vI h cu 1) (vI h v0 3) (vI h v0 4) (vI h pt 6) (vI h v0 5) (vI h v0 6) = none; exact g1r18_48_0.trans g0rz51_52_0)⟩⟩
                · try dsimp only
                  refine qi_if (fun _ => ?_) (fun cc53 => absurd (by decide) cc53)
                  unfold f_Pr_read_109
                  refine l_gO ?_
                  refine j_Pr_readPlain (v0 := v0) (cu := cu) (it := it) (pt := pt) (tx := tx) (t := t) (n := n) T kv0 kcu pcu kit pit kpt ppt ktx ptx ht hn n1 tp D gb a0 (by show ¬ x_lk t n (vI h cu 1) = 47; first | assumption | with_reducible rfl | grind) (by show ¬ x_lk t n (vI h cu 1) = 42; first | assumption | with_reducible rfl | grind) (by show ¬ x_lk t n (vI h cu 1) = 92; first | assumption | with_reducible rfl | grind) (by show ¬ x_lk t n (vI h cu 1) = 91; first | assumption | with_reducible rfl | grind) (by show ¬ (x_lk t n (vI h cu 1) = 36 ∧ vI h v0 5 = 0 ∧ x_lk t n (vI h cu 1 + 1) = 47); grind) ?_ ?_
                  · intro hr2i54_55 Thr2i54_55 g1r2i54_55_0 g1r2i54_55_1 g1r2i54_55_2 f1r2i54_55_I f1r2i54_55_A
                    try dsimp only
                    rw [show vI hr2i54_55 v0 4 = (vI h v0 4) from (by rw [f1r2i54_55_I v0 4 (by omega)]), show vI hr2i54_55 pt 6 = (vI h pt 6) from (by rw [f1r2i54_55_I pt 6 (by omega)]), show vI hr2i54_55 v0 5 = (vI h v0 5) from (by rw [f1r2i54_55_I v0 5 (by omega)])] at g1r2i54_55_0
                    rw [show vI hr2i54_55 pt 6 = (vI h pt 6) from (by rw [f1r2i54_55_I pt 6 (by omega)])] at g1r2i54_55_2
                    refine qi_bs ?_
                    unfold f_Pr_read_115
                    refine qi_if (fun cc57 => absurd cc57 (by decide)) (fun _ => ?_)
                    refine qi_bs ?_
                    refine qi_mono (ih v0 (v3 + 1) hr2i54_55 Thr2i54_55 kv0 kcu pcu kit pit kpt ppt ktx ptx (by show ∀ j, 0 ≤ j → j < n → vA hr2i54_55 (tx + 1) j = t j; rw [show vA hr2i54_55 (tx + 1) = vA h (tx + 1) from (by rw [f1r2i54_55_A (tx + 1) (by omega)])] <;> (first | assumption | with_reducible rfl | grind)) (by show vI hr2i54_55 tx 1 = n; rw [show vI hr2i54_55 tx 1 = (vI h tx 1) from (by rw [f1r2i54_55_I tx 1 (by omega)])] <;> (first | assumption | with_reducible rfl | grind)) n1 tp D (by show 0 ≤ vI hr2i54_55 pt 6 ∧ vI hr2i54_55 pt 6 ≤ 3; rw [show vI hr2i54_55 pt 6 = (vI h pt 6) from (by rw [f1r2i54_55_I pt 6 (by omega)])] <;> (first | assumption | with_reducible rfl | grind)) (by show 0 ≤ vI hr2i54_55 cu 1; exact x_0le a0 (by assumption)) (by show (v3 + 1) ≤ vI hr2i54_55 cu 1; exact x_stp hs (by assumption) (by assumption))) ?_
                    rintro ⟨y, hrz58_59⟩ ⟨Thrz58_59, ⟨ey, g1rz58_59_0, f1rz58_59_I, f1rz58_59_A⟩ | ⟨ey, g0rz58_59_0⟩⟩
                    · dsimp only at *
                      subst ey
                      rw [show vI hr2i54_55 v0 4 = (vI h v0 4) from (by rw [f1r2i54_55_I v0 4 (by omega)]), show vI hr2i54_55 pt 6 = (vI h pt 6) from (by rw [f1r2i54_55_I pt 6 (by omega)]), show vI hr2i54_55 v0 5 = (vI h v0 5) from (by rw [f1r2i54_55_I v0 5 (by omega)])] at g1rz58_59_0
                      exact ⟨Thrz58_59, Or.inl ⟨rfl, (by show x_pat t n (vI h cu 1) (vI h v0 3) (vI h v0 4) (vI h pt 6) (vI h v0 5) (vI h v0 6) = some (vI hrz58_59 cu 1, vI hrz58_59 pt 6); exact g1r2i54_55_0.trans g1rz58_59_0), (fun a k na => by rw [f1rz58_59_I a k (fun z => na (z.elim (fun z => Or.inl z) (fun z => z.elim (fun z => Or.inr (Or.inl z)) (fun z => z.elim (fun z => Or.inr (Or.inr (Or.inl z))) (fun z => z.elim (fun z => Or.inr (Or.inr (Or.inr (Or.inl z)))) (fun z => z.elim (fun z => Or.inr (Or.inr (Or.inr (Or.inr (Or.inl z))))) (fun z => z.elim (fun z => Or.inr (Or.inr (Or.inr (Or.inr (Or.inr (Or.inl z)))))) (fun z => z.elim (fun z => Or.inr (Or.inr (Or.inr (Or.inr (Or.inr (Or.inr (Or.inl z))))))) (fun z => z.elim (fun z => Or.inr (Or.inr (Or.inr (Or.inr (Or.inr (Or.inr (Or.inr (Or.inl z)))))))) (fun z => z.elim (fun z => Or.inr (Or.inr (Or.inr (Or.inr (Or.inr (Or.inr (Or.inr (Or.inr (Or.inl z))))))))) (fun z => z.elim (fun z => Or.inr (Or.inr (Or.inr (Or.inr (Or.inr (Or.inr (Or.inr (Or.inr (Or.inr (Or.inl z)))))))))) (fun z => z.elim (fun z => Or.inr (Or.inr (Or.inr (Or.inr (Or.inr (Or.inr (Or.inr (Or.inr (Or.inr (Or.inr (Or.inl z))))))))))) (fun z => Or.inr (Or.inr (Or.inr (Or.inr (Or.inr (Or.inr (Or.inr (Or.inr (Or.inr (Or.inr (Or.inr (z)))))))))))))))))))))))), f1r2i54_55_I a k (fun z => na (z.elim (fun z => Or.inr (Or.inr (Or.inr (Or.inr (Or.inl z))))) (fun z => z.elim (fun z => Or.inr (Or.inr (Or.inr (Or.inr (Or.inr (Or.inr (Or.inr (Or.inl z)))))))) (fun z => z.elim (fun z => Or.inr (Or.inr (Or.inr (Or.inr (Or.inr (Or.inr (Or.inr (Or.inr (Or.inl z))))))))) (fun z => z.elim (fun z => Or.inr (Or.inr (Or.inr (Or.inr (Or.inr (Or.inr (Or.inl z))))))) (fun z => Or.inr (Or.inr (Or.inr (Or.inl z)))))))))]), (fun a na => by rw [f1rz58_59_A a (fun z => na (z.elim (fun z => Or.inl z) (fun z => Or.inr (z)))), f1r2i54_55_A a (fun z => na (z.elim (fun z => Or.inl z) (fun z => Or.inr (z))))])⟩⟩
                    · dsimp only at *
                      subst ey
                      rw [show vI hr2i54_55 v0 4 = (vI h v0 4) from (by rw [f1r2i54_55_I v0 4 (by omega)]), show vI hr2i54_55 pt 6 = (vI h pt 6) from (by rw [f1r2i54_55_I pt 6 (by omega)]), show vI hr2i54_55 v0 5 = (vI h v0 5) from (by rw [f1r2i54_55_I v0 5 (by omega)])] at g0rz58_59_0
                      exact ⟨Thrz58_59, Or.inr ⟨rfl, (by show x_pat t n (vI h cu 1) (vI h v0 3) (vI h v0 4) (vI h pt 6) (vI h v0 5) (vI h v0 6) = none; exact g1r2i54_55_0.trans g0rz58_59_0)⟩⟩
                  · intro hr2i54_55 Thr2i54_55 g0r2i54_55_0
                    try dsimp only
                    refine qi_bs ?_
                    unfold f_Pr_read_115
                    refine qi_if (fun _ => ?_) (fun cc61 => absurd (by decide) cc61)
                    refine qi_some ?_
                    exact ⟨Thr2i54_55, Or.inr ⟨rfl, g0r2i54_55_0⟩⟩
              · skip
                unfold f_Pr_read_109
                refine l_gO ?_
                refine j_Pr_readPlain (v0 := v0) (cu := cu) (it := it) (pt := pt) (tx := tx) (t := t) (n := n) T kv0 kcu pcu kit pit kpt ppt ktx ptx ht hn n1 tp D gb a0 (by show ¬ x_lk t n (vI h cu 1) = 47; first | assumption | with_reducible rfl | grind) (by show ¬ x_lk t n (vI h cu 1) = 42; first | assumption | with_reducible rfl | grind) (by show ¬ x_lk t n (vI h cu 1) = 92; first | assumption | with_reducible rfl | grind) (by show ¬ x_lk t n (vI h cu 1) = 91; first | assumption | with_reducible rfl | grind) (by show ¬ (x_lk t n (vI h cu 1) = 36 ∧ vI h v0 5 = 0 ∧ x_lk t n (vI h cu 1 + 1) = 47); grind) ?_ ?_
                · intro hr2i62_63 Thr2i62_63 g1r2i62_63_0 g1r2i62_63_1 g1r2i62_63_2 f1r2i62_63_I f1r2i62_63_A
                  try dsimp only
                  rw [show vI hr2i62_63 v0 4 = (vI h v0 4) from (by rw [f1r2i62_63_I v0 4 (by omega)]), show vI hr2i62_63 pt 6 = (vI h pt 6) from (by rw [f1r2i62_63_I pt 6 (by omega)]), show vI hr2i62_63 v0 5 = (vI h v0 5) from (by rw [f1r2i62_63_I v0 5 (by omega)])] at g1r2i62_63_0
                  rw [show vI hr2i62_63 pt 6 = (vI h pt 6) from (by rw [f1r2i62_63_I pt 6 (by omega)])] at g1r2i62_63_2
                  refine qi_bs ?_
                  unfold f_Pr_read_115
                  refine qi_if (fun cc65 => absurd cc65 (by decide)) (fun _ => ?_)
                  refine qi_bs ?_
                  refine qi_mono (ih v0 (v3 + 1) hr2i62_63 Thr2i62_63 kv0 kcu pcu kit pit kpt ppt ktx ptx (by show ∀ j, 0 ≤ j → j < n → vA hr2i62_63 (tx + 1) j = t j; rw [show vA hr2i62_63 (tx + 1) = vA h (tx + 1) from (by rw [f1r2i62_63_A (tx + 1) (by omega)])] <;> (first | assumption | with_reducible rfl | grind)) (by show vI hr2i62_63 tx 1 = n; rw [show vI hr2i62_63 tx 1 = (vI h tx 1) from (by rw [f1r2i62_63_I tx 1 (by omega)])] <;> (first | assumption | with_reducible rfl | grind)) n1 tp D (by show 0 ≤ vI hr2i62_63 pt 6 ∧ vI hr2i62_63 pt 6 ≤ 3; rw [show vI hr2i62_63 pt 6 = (vI h pt 6) from (by rw [f1r2i62_63_I pt 6 (by omega)])] <;> (first | assumption | with_reducible rfl | grind)) (by show 0 ≤ vI hr2i62_63 cu 1; exact x_0le a0 (by assumption)) (by show (v3 + 1) ≤ vI hr2i62_63 cu 1; exact x_stp hs (by assumption) (by assumption))) ?_
                  rintro ⟨y, hrz66_67⟩ ⟨Thrz66_67, ⟨ey, g1rz66_67_0, f1rz66_67_I, f1rz66_67_A⟩ | ⟨ey, g0rz66_67_0⟩⟩
                  · dsimp only at *
                    subst ey
                    rw [show vI hr2i62_63 v0 4 = (vI h v0 4) from (by rw [f1r2i62_63_I v0 4 (by omega)]), show vI hr2i62_63 pt 6 = (vI h pt 6) from (by rw [f1r2i62_63_I pt 6 (by omega)]), show vI hr2i62_63 v0 5 = (vI h v0 5) from (by rw [f1r2i62_63_I v0 5 (by omega)])] at g1rz66_67_0
                    exact ⟨Thrz66_67, Or.inl ⟨rfl, (by show x_pat t n (vI h cu 1) (vI h v0 3) (vI h v0 4) (vI h pt 6) (vI h v0 5) (vI h v0 6) = some (vI hrz66_67 cu 1, vI hrz66_67 pt 6); exact g1r2i62_63_0.trans g1rz66_67_0), (fun a k na => by rw [f1rz66_67_I a k (fun z => na (z.elim (fun z => Or.inl z) (fun z => z.elim (fun z => Or.inr (Or.inl z)) (fun z => z.elim (fun z => Or.inr (Or.inr (Or.inl z))) (fun z => z.elim (fun z => Or.inr (Or.inr (Or.inr (Or.inl z)))) (fun z => z.elim (fun z => Or.inr (Or.inr (Or.inr (Or.inr (Or.inl z))))) (fun z => z.elim (fun z => Or.inr (Or.inr (Or.inr (Or.inr (Or.inr (Or.inl z)))))) (fun z => z.elim (fun z => Or.inr (Or.inr (Or.inr (Or.inr (Or.inr (Or.inr (Or.inl z))))))) (fun z => z.elim (fun z => Or.inr (Or.inr (Or.inr (Or.inr (Or.inr (Or.inr (Or.inr (Or.inl z)))))))) (fun z => z.elim (fun z => Or.inr (Or.inr (Or.inr (Or.inr (Or.inr (Or.inr (Or.inr (Or.inr (Or.inl z))))))))) (fun z => z.elim (fun z => Or.inr (Or.inr (Or.inr (Or.inr (Or.inr (Or.inr (Or.inr (Or.inr (Or.inr (Or.inl z)))))))))) (fun z => z.elim (fun z => Or.inr (Or.inr (Or.inr (Or.inr (Or.inr (Or.inr (Or.inr (Or.inr (Or.inr (Or.inr (Or.inl z))))))))))) (fun z => Or.inr (Or.inr (Or.inr (Or.inr (Or.inr (Or.inr (Or.inr (Or.inr (Or.inr (Or.inr (Or.inr (z)))))))))))))))))))))))), f1r2i62_63_I a k (fun z => na (z.elim (fun z => Or.inr (Or.inr (Or.inr (Or.inr (Or.inl z))))) (fun z => z.elim (fun z => Or.inr (Or.inr (Or.inr (Or.inr (Or.inr (Or.inr (Or.inr (Or.inl z)))))))) (fun z => z.elim (fun z => Or.inr (Or.inr (Or.inr (Or.inr (Or.inr (Or.inr (Or.inr (Or.inr (Or.inl z))))))))) (fun z => z.elim (fun z => Or.inr (Or.inr (Or.inr (Or.inr (Or.inr (Or.inr (Or.inl z))))))) (fun z => Or.inr (Or.inr (Or.inr (Or.inl z)))))))))]), (fun a na => by rw [f1rz66_67_A a (fun z => na (z.elim (fun z => Or.inl z) (fun z => Or.inr (z)))), f1r2i62_63_A a (fun z => na (z.elim (fun z => Or.inl z) (fun z => Or.inr (z))))])⟩⟩
                  · dsimp only at *
                    subst ey
                    rw [show vI hr2i62_63 v0 4 = (vI h v0 4) from (by rw [f1r2i62_63_I v0 4 (by omega)]), show vI hr2i62_63 pt 6 = (vI h pt 6) from (by rw [f1r2i62_63_I pt 6 (by omega)]), show vI hr2i62_63 v0 5 = (vI h v0 5) from (by rw [f1r2i62_63_I v0 5 (by omega)])] at g0rz66_67_0
                    exact ⟨Thrz66_67, Or.inr ⟨rfl, (by show x_pat t n (vI h cu 1) (vI h v0 3) (vI h v0 4) (vI h pt 6) (vI h v0 5) (vI h v0 6) = none; exact g1r2i62_63_0.trans g0rz66_67_0)⟩⟩
                · intro hr2i62_63 Thr2i62_63 g0r2i62_63_0
                  try dsimp only
                  refine qi_bs ?_
                  unfold f_Pr_read_115
                  refine qi_if (fun _ => ?_) (fun cc69 => absurd (by decide) cc69)
                  refine qi_some ?_
                  exact ⟨Thr2i62_63, Or.inr ⟨rfl, g0r2i62_63_0⟩⟩
theorem j_Pr_read_8 {L : q_L} {π : Nat → Nat → Option Nat} {N : Nat} {cu : Nat} {it : Nat} {pt : Nat} {tx : Nat} {t : Int32 → Int32} {n : Int32} {m9 : Nat} {h : z_H} {v0 : Nat} {v3 : Int32} {β : Type} {f : Int32 × z_H → Option β} {Q : β → Prop} (T : x_U L π h) (kv0 : qκ L v0 = 9) (kcu : qκ L cu = 3) (pcu : π v0 0 = some cu) (kit : qκ L it = 5) (pit : π v0 1 = some it) (kpt : qκ L pt = 8) (ppt : π v0 2 = some pt) (ktx : qκ L tx = 11) (ptx : π cu 0 = some tx) (ht : ∀ j, 0 ≤ j → j < n → vA h (tx + 1) j = t j) (hn : vI h tx 1 = n) (n1 : n ≤ 240) (tp : ∀ j, t j ≠ -1) (D : cu + 1 = v0 ∧ v0 + 4 ≤ tx ∧ it = tx + 2 ∧ it + 6 ≤ pt) (gb : 0 ≤ vI h pt 6 ∧ vI h pt 6 ≤ 3) (a0 : 0 ≤ vI h cu 1) (hs : v3 ≤ vI h cu 1) (H1 : ∀ h', x_U L π h' → (x_pat t n (vI h cu 1) (vI h v0 3) (vI h v0 4) (vI h pt 6) (vI h v0 5) (vI h v0 6) = some (vI h' cu 1, vI h' pt 6)) → (∀ a k, ¬ ((a = pt ∧ k = 3) ∨ (a = pt ∧ k = 5) ∨ (a = pt ∧ k = 4) ∨ (a = cu ∧ k = 1) ∨ (a = cu ∧ k = 2) ∨ (a = v0 ∧ k = 4) ∨ (a = v0 ∧ k = 6) ∨ (a = it ∧ k = 4) ∨ (a = v0 ∧ k = 3) ∨ (a = pt ∧ k = 6) ∨ (a = v0 ∧ k = 5) ∨ (a = pt ∧ k = 1)) → vI h' a k = vI h a k) → (∀ a, ¬ (a = (it + 1) ∨ a = (it + 2)) → vA h' a = vA h a) → qi (f (1, h')) Q) (H0 : ∀ h', x_U L π h' → (x_pat t n (vI h cu 1) (vI h v0 3) (vI h v0 4) (vI h pt 6) (vI h v0 5) (vI h v0 6) = none) → qi (f (0, h')) Q) : qi (z_b (f_Pr_read_8 N m9 v0 v3 h) f) Q := by
  refine qi_b (i_Pr_read_8 m9 v0 v3 h  T kv0 kcu pcu kit pit kpt ppt ktx ptx ht hn n1 tp D gb a0 hs) ?_
  rintro ⟨y, hz⟩ ⟨Tz, ⟨ey, g0, g1, g2⟩ | ⟨ey, g0⟩⟩
  · dsimp only at *; subst ey; exact H1 hz Tz g0 g1 g2
  · dsimp only at *; subst ey; exact H0 hz Tz g0

