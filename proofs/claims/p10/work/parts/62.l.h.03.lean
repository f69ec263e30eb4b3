set_option maxHeartbeats 2000000 in
theorem i_Pr_readSet {L : q_L} {π : Nat → Nat → Option Nat} {N : Nat} {cu : Nat} {it : Nat} {pt : Nat} {tx : Nat} {t : Int32 → Int32} {n : Int32} {h : z_H} {v0 : Nat} (T : x_U L π h) (kv0 : qκ L v0 = 9) (kcu : qκ L cu = 3) (pcu : π v0 0 = some cu) (kit : qκ L it = 5) (pit : π v0 1 = some it) (kpt : qκ L pt = 8) (ppt : π v0 2 = some pt) (ktx : qκ L tx = 11) (ptx : π cu 0 = some tx) (ht : ∀ j, 0 ≤ j → j < n → vA h (tx + 1) j = t j) (hn : vI h tx 1 = n) (n1 : n ≤ 240) (tp : ∀ j, t j ≠ -1) (D : cu + 1 = v0 ∧ v0 + 4 ≤ tx ∧ it = tx + 2 ∧ it + 6 ≤ pt) (gb : 0 ≤ vI h pt 6 ∧ vI h pt 6 ≤ 3) (a0 : 0 ≤ vI h cu 1) (c : x_lk t n (vI h cu 1) = 91) : qi (f_Pr_readSet N v0 h) (fun r => x_U L π r.2 ∧ ((r.1 = 1 ∧ (x_pat t n (vI h cu 1) (vI h v0 3) (vI h v0 4) (vI h pt 6) (vI h v0 5) (vI h v0 6) = x_pat t n (vI r.2 cu 1) (vI r.2 v0 3) (vI r.2 v0 4) (vI r.2 pt 6) (vI r.2 v0 5) (vI r.2 v0 6)) ∧ (vI h cu 1 < vI r.2 cu 1) ∧ (0 ≤ vI r.2 pt 6 ∧ vI r.2 pt 6 ≤ 3) ∧ (∀ a k, ¬ ((a = cu ∧ k = 2) ∨ (a = it ∧ k = 4) ∨ (a = v0 ∧ k = 3) ∨ (a = v0 ∧ k = 6) ∨ (a = cu ∧ k = 1)) → vI r.2 a k = vI h a k) ∧ (∀ a, ¬ (a = (it + 1) ∨ a = (it + 2)) → vA r.2 a = vA h a)) ∨ (r.1 = 0 ∧ (x_pat t n (vI h cu 1) (vI h v0 3) (vI h v0 4) (vI h pt 6) (vI h v0 5) (vI h v0 6) = none)))) := by
  have n2 : n ≤ 1000 := Int32.le_trans n1 (by decide)
  unfold f_Pr_readSet
  refine l_gO ?_
  refine j_Pr_addOne (v0 := v0) (cu := cu) (it := it) (pt := pt) T kv0 kcu pcu kit pit kpt ppt (by show cu + 1 = v0 ∧ v0 + 4 ≤ it ∧ it + 6 ≤ pt; first | assumption | with_reducible rfl | grind) ?_ ?_
  · intro hr2_1 Thr2_1 g1r2_1_0 g1r2_1_1 g1r2_1_2 f1r2_1_I f1r2_1_A
    try dsimp only
    refine qi_if (fun cc2 => absurd cc2 (by decide)) (fun _ => ?_)
    refine l_gR Thr2_1 pcu ?_
    refine l_gI (e := (vI h cu 1)) (by rw [f1r2_1_I cu 1 (by omega)]) ?_
    refine l_sI Thr2_1 kcu (by decide) rfl ?_
    intro h6_3 Th6_3 ih6_3 ah6_3
    refine l_gR Th6_3 pcu ?_
    refine l_gO ?_
    refine j_Cur_look (v0 := cu) (v1 := (0 : Int32)) (tx := tx) (t := t) (n := n) (e := (x_lk t n (((vI h cu 1) + 1)))) Th6_3 kcu ktx ptx (by show ∀ j, 0 ≤ j → j < n → vA h6_3 (tx + 1) j = t j; rw [show vA h6_3 (tx + 1) = vA h (tx + 1) from (by rw [ah6_3 (tx + 1), f1r2_1_A (tx + 1) (by omega)])] <;> (first | assumption | with_reducible rfl | grind)) (by show vI h6_3 tx 1 = n; rw [show vI h6_3 tx 1 = (vI h tx 1) from (by rw [ih6_3 tx 1, if_neg (fun z => absurd z.1 (by omega)), f1r2_1_I tx 1 (by omega)])] <;> (first | assumption | with_reducible rfl | grind)) (by rw [show vI h6_3 cu 1 = ((vI h cu 1) + 1) from (by rw [ih6_3 cu 1, if_pos ⟨rfl, rfl⟩])]; try simp only [Int32.add_zero, x_s11, x_s12, x_s21, x_s13, x_s22, x_s31]) ?_
    try dsimp only
    refine qi_if (fun cc5 => ?_) (fun cc5 => ?_)
    · skip
      unfold f_Pr_readSet_40
      refine qi_if (fun cc7 => absurd cc7 (by decide)) (fun _ => ?_)
      refine l_gR Th6_3 pcu ?_
      refine l_gI (e := ((vI h cu 1) + 1)) (by rw [ih6_3 cu 1, if_pos ⟨rfl, rfl⟩]) ?_
      refine l_sI Th6_3 kcu (by decide) rfl ?_
      intro h4i6_8 Th4i6_8 ih4i6_8 ah4i6_8
      unfold f_Pr_readSet_58
      refine qi_tailp ?_
      refine j_Pr_readSet_62 (v0 := v0) (v1 := (1 : Int32)) (v2 := (0 : Int32)) (v3 := (0 : Int32)) (cu := cu) (it := it) (pt := pt) (tx := tx) (t := t) (n := n) Th4i6_8 kv0 kcu pcu kit pit kpt ppt ktx ptx (by show ∀ j, 0 ≤ j → j < n → vA h4i6_8 (tx + 1) j = t j; rw [show vA h4i6_8 (tx + 1) = vA h (tx + 1) from (by rw [ah4i6_8 (tx + 1), ah6_3 (tx + 1), f1r2_1_A (tx + 1) (by omega)])] <;> (first | assumption | with_reducible rfl | grind)) (by show vI h4i6_8 tx 1 = n; rw [show vI h4i6_8 tx 1 = (vI h tx 1) from (by rw [ih4i6_8 tx 1, if_neg (fun z => absurd z.1 (by omega)), ih6_3 tx 1, if_neg (fun z => absurd z.1 (by omega)), f1r2_1_I tx 1 (by omega)])] <;> (first | assumption | with_reducible rfl | grind)) n1 tp D (by show 0 ≤ vI h4i6_8 pt 6 ∧ vI h4i6_8 pt 6 ≤ 3; rw [show vI h4i6_8 pt 6 = (vI h pt 6) from (by rw [ih4i6_8 pt 6, if_neg (fun z => absurd z.2 (by decide)), ih6_3 pt 6, if_neg (fun z => absurd z.2 (by decide)), f1r2_1_I pt 6 (by omega)])] <;> (first | assumption | with_reducible rfl | grind)) (by show 0 ≤ vI h4i6_8 cu 1; rw [show vI h4i6_8 cu 1 = (((vI h cu 1) + 1) + 1) from (by rw [ih4i6_8 cu 1, if_pos ⟨rfl, rfl⟩])] <;> ((try simp only [Int32.add_zero, x_s11, x_s12, x_s21, x_s13, x_s22, x_s31]) <;> (exact x_0le a0 (x_lp2 n2 (by rw [c]; decide))))) (by show (0 : Int32) = 0 ∨ (0 : Int32) = 1; decide) (by show (0 : Int32) = 1 → x_lk t n (vI h4i6_8 cu 1) = 93; rw [show vI h4i6_8 cu 1 = (((vI h cu 1) + 1) + 1) from (by rw [ih4i6_8 cu 1, if_pos ⟨rfl, rfl⟩])] <;> ((try simp only [Int32.add_zero, x_s11, x_s12, x_s21, x_s13, x_s22, x_s31]) <;> (intro z; exact absurd z (by decide)))) (by show (0 : Int32) ≤ vI h4i6_8 cu 1; rw [show vI h4i6_8 cu 1 = (((vI h cu 1) + 1) + 1) from (by rw [ih4i6_8 cu 1, if_pos ⟨rfl, rfl⟩])] <;> ((try simp only [Int32.add_zero, x_s11, x_s12, x_s21, x_s13, x_s22, x_s31]) <;> (exact x_0le a0 (x_lp2 n2 (by rw [c]; decide))))) ?_ ?_
      · intro hrz10_11 Thrz10_11 g1rz10_11_0 f1rz10_11_I f1rz10_11_A
        try dsimp only
        rw [show vI h4i6_8 cu 1 = (((vI h cu 1) + 1) + 1) from (by rw [ih4i6_8 cu 1, if_pos ⟨rfl, rfl⟩])] at g1rz10_11_0
        rw [if_pos (by decide)] at g1rz10_11_0
        try simp only [Int32.add_zero, x_s11, x_s12, x_s21, x_s13, x_s22, x_s31] at g1rz10_11_0
        refine qi_some ?_
        exact ⟨Thrz10_11, Or.inl ⟨rfl, (by show x_pat t n (vI h cu 1) (vI h v0 3) (vI h v0 4) (vI h pt 6) (vI h v0 5) (vI h v0 6) = x_pat t n (vI hrz10_11 cu 1) (vI hrz10_11 v0 3) (vI hrz10_11 v0 4) (vI hrz10_11 pt 6) (vI hrz10_11 v0 5) (vI hrz10_11 v0 6); rw [show vI hrz10_11 v0 3 = (vI h v0 3 + 1) from (by rw [f1rz10_11_I v0 3 (by omega), ih4i6_8 v0 3, if_neg (fun z => absurd z.2 (by decide)), ih6_3 v0 3, if_neg (fun z => absurd z.2 (by decide)), g1r2_1_0]), show vI hrz10_11 v0 4 = (vI h v0 4) from (by rw [f1rz10_11_I v0 4 (by omega), ih4i6_8 v0 4, if_neg (fun z => absurd z.2 (by decide)), ih6_3 v0 4, if_neg (fun z => absurd z.2 (by decide)), f1r2_1_I v0 4 (by omega)]), show vI hrz10_11 pt 6 = (vI h pt 6) from (by rw [f1rz10_11_I pt 6 (by omega), ih4i6_8 pt 6, if_neg (fun z => absurd z.2 (by decide)), ih6_3 pt 6, if_neg (fun z => absurd z.2 (by decide)), f1r2_1_I pt 6 (by omega)]), show vI hrz10_11 v0 5 = (vI h v0 5) from (by rw [f1rz10_11_I v0 5 (by omega), ih4i6_8 v0 5, if_neg (fun z => absurd z.2 (by decide)), ih6_3 v0 5, if_neg (fun z => absurd z.2 (by decide)), f1r2_1_I v0 5 (by omega)]), show vI hrz10_11 v0 6 = 1 from (by rw [f1rz10_11_I v0 6 (by omega), ih4i6_8 v0 6, if_neg (fun z => absurd z.2 (by decide)), ih6_3 v0 6, if_neg (fun z => absurd z.2 (by decide)), g1r2_1_1])] <;> (exact x_q91s n2 c (by assumption) (by rw [if_pos cc5]; simpa using g1rz10_11_0))), (by show vI h cu 1 < vI hrz10_11 cu 1; exact x_setlt n2 c (b := vI hrz10_11 cu 1) (by rw [if_pos cc5]; simpa using g1rz10_11_0)), (by show 0 ≤ vI hrz10_11 pt 6 ∧ vI hrz10_11 pt 6 ≤ 3; rw [show vI hrz10_11 pt 6 = (vI h pt 6) from (by rw [f1rz10_11_I pt 6 (by omega), ih4i6_8 pt 6, if_neg (fun z => absurd z.2 (by decide)), ih6_3 pt 6, if_neg (fun z => absurd z.2 (by decide)), f1r2_1_I pt 6 (by omega)])] <;> (first | assumption | with_reducible rfl | grind)), (fun a k na => by rw [f1rz10_11_I a k (fun z => na (z.elim (fun z => Or.inr (Or.inr (Or.inr (Or.inr (z))))) (fun z => Or.inl z))), ih4i6_8 a k, if_neg (fun z => na (Or.inr (Or.inr (Or.inr (Or.inr (z)))))), ih6_3 a k, if_neg (fun z => na (Or.inr (Or.inr (Or.inr (Or.inr (z)))))), f1r2_1_I a k (fun z => na (z.elim (fun z => Or.inl z) (fun z => z.elim (fun z => Or.inr (Or.inl z)) (fun z => z.elim (fun z => Or.inr (Or.inr (Or.inl z))) (fun z => Or.inr (Or.inr (Or.inr (Or.inl z))))))))]), (fun a na => by rw [f1rz10_11_A a (by omega), ah4i6_8 a, ah6_3 a, f1r2_1_A a (fun z => na (z.elim (fun z => Or.inl z) (fun z => Or.inr (z))))])⟩⟩
      · intro hrz10_11 Thrz10_11 g0rz10_11_0
        try dsimp only
        rw [show vI h4i6_8 cu 1 = (((vI h cu 1) + 1) + 1) from (by rw [ih4i6_8 cu 1, if_pos ⟨rfl, rfl⟩])] at g0rz10_11_0
        rw [if_pos (by decide)] at g0rz10_11_0
        try simp only [Int32.add_zero, x_s11, x_s12, x_s21, x_s13, x_s22, x_s31] at g0rz10_11_0
        refine qi_some ?_
        exact ⟨Thrz10_11, Or.inr ⟨rfl, (by show x_pat t n (vI h cu 1) (vI h v0 3) (vI h v0 4) (vI h pt 6) (vI h v0 5) (vI h v0 6) = none; exact x_q91n n2 c (by rw [if_pos cc5]; simpa using g0rz10_11_0))⟩⟩
    · skip
      unfold f_Pr_readSet_40
      refine qi_if (fun _ => ?_) (fun cc13 => absurd (by decide) cc13)
      unfold f_Pr_readSet_58
      refine qi_tailp ?_
      refine j_Pr_readSet_62 (v0 := v0) (v1 := (0 : Int32)) (v2 := (0 : Int32)) (v3 := (0 : Int32)) (cu := cu) (it := it) (pt := pt) (tx := tx) (t := t) (n := n) Th6_3 kv0 kcu pcu kit pit kpt ppt ktx ptx (by show ∀ j, 0 ≤ j → j < n → vA h6_3 (tx + 1) j = t j; rw [show vA h6_3 (tx + 1) = vA h (tx + 1) from (by rw [ah6_3 (tx + 1), f1r2_1_A (tx + 1) (by omega)])] <;> (first | assumption | with_reducible rfl | grind)) (by show vI h6_3 tx 1 = n; rw [show vI h6_3 tx 1 = (vI h tx 1) from (by rw [ih6_3 tx 1, if_neg (fun z => absurd z.1 (by omega)), f1r2_1_I tx 1 (by omega)])] <;> (first | assumption | with_reducible rfl | grind)) n1 tp D (by show 0 ≤ vI h6_3 pt 6 ∧ vI h6_3 pt 6 ≤ 3; rw [show vI h6_3 pt 6 = (vI h pt 6) from (by rw [ih6_3 pt 6, if_neg (fun z => absurd z.2 (by decide)), f1r2_1_I pt 6 (by omega)])] <;> (first | assumption | with_reducible rfl | grind)) (by show 0 ≤ vI h6_3 cu 1; rw [show vI h6_3 cu 1 = ((vI h cu 1) + 1) from (by rw [ih6_3 cu 1, if_pos ⟨rfl, rfl⟩])] <;> (exact x_0le a0 (x_lp1 n2 (by rw [c]; decide)))) (by show (0 : Int32) = 0 ∨ (0 : Int32) = 1; decide) (by show (0 : Int32) = 1 → x_lk t n (vI h6_3 cu 1) = 93; rw [show vI h6_3 cu 1 = ((vI h cu 1) + 1) from (by rw [ih6_3 cu 1, if_pos ⟨rfl, rfl⟩])] <;> (intro z; exact absurd z (by decide))) (by show (0 : Int32) ≤ vI h6_3 cu 1; rw [show vI h6_3 cu 1 = ((vI h cu 1) + 1) from (by rw [ih6_3 cu 1, if_pos ⟨rfl, rfl⟩])] <;> (exact x_0le a0 (x_lp1 n2 (by rw [c]; decide)))) ?_ ?_
      · intro hrz15_16 Thrz15_16 g1rz15_16_0 f1rz15_16_I f1rz15_16_A
        try dsimp only
        rw [show vI h6_3 cu 1 = ((vI h cu 1) + 1) from (by rw [ih6_3 cu 1, if_pos ⟨rfl, rfl⟩])] at g1rz15_16_0
        rw [if_pos (by decide)] at g1rz15_16_0
        refine qi_some ?_
        exact ⟨Thrz15_16, Or.inl ⟨rfl, (by show x_pat t n (vI h cu 1) (vI h v0 3) (vI h v0 4) (vI h pt 6) (vI h v0 5) (vI h v0 6) = x_pat t n (vI hrz15_16 cu 1) (vI hrz15_16 v0 3) (vI hrz15_16 v0 4) (vI hrz15_16 pt 6) (vI hrz15_16 v0 5) (vI hrz15_16 v0 6); rw [show vI hrz15_16 v0 3 = (vI h v0 3 + 1) from (by rw [f1rz15_16_I v0 3 (by omega), ih6_3 v0 3, if_neg (fun z => absurd z.2 (by decide)), g1r2_1_0]), show vI hrz15_16 v0 4 = (vI h v0 4) from (by rw [f1rz15_16_I v0 4 (by omega), ih6_3 v0 4, if_neg (fun z => absurd z.2 (by decide)), f1r2_1_I v0 4 (by omega)]), show vI hrz15_16 pt 6 = (vI h pt 6) from (by rw [f1rz15_16_I pt 6 (by omega), ih6_3 pt 6, if_neg (fun z => absurd z.2 (by decide)), f1r2_1_I pt 6 (by omega)]), show vI hrz15_16 v0 5 = (vI h v0 5) from (by rw [f1rz15_16_I v0 5 (by omega), ih6_3 v0 5, if_neg (fun z => absurd z.2 (by decide)), f1r2_1_I v0 5 (by omega)]), show vI hrz15_16 v0 6 = 1 from (by rw [f1rz15_16_I v0 6 (by omega), ih6_3 v0 6, if_neg (fun z => absurd z.2 (by decide)), g1r2_1_1])] <;> (exact x_q91s n2 c (by assumption) (by rw [if_neg cc5]; simpa using g1rz15_16_0))), (by show vI h cu 1 < vI hrz15_16 cu 1; exact x_setlt n2 c (b := vI hrz15_16 cu 1) (by rw [if_neg cc5]; simpa using g1rz15_16_0)), (by show 0 ≤ vI hrz15_16 pt 6 ∧ vI hrz15_16 pt 6 ≤ 3; rw [show vI hrz15_16 pt 6 = (vI h pt 6) from (by rw [f1rz15_16_I pt 6 (by omega), ih6_3 pt 6, if_neg (fun z => absurd z.2 (by decide)), f1r2_1_I pt 6 (by omega)])] <;> (first | assumption | with_reducible rfl | grind)), (fun a k na => by rw [f1rz15_16_I a k (fun z => na (z.elim (fun z => Or.inr (Or.inr (Or.inr (Or.inr (z))))) (fun z => Or.inl z))), ih6_3 a k, if_neg (fun z => na (Or.inr (Or.inr (Or.inr (Or.inr (z)))))), f1r2_1_I a k (fun z => na (z.elim (fun z => Or.inl z) (fun z => z.elim (fun z => Or.inr (Or.inl z)) (fun z => z.elim (fun z => Or.inr (Or.inr (Or.inl z))) (fun z => Or.inr (Or.inr (Or.inr (Or.inl z))))))))]), (fun a na => by rw [f1rz15_16_A a (by omega), ah6_3 a, f1r2_1_A a (fun z => na (z.elim (fun z => Or.inl z) (fun z => Or.inr (z))))])⟩⟩
      · intro hrz15_16 Thrz15_16 g0rz15_16_0
        try dsimp only
        rw [show vI h6_3 cu 1 = ((vI h cu 1) + 1) from (by rw [ih6_3 cu 1, if_pos ⟨rfl, rfl⟩])] at g0rz15_16_0
        rw [if_pos (by decide)] at g0rz15_16_0
        refine qi_some ?_
        exact ⟨Thrz15_16, Or.inr ⟨rfl, (by show x_pat t n (vI h cu 1) (vI h v0 3) (vI h v0 4) (vI h pt 6) (vI h v0 5) (vI h v0 6) = none; exact x_q91n n2 c (by rw [if_neg cc5]; simpa using g0rz15_16_0))⟩⟩
  · intro hr2_1 Thr2_1 g0r2_1_0
    try dsimp only
    refine qi_if (fun _ => ?_) (fun cc17 => absurd (by decide) cc17)
    refine qi_some ?_
    exact ⟨Thr2_1, Or.inr ⟨rfl, (by show x_pat t n (vI h cu 1) (vI h v0 3) (vI h v0 4) (vI h pt 6) (vI h v0 5) (vI h v0 6) = none; exact x_q91 n2 c (by assumption))⟩⟩
theorem j_Pr_readSet {L : q_L} {π : Nat → Nat → Option Nat} {N : Nat} {cu : Nat} {it : Nat} {pt : Nat} {tx : Nat} {t : Int32 → Int32} {n : Int32} {h : z_H} {v0 : Nat} {β : Type} {f : Int32 × z_H → Option β} {Q : β → Prop} (T : x_U L π h) (kv0 : qκ L v0 = 9) (kcu : qκ L cu = 3) (pcu : π v0 0 = some cu) (kit : qκ L it = 5) (pit : π v0 1 = some it) (kpt : qκ L pt = 8) (ppt : π v0 2 = some pt) (ktx : qκ L tx = 11) (ptx : π cu 0 = some tx) (ht : ∀ j, 0 ≤ j → j < n → vA h (tx + 1) j = t j) (hn : vI h tx 1 = n) (n1 : n ≤ 240) (tp : ∀ j, t j ≠ -1) (D : cu + 1 = v0 ∧ v0 + 4 ≤ tx ∧ it = tx + 2 ∧ it + 6 ≤ pt) (gb : 0 ≤ vI h pt 6 ∧ vI h pt 6 ≤ 3) (a0 : 0 ≤ vI h cu 1) (c : x_lk t n (vI h cu 1) = 91) (H1 : ∀ h', x_U L π h' → (x_pat t n (vI h cu 1) (vI h v0 3) (vI h v0 4) (vI h pt 6) (vI h v0 5) (vI h v0 6) = x_pat t n (vI h' cu 1) (vI h' v0 3) (vI h' v0 4) (vI h' pt 6) (vI h' v0 5) (vI h' v0 6)) → (vI h cu 1 < vI h' cu 1) → (0 ≤ vI h' pt 6 ∧ vI h' pt 6 ≤ 3) → (∀ a k, ¬ ((a = cu ∧ k = 2) ∨ (a = it ∧ k = 4) ∨ (a = v0 ∧ k = 3) ∨ (a = v0 ∧ k = 6) ∨ (a = cu ∧ k = 1)) → vI h' a k = vI h a k) → (∀ a, ¬ (a = (it + 1) ∨ a = (it + 2)) → vA h' a = vA h a) → qi (f (1, h')) Q) (H0 : ∀ h', x_U L π h' → (x_pat t n (vI h cu 1) (vI h v0 3) (vI h v0 4) (vI h pt 6) (vI h v0 5) (vI h v0 6) = none) → qi (f (0, h')) Q) : qi (z_b (f_Pr_readSet N v0 h) f) Q := by
  refine qi_b (i_Pr_readSet  T kv0 kcu pcu kit pit kpt ppt ktx ptx ht hn n1 tp D gb a0 c) ?_
  rintro ⟨y, hz⟩ ⟨Tz, ⟨ey, g0, g1, g2, g3, g4⟩ | ⟨ey, g0⟩⟩
  · dsimp only at *; subst ey; exact H1 hz Tz g0 g1 g2 g3 g4
  · dsimp only at *; subst ey; exact H0 hz Tz g0

set_option maxHeartbeats 2000000 in
theorem i_Pr_mayEnd {L : q_L} {π : Nat → Nat → Option Nat} {N : Nat} {cu : Nat} {tx : Nat} {t : Int32 → Int32} {n : Int32} {h : z_H} {v0 : Nat} (T : x_U L π h) (kv0 : qκ L v0 = 9) (kcu : qκ L cu = 3) (pcu : π v0 0 = some cu) (ktx : qκ L tx = 11) (ptx : π cu 0 = some tx) (ht : ∀ j, 0 ≤ j → j < n → vA h (tx + 1) j = t j) (hn : vI h tx 1 = n) : qi (f_Pr_mayEnd N v0 h) (fun r => r.2 = h ∧ (r.1 = 1 ∧ (vI h v0 5 = 0) ∧ (x_lk t n (vI h cu 1 + 1) = 47 ∨ x_lk t n (vI h cu 1 + 1) = -1) ∨ r.1 = 0 ∧ (¬ (vI h v0 5 = 0 ∧ (x_lk t n (vI h cu 1 + 1) = 47 ∨ x_lk t n (vI h cu 1 + 1) = -1))))) := by
  unfold f_Pr_mayEnd
  refine l_gR T pcu ?_
  refine l_gO ?_
  refine j_Cur_look (v0 := cu) (v1 := (1 : Int32)) (tx := tx) (t := t) (n := n) (e := (x_lk t n (vI h cu 1 + 1))) T kcu ktx ptx ht hn rfl ?_
  try dsimp only
  refine qi_bs ?_
  refine l_gI (e := (vI h v0 5)) rfl ?_
  refine qi_if (fun cc2 => ?_) (fun cc2 => ?_)
  · skip
    refine qi_if (fun cc3 => ?_) (fun cc3 => ?_)
    · skip
      refine qi_some ?_
      exact ⟨rfl, Or.inl ⟨rfl, (by show vI h v0 5 = 0; first | assumption | with_reducible rfl | grind), (by show x_lk t n (vI h cu 1 + 1) = 47 ∨ x_lk t n (vI h cu 1 + 1) = -1; first | assumption | with_reducible rfl | grind)⟩⟩
    · skip
      refine qi_if (fun cc4 => ?_) (fun cc4 => ?_)
      · skip
        refine qi_some ?_
        exact ⟨rfl, Or.inl ⟨rfl, (by show vI h v0 5 = 0; first | assumption | with_reducible rfl | grind), (by show x_lk t n (vI h cu 1 + 1) = 47 ∨ x_lk t n (vI h cu 1 + 1) = -1; first | assumption | with_reducible rfl | grind)⟩⟩
      · skip
        refine qi_some ?_
        exact ⟨rfl, Or.inr ⟨rfl, (by show ¬ (vI h v0 5 = 0 ∧ (x_lk t n (vI h cu 1 + 1) = 47 ∨ x_lk t n (vI h cu 1 + 1) = -1)); first | assumption | with_reducible rfl | grind)⟩⟩
  · skip
    refine qi_some ?_
    exact ⟨rfl, Or.inr ⟨rfl, (by show ¬ (vI h v0 5 = 0 ∧ (x_lk t n (vI h cu 1 + 1) = 47 ∨ x_lk t n (vI h cu 1 + 1) = -1)); first | assumption | with_reducible rfl | grind)⟩⟩
theorem j_Pr_mayEnd {L : q_L} {π : Nat → Nat → Option Nat} {N : Nat} {cu : Nat} {tx : Nat} {t : Int32 → Int32} {n : Int32} {h : z_H} {v0 : Nat} {β : Type} {f : Int32 × z_H → Option β} {Q : β → Prop} (T : x_U L π h) (kv0 : qκ L v0 = 9) (kcu : qκ L cu = 3) (pcu : π v0 0 = some cu) (ktx : qκ L tx = 11) (ptx : π cu 0 = some tx) (ht : ∀ j, 0 ≤ j → j < n → vA h (tx + 1) j = t j) (hn : vI h tx 1 = n) (H1 : ∀ _u : Unit, (vI h v0 5 = 0) → (x_lk t n (vI h cu 1 + 1) = 47 ∨ x_lk t n (vI h cu 1 + 1) = -1) → qi (f (1, h)) Q) (H0 : ∀ _u : Unit, (¬ (vI h v0 5 = 0 ∧ (x_lk t n (vI h cu 1 + 1) = 47 ∨ x_lk t n (vI h cu 1 + 1) = -1))) → qi (f (0, h)) Q) : qi (z_b (f_Pr_mayEnd N v0 h) f) Q := by
  refine qi_b (i_Pr_mayEnd  T kv0 kcu pcu ktx ptx ht hn) ?_
  rintro ⟨y, hz⟩ ⟨e, ⟨ey, g0, g1⟩ | ⟨ey, g0⟩⟩
  · dsimp only at *; subst ey; subst e; exact H1 () g0 g1
  · dsimp only at *; subst ey; subst e; exact H0 () g0

set_option maxHeartbeats 2000000 in
theorem i_Pr_readEnd {L : q_L} {π : Nat → Nat → Option Nat} {N : Nat} {cu : Nat} {it : Nat} {pt : Nat} {tx : Nat} {t : Int32 → Int32} {n : Int32} {h : z_H} {v0 : Nat} (T : x_U L π h) (kv0 : qκ L v0 = 9) (kcu : qκ L cu = 3) (pcu : π v0 0 = some cu) (kit : qκ L it = 5) (pit : π v0 1 = some it) (kpt : qκ L pt = 8) (ppt : π v0 2 = some pt) (ktx : qκ L tx = 11) (ptx : π cu 0 = some tx) (ht : ∀ j, 0 ≤ j → j < n → vA h (tx + 1) j = t j) (hn : vI h tx 1 = n) (n1 : n ≤ 240) (tp : ∀ j, t j ≠ -1) (D : cu + 1 = v0 ∧ v0 + 4 ≤ tx ∧ it = tx + 2 ∧ it + 6 ≤ pt) (gb : 0 ≤ vI h pt 6 ∧ vI h pt 6 ≤ 3) (a0 : 0 ≤ vI h cu 1) (c : x_lk t n (vI h cu 1) = 36) (e1 : vI h v0 5 = 0) (e2 : x_lk t n (vI h cu 1 + 1) = 47 ∨ x_lk t n (vI h cu 1 + 1) = -1) : qi (f_Pr_readEnd N v0 h) (fun r => x_U L π r.2 ∧ r.1 = 1 ∧ (x_pat t n (vI h cu 1) (vI h v0 3) (vI h v0 4) (vI h pt 6) (vI h v0 5) (vI h v0 6) = x_pat t n (vI r.2 cu 1) (vI r.2 v0 3) (vI r.2 v0 4) (vI r.2 pt 6) (vI r.2 v0 5) (vI r.2 v0 6)) ∧ (vI h cu 1 < vI r.2 cu 1) ∧ (0 ≤ vI r.2 pt 6 ∧ vI r.2 pt 6 ≤ 3) ∧ (∀ a k, ¬ ((a = pt ∧ k = 1) ∨ (a = cu ∧ k = 1)) → vI r.2 a k = vI h a k) ∧ (∀ a, ¬ (a < a) → vA r.2 a = vA h a)) := by
  have n2 : n ≤ 1000 := Int32.le_trans n1 (by decide)
  unfold f_Pr_readEnd
  refine l_gR T ppt ?_
  refine l_sI T kpt (by decide) rfl ?_
  intro h2_1 Th2_1 ih2_1 ah2_1
  refine l_gR Th2_1 pcu ?_
  refine l_gI (e := (vI h cu 1)) (by rw [ih2_1 cu 1, if_neg (fun z => absurd z.1 (by omega))]) ?_
  refine l_sI Th2_1 kcu (by decide) rfl ?_
  intro h5_2 Th5_2 ih5_2 ah5_2
  refine qi_some ?_
  exact ⟨Th5_2, ⟨rfl, (by show x_pat t n (vI h cu 1) (vI h v0 3) (vI h v0 4) (vI h pt 6) (vI h v0 5) (vI h v0 6) = x_pat t n (vI h5_2 cu 1) (vI h5_2 v0 3) (vI h5_2 v0 4) (vI h5_2 pt 6) (vI h5_2 v0 5) (vI h5_2 v0 6); rw [show vI h5_2 cu 1 = ((vI h cu 1) + 1) from (by rw [ih5_2 cu 1, if_pos ⟨rfl, rfl⟩]), show vI h5_2 v0 3 = (vI h v0 3) from (by rw [ih5_2 v0 3, if_neg (fun z => absurd z.2 (by decide)), ih2_1 v0 3, if_neg (fun z => absurd z.2 (by decide))]), show vI h5_2 v0 4 = (vI h v0 4) from (by rw [ih5_2 v0 4, if_neg (fun z => absurd z.2 (by decide)), ih2_1 v0 4, if_neg (fun z => absurd z.2 (by decide))]), show vI h5_2 pt 6 = (vI h pt 6) from (by rw [ih5_2 pt 6, if_neg (fun z => absurd z.2 (by decide)), ih2_1 pt 6, if_neg (fun z => absurd z.2 (by decide))]), show vI h5_2 v0 5 = (vI h v0 5) from (by rw [ih5_2 v0 5, if_neg (fun z => absurd z.2 (by decide)), ih2_1 v0 5, if_neg (fun z => absurd z.2 (by decide))]), show vI h5_2 v0 6 = (vI h v0 6) from (by rw [ih5_2 v0 6, if_neg (fun z => absurd z.2 (by decide)), ih2_1 v0 6, if_neg (fun z => absurd z.2 (by decide))])] <;> (exact x_qend tp n2 c e1 e2)), (by show vI h cu 1 < vI h5_2 cu 1; rw [show vI h5_2 cu 1 = ((vI h cu 1) + 1) from (by rw [ih5_2 cu 1, if_pos ⟨rfl, rfl⟩])] <;> (exact x_lp1 n2 (by rw [c]; decide))), (by show 0 ≤ vI h5_2 pt 6 ∧ vI h5_2 pt 6 ≤ 3; rw [show vI h5_2 pt 6 = (vI h pt 6) from (by rw [ih5_2 pt 6, if_neg (fun z => absurd z.2 (by decide)), ih2_1 pt 6, if_neg (fun z => absurd z.2 (by decide))])] <;> (first | assumption | with_reducible rfl | grind)), (fun a k na => by rw [ih5_2 a k, if_neg (fun z => na (Or.inr (z))), ih2_1 a k, if_neg (fun z => na (Or.inl z))]), (fun a na => by rw [ah5_2 a, ah2_1 a])⟩⟩
theorem j_Pr_readEnd {L : q_L} {π : Nat → Nat → Option Nat} {N : Nat} {cu : Nat} {it : Nat} {pt : Nat} {tx : Nat} {t : Int32 → Int32} {n : Int32} {h : z_H} {v0 : Nat} {β : Type} {f : Int32 × z_H → Option β} {Q : β → Prop} (T : x_U L π h) (kv0 : qκ L v0 = 9) (kcu : qκ L cu = 3) (pcu : π v0 0 = some cu) (kit : qκ L it = 5) (pit : π v0 1 = some it) (kpt : qκ L pt = 8) (ppt : π v0 2 = some pt) (ktx : qκ L tx = 11) (ptx : π cu 0 = some tx) (ht : ∀ j, 0 ≤ j → j < n → vA h (tx + 1) j = t j) (hn : vI h tx 1 = n) (n1 : n ≤ 240) (tp : ∀ j, t j ≠ -1) (D : cu + 1 = v0 ∧ v0 + 4 ≤ tx ∧ it = tx + 2 ∧ it + 6 ≤ pt) (gb : 0 ≤ vI h pt 6 ∧ vI h pt 6 ≤ 3) (a0 : 0 ≤ vI h cu 1) (c : x_lk t n (vI h cu 1) = 36) (e1 : vI h v0 5 = 0) (e2 : x_lk t n (vI h cu 1 + 1) = 47 ∨ x_lk t n (vI h cu 1 + 1) = -1) (H1 : ∀ h', x_U L π h' → (x_pat t n (vI h cu 1) (vI h v0 3) (vI h v0 4) (vI h pt 6) (vI h v0 5) (vI h v0 6) = x_pat t n (vI h' cu 1) (vI h' v0 3) (vI h' v0 4) (vI h' pt 6) (vI h' v0 5) (vI h' v0 6)) → (vI h cu 1 < vI h' cu 1) → (0 ≤ vI h' pt 6 ∧ vI h' pt 6 ≤ 3) → (∀ a k, ¬ ((a = pt ∧ k = 1) ∨ (a = cu ∧ k = 1)) → vI h' a k = vI h a k) → (∀ a, ¬ (a < a) → vA h' a = vA h a) → qi (f (1, h')) Q) : qi (z_b (f_Pr_readEnd N v0 h) f) Q := by
  refine qi_b (i_Pr_readEnd  T kv0 kcu pcu kit pit kpt ppt ktx ptx ht hn n1 tp D gb a0 c e1 e2) ?_
  rintro ⟨y, hz⟩ ⟨Tz, ey, g0, g1, g2, g3, g4⟩
  · dsimp only at *; subst ey; exact H1 hz Tz g0 g1 g2 g3 g4

set_option maxHeartbeats 2000000 in
theorem i_Pr_readPlain {L : q_L} {π : Nat → Nat → Option Nat} {N : Nat} {cu : Nat} {it : Nat} {pt : Nat} {tx : Nat} {t : Int32 → Int32} {n : Int32} {h : z_H} {v0 : Nat} (T : x_U L π h) (kv0 : qκ L v0 = 9) (kcu : qκ L cu = 3) (pcu : π v0 0 = some cu) (kit : qκ L it = 5) (pit : π v0 1 = some it) (kpt : qκ L pt = 8) (ppt : π v0 2 = some pt) (ktx : qκ L tx = 11) (ptx : π cu 0 = some tx) (ht : ∀ j, 0 ≤ j → j < n → vA h (tx + 1) j = t j) (hn : vI h tx 1 = n) (n1 : n ≤ 240) (tp : ∀ j, t j ≠ -1) (D : cu + 1 = v0 ∧ v0 + 4 ≤ tx ∧ it = tx + 2 ∧ it + 6 ≤ pt) (gb : 0 ≤ vI h pt 6 ∧ vI h pt 6 ≤ 3) (a0 : 0 ≤ vI h cu 1) (c2 : ¬ x_lk t n (vI h cu 1) = 47) (c3 : ¬ x_lk t n (vI h cu 1) = 42) (c4 : ¬ x_lk t n (vI h cu 1) = 92) (c5 : ¬ x_lk t n (vI h cu 1) = 91) (c6 : ¬ (x_lk t n (vI h cu 1) = 36 ∧ vI h v0 5 = 0 ∧ x_lk t n (vI h cu 1 + 1) = 47)) : qi (f_Pr_readPlain N v0 h) (fun r => x_U L π r.2 ∧ ((r.1 = 1 ∧ (x_pat t n (vI h cu 1) (vI h v0 3) (vI h v0 4) (vI h pt 6) (vI h v0 5) (vI h v0 6) = x_pat t n (vI r.2 cu 1) (vI r.2 v0 3) (vI r.2 v0 4) (vI r.2 pt 6) (vI r.2 v0 5) (vI r.2 v0 6)) ∧ (vI h cu 1 < vI r.2 cu 1) ∧ (0 ≤ vI r.2 pt 6 ∧ vI r.2 pt 6 ≤ 3) ∧ (∀ a k, ¬ ((a = cu ∧ k = 2) ∨ (a = it ∧ k = 4) ∨ (a = v0 ∧ k = 3) ∨ (a = v0 ∧ k = 6) ∨ (a = cu ∧ k = 1)) → vI r.2 a k = vI h a k) ∧ (∀ a, ¬ (a = (it + 1) ∨ a = (it + 2)) → vA r.2 a = vA h a)) ∨ (r.1 = 0 ∧ (x_pat t n (vI h cu 1) (vI h v0 3) (vI h v0 4) (vI h pt 6) (vI h v0 5) (vI h v0 6) = none)))) := by
  have n2 : n ≤ 1000 := Int32.le_trans n1 (by decide)
  unfold f_Pr_readPlain
  refine l_gR T pcu ?_
  refine l_gO ?_
  refine j_Cur_look (v0 := cu) (v1 := (0 : Int32)) (tx := tx) (t := t) (n := n) (e := (x_lk t n (vI h cu 1))) T kcu ktx ptx ht hn (by simp only [Int32.add_zero, x_s11, x_s12, x_s21, x_s13, x_s22, x_s31]) ?_
  try dsimp only
  refine qi_bs ?_
  refine qi_if (fun cc2 => ?_) (fun cc2 => ?_)
  · skip
    unfold f_Pr_readPlain_20
    refine l_gR T pcu ?_
    refine l_gO ?_
    refine j_Cur_refuse (v0 := cu) (v1 := (0 : Int32)) T kcu ?_
    · intro hr3i3_4 Thr3i3_4
      try dsimp only
      refine qi_zB (fun zb5 => ?_)
      refine qi_some ?_
      exact ⟨Thr3i3_4, Or.inr ⟨rfl, (by show x_pat t n (vI h cu 1) (vI h v0 3) (vI h v0 4) (vI h pt 6) (vI h v0 5) (vI h v0 6) = none; first | exact x_qno tp (by assumption) | exact x_q10 n2 (by assumption) | (rw [x_qpl n2 (by assumption) (by assumption) c2 c3 c4 c5 c6, if_pos (by assumption)]))⟩⟩
  · skip
    refine qi_if (fun cc6 => ?_) (fun cc6 => ?_)
    · skip
      unfold f_Pr_readPlain_20
      refine l_gR T pcu ?_
      refine l_gO ?_
      refine j_Cur_refuse (v0 := cu) (v1 := (0 : Int32)) T kcu ?_
      · intro hr3i7_8 Thr3i7_8
        try dsimp only
        refine qi_zB (fun zb9 => ?_)
        refine qi_some ?_
        exact ⟨Thr3i7_8, Or.inr ⟨rfl, (by show x_pat t n (vI h cu 1) (vI h v0 3) (vI h v0 4) (vI h pt 6) (vI h v0 5) (vI h v0 6) = none; first | exact x_qno tp (by assumption) | exact x_q10 n2 (by assumption) | (rw [x_qpl n2 (by assumption) (by assumption) c2 c3 c4 c5 c6, if_pos (by assumption)]))⟩⟩
    · skip
      refine l_gO ?_
      refine j_Pr_addOne (v0 := v0) (cu := cu) (it := it) (pt := pt) T kv0 kcu pcu kit pit kpt ppt (by show cu + 1 = v0 ∧ v0 + 4 ≤ it ∧ it + 6 ≤ pt; first | assumption | with_reducible rfl | grind) ?_ ?_
      · intro hr8_10 Thr8_10 g1r8_10_0 g1r8_10_1 g1r8_10_2 f1r8_10_I f1r8_10_A
        try dsimp only
        refine qi_if (fun cc11 => absurd cc11 (by decide)) (fun _ => ?_)
        refine qi_if (fun cc12 => ?_) (fun cc12 => ?_)
        · skip
          refine l_gR Thr8_10 pit ?_
          refine l_gO ?_
          refine j_It_turn (v0 := it) Thr8_10 kit ?_
          intro hr16_13 Thr16_13 fr16_13_I fr16_13_A
          try dsimp only
          unfold f_Pr_readPlain_63
          refine l_gR Thr16_13 pcu ?_
          refine l_gI (e := (vI h cu 1)) (by rw [fr16_13_I cu 1 (by omega), f1r8_10_I cu 1 (by omega)]) ?_
          refine l_sI Thr16_13 kcu (by decide) rfl ?_
          intro h3i14_15 Th3i14_15 ih3i14_15 ah3i14_15
          refine qi_some ?_
          exact ⟨Th3i14_15, Or.inl ⟨rfl, (by show x_pat t n (vI h cu 1) (vI h v0 3) (vI h v0 4) (vI h pt 6) (vI h v0 5) (vI h v0 6) = x_pat t n (vI h3i14_15 cu 1) (vI h3i14_15 v0 3) (vI h3i14_15 v0 4) (vI h3i14_15 pt 6) (vI h3i14_15 v0 5) (vI h3i14_15 v0 6); rw [show vI h3i14_15 cu 1 = ((vI h cu 1) + 1) from (by rw [ih3i14_15 cu 1, if_pos ⟨rfl, rfl⟩]), show vI h3i14_15 v0 3 = (vI h v0 3 + 1) from (by rw [ih3i14_15 v0 3, if_neg (fun z => absurd z.2 (by decide)), fr16_13_I v0 3 (by omega), g1r8_10_0]), show vI h3i14_15 v0 4 = (vI h v0 4) from (by rw [ih3i14_15 v0 4, if_neg (fun z => absurd z.2 (by decide)), fr16_13_I v0 4 (by omega), f1r8_10_I v0 4 (by omega)]), show vI h3i14_15 pt 6 = (vI h pt 6) from (by rw [ih3i14_15 pt 6, if_neg (fun z => absurd z.2 (by decide)), fr16_13_I pt 6 (by omega), f1r8_10_I pt 6 (by omega)]), show vI h3i14_15 v0 5 = (vI h v0 5) from (by rw [ih3i14_15 v0 5, if_neg (fun z => absurd z.2 (by decide)), fr16_13_I v0 5 (by omega), f1r8_10_I v0 5 (by omega)]), show vI h3i14_15 v0 6 = 1 from (by rw [ih3i14_15 v0 6, if_neg (fun z => absurd z.2 (by decide)), fr16_13_I v0 6 (by omega), g1r8_10_1])] <;> (rw [x_qpl n2 (by assumption) (by assumption) c2 c3 c4 c5 c6, if_neg (by assumption)])), (by show vI h cu 1 < vI h3i14_15 cu 1; rw [show vI h3i14_15 cu 1 = ((vI h cu 1) + 1) from (by rw [ih3i14_15 cu 1, if_pos ⟨rfl, rfl⟩])] <;> (exact x_lp1 n2 (by assumption))), (by show 0 ≤ vI h3i14_15 pt 6 ∧ vI h3i14_15 pt 6 ≤ 3; rw [show vI h3i14_15 pt 6 = (vI h pt 6) from (by rw [ih3i14_15 pt 6, if_neg (fun z => absurd z.2 (by decide)), fr16_13_I pt 6 (by omega), f1r8_10_I pt 6 (by omega)])] <;> (first | assumption | with_reducible rfl | grind)), (fun a k na => by rw [ih3i14_15 a k, if_neg (fun z => na (Or.inr (Or.inr (Or.inr (Or.inr (z)))))), fr16_13_I a k (by omega), f1r8_10_I a k (fun z => na (z.elim (fun z => Or.inl z) (fun z => z.elim (fun z => Or.inr (Or.inl z)) (fun z => z.elim (fun z => Or.inr (Or.inr (Or.inl z))) (fun z => Or.inr (Or.inr (Or.inr (Or.inl z))))))))]), (fun a na => by rw [ah3i14_15 a, fr16_13_A a (by omega), f1r8_10_A a (fun z => na (z.elim (fun z => Or.inl z) (fun z => Or.inr (z))))])⟩⟩
        · skip
          refine l_gR Thr8_10 pit ?_
          refine l_gO ?_
          refine j_It_allow (v0 := it) (v1 := (x_lk t n (vI h cu 1))) (v2 := (x_lk t n (vI h cu 1))) Thr8_10 kit ?_
          intro hr13_16 Thr13_16 fr13_16_I fr13_16_A
          try dsimp only
          unfold f_Pr_readPlain_63
          refine l_gR Thr13_16 pcu ?_
          refine l_gI (e := (vI h cu 1)) (by rw [fr13_16_I cu 1 (by omega), f1r8_10_I cu 1 (by omega)]) ?_
          refine l_sI Thr13_16 kcu (by decide) rfl ?_
          intro h3i17_18 Th3i17_18 ih3i17_18 ah3i17_18
          refine qi_some ?_
          exact ⟨Th3i17_18, Or.inl ⟨rfl, (by show x_pat t n (vI h cu 1) (vI h v0 3) (vI h v0 4) (vI h pt 6) (vI h v0 5) (vI h v0 6) = x_pat t n (vI h3i17_18 cu 1) (vI h3i17_18 v0 3) (vI h3i17_18 v0 4) (vI h3i17_18 pt 6) (vI h3i17_18 v0 5) (vI h3i17_18 v0 6); rw [show vI h3i17_18 cu 1 = ((vI h cu 1) + 1) from (by rw [ih3i17_18 cu 1, if_pos ⟨rfl, rfl⟩]), show vI h3i17_18 v0 3 = (vI h v0 3 + 1) from (by rw [ih3i17_18 v0 3, if_neg (fun z => absurd z.2 (by decide)), fr13_16_I v0 3 (by omega), g1r8_10_0]), show vI h3i17_18 v0 4 = (vI h v0 4) from (by rw [ih3i17_18 v0 4, if_neg (fun z => absurd z.2 (by decide)), fr13_16_I v0 4 (by omega), f1r8_10_I v0 4 (by omega)]), show vI h3i17_18 pt 6 = (vI h pt 6) from (by rw [ih3i17_18 pt 6, if_neg (fun z => absurd z.2 (by decide)), fr13_16_I pt 6 (by omega), f1r8_10_I pt 6 (by omega)]), show vI h3i17_18 v0 5 = (vI h v0 5) from (by rw [ih3i17_18 v0 5, if_neg (fun z => absurd z.2 (by decide)), fr13_16_I v0 5 (by omega), f1r8_10_I v0 5 (by omega)]), show vI h3i17_18 v0 6 = 1 from (by rw [ih3i17_18 v0 6, if_neg (fun z => absurd z.2 (by decide)), fr13_16_I v0 6 (by omega), g1r8_10_1])] <;> (rw [x_qpl n2 (by assumption) (by assumption) c2 c3 c4 c5 c6, if_neg (by assumption)])), (by show vI h cu 1 < vI h3i17_18 cu 1; rw [show vI h3i17_18 cu 1 = ((vI h cu 1) + 1) from (by rw [ih3i17_18 cu 1, if_pos ⟨rfl, rfl⟩])] <;> (exact x_lp1 n2 (by assumption))), (by show 0 ≤ vI h3i17_18 pt 6 ∧ vI h3i17_18 pt 6 ≤ 3; rw [show vI h3i17_18 pt 6 = (vI h pt 6) from (by rw [ih3i17_18 pt 6, if_neg (fun z => absurd z.2 (by decide)), fr13_16_I pt 6 (by omega), f1r8_10_I pt 6 (by omega)])] <;> (first | assumption | with_reducible rfl | grind)), (fun a k na => by rw [ih3i17_18 a k, if_neg (fun z => na (Or.inr (Or.inr (Or.inr (Or.inr (z)))))), fr13_16_I a k (by omega), f1r8_10_I a k (fun z => na (z.elim (fun z => Or.inl z) (fun z => z.elim (fun z => Or.inr (Or.inl z)) (fun z => z.elim (fun z => Or.inr (Or.inr (Or.inl z))) (fun z => Or.inr (Or.inr (Or.inr (Or.inl z))))))))]), (fun a na => by rw [ah3i17_18 a, fr13_16_A a (by omega), f1r8_10_A a (fun z => na (z.elim (fun z => Or.inl z) (fun z => Or.inr (z))))])⟩⟩
      · intro hr8_10 Thr8_10 g0r8_10_0
        try dsimp only
        refine qi_if (fun _ => ?_) (fun cc19 => absurd (by decide) cc19)
        refine qi_some ?_
        exact ⟨Thr8_10, Or.inr ⟨rfl, (by show x_pat t n (vI h cu 1) (vI h v0 3) (vI h v0 4) (vI h pt 6) (vI h v0 5) (vI h v0 6) = none; first | exact x_qno tp (by assumption) | exact x_q10 n2 (by assumption) | (rw [x_qpl n2 (by assumption) (by assumption) c2 c3 c4 c5 c6, if_pos (by assumption)]))⟩⟩
theorem j_Pr_readPlain {L : q_L} {π : Nat → Nat → Option Nat} {N : Nat} {cu : Nat} {it : Nat} {pt : Nat} {tx : Nat} {t : Int32 → Int32} {n : Int32} {h : z_H} {v0 : Nat} {β : Type} {f : Int32 × z_H → Option β} {Q : β → Prop} (T : x_U L π h) (kv0 : qκ L v0 = 9) (kcu : qκ L cu = 3) (pcu : π v0 0 = some cu) (kit : qκ L it = 5) (pit : π v0 1 = some it) (kpt : qκ L pt = 8) (ppt : π v0 2 = some pt) (ktx : qκ L tx = 11) (ptx : π cu 0 = some tx) (ht : ∀ j, 0 ≤ j → j < n → vA h (tx + 1) j = t j) (hn : vI h tx 1 = n) (n1 : n ≤ 240) (tp : ∀ j, t j ≠ -1) (D : cu + 1 = v0 ∧ v0 + 4 ≤ tx ∧ it = tx + 2 ∧ it + 6 ≤ pt) (gb : 0 ≤ vI h pt 6 ∧ vI h pt 6 ≤ 3) (a0 : 0 ≤ vI h cu 1) (c2 : ¬ x_lk t n (vI h cu 1) = 47) (c3 : ¬ x_lk t n (vI h cu 1) = 42) (c4 : ¬ x_lk t n (vI h cu 1) = 92) (c5 : ¬ x_lk t n (vI h cu 1) = 91) (c6 : ¬ (x_lk t n (vI h cu 1) = 36 ∧ vI h v0 5 = 0 ∧ x_lk t n (vI h cu 1 + 1) = 47)) (H1 : ∀ h', x_U L π h' → (x_pat t n (vI h cu 1) (vI h v0 3) (vI h v0 4) (vI h pt 6) (vI h v0 5) (vI h v0 6) = x_pat t n (vI h' cu 1) (vI h' v0 3) (vI h' v0 4) (vI h' pt 6) (vI h' v0 5) (vI h' v0 6)) → (vI h cu 1 < vI h' cu 1) → (0 ≤ vI h' pt 6 ∧ vI h' pt 6 ≤ 3) → (∀ a k, ¬ ((a = cu ∧ k = 2) ∨ (a = it ∧ k = 4) ∨ (a = v0 ∧ k = 3) ∨ (a = v0 ∧ k = 6) ∨ (a = cu ∧ k = 1)) → vI h' a k = vI h a k) → (∀ a, ¬ (a = (it + 1) ∨ a = (it + 2)) → vA h' a = vA h a) → qi (f (1, h')) Q) (H0 : ∀ h', x_U L π h' → (x_pat t n (vI h cu 1) (vI h v0 3) (vI h v0 4) (vI h pt 6) (vI h v0 5) (vI h v0 6) = none) → qi (f (0, h')) Q) : qi (z_b (f_Pr_readPlain N v0 h) f) Q := by
  refine qi_b (i_Pr_readPlain  T kv0 kcu pcu kit pit kpt ppt ktx ptx ht hn n1 tp D gb a0 c2 c3 c4 c5 c6) ?_
  rintro ⟨y, hz⟩ ⟨Tz, ⟨ey, g0, g1, g2, g3, g4⟩ | ⟨ey, g0⟩⟩
  · dsimp only at *; subst ey; exact H1 hz Tz g0 g1 g2 g3 g4
  · dsimp only at *; subst ey; exact H0 hz Tz g0

set_option maxHeartbeats 2000000 in
theorem i_Pr_finish {L : q_L} {π : Nat → Nat → Option Nat} {N : Nat} {cu : Nat} {it : Nat} {pt : Nat} {h : z_H} {v0 : Nat} (T : x_U L π h) (kv0 : qκ L v0 = 9) (kcu : qκ L cu = 3) (pcu : π v0 0 = some cu) (kit : qκ L it = 5) (pit : π v0 1 = some it) (kpt : qκ L pt = 8) (ppt : π v0 2 = some pt) (D1 : cu + 1 = v0 ∧ v0 + 4 ≤ it ∧ it + 6 ≤ pt) : qi (f_Pr_finish N v0 h) (fun r => x_U L π r ∧ (∀ a k, ¬ ((a = pt ∧ k = 3) ∨ (a = pt ∧ k = 5) ∨ (a = pt ∧ k = 4)) → vI r a k = vI h a k) ∧ (∀ a, ¬ (a < a) → vA r a = vA h a)) := by
  unfold f_Pr_finish
  refine l_gR T ppt ?_
  refine l_gR T pit ?_
  refine l_gI (e := (vI h it 4)) rfl ?_
  refine l_sI T kpt (by decide) rfl ?_
  intro h4_1 Th4_1 ih4_1 ah4_1
  refine l_gI (e := (vI h v0 4)) (by rw [ih4_1 v0 4, if_neg (fun z => absurd z.2 (by decide))]) ?_
  refine qi_if (fun cc2 => ?_) (fun cc2 => ?_)
  · skip
    unfold f_Pr_finish_36
    refine l_gI (e := (vI h v0 4)) (by rw [ih4_1 v0 4, if_neg (fun z => absurd z.2 (by decide))]) ?_
    refine qi_if (fun cc4 => ?_) (fun cc4 => ?_)
    · skip
      refine qi_some ?_
      exact ⟨Th4_1, (fun a k na => by rw [ih4_1 a k, if_neg (fun z => na (Or.inl z))]), (fun a na => by rw [ah4_1 a])⟩
    · skip
      refine l_gR Th4_1 ppt ?_
      refine l_gR Th4_1 pit ?_
      refine l_gI (e := (vI h it 4)) (by rw [ih4_1 it 4, if_neg (fun z => absurd z.2 (by decide))]) ?_
      refine l_sI Th4_1 kpt (by decide) rfl ?_
      intro h6i3_5 Th6i3_5 ih6i3_5 ah6i3_5
      refine qi_some ?_
      exact ⟨Th6i3_5, (fun a k na => by rw [ih6i3_5 a k, if_neg (fun z => na (Or.inr (Or.inl z))), ih4_1 a k, if_neg (fun z => na (Or.inl z))]), (fun a na => by rw [ah6i3_5 a, ah4_1 a])⟩
  · skip
    refine l_gR Th4_1 ppt ?_
    refine l_gR Th4_1 pit ?_
    refine l_gI (e := (vI h it 4)) (by rw [ih4_1 it 4, if_neg (fun z => absurd z.2 (by decide))]) ?_
    refine l_sI Th4_1 kpt (by decide) rfl ?_
    intro h10_6 Th10_6 ih10_6 ah10_6
    unfold f_Pr_finish_36
    refine l_gI (e := (vI h v0 4)) (by rw [ih10_6 v0 4, if_neg (fun z => absurd z.1 (by omega)), ih4_1 v0 4, if_neg (fun z => absurd z.2 (by decide))]) ?_
    refine qi_if (fun cc8 => ?_) (fun cc8 => ?_)
    · skip
      refine qi_some ?_
      exact ⟨Th10_6, (fun a k na => by rw [ih10_6 a k, if_neg (fun z => na (Or.inr (Or.inr (z)))), ih4_1 a k, if_neg (fun z => na (Or.inl z))]), (fun a na => by rw [ah10_6 a, ah4_1 a])⟩
    · skip
      refine l_gR Th10_6 ppt ?_
      refine l_gR Th10_6 pit ?_
      refine l_gI (e := (vI h it 4)) (by rw [ih10_6 it 4, if_neg (fun z => absurd z.1 (by omega)), ih4_1 it 4, if_neg (fun z => absurd z.2 (by decide))]) ?_
      refine l_sI Th10_6 kpt (by decide) rfl ?_
      intro h6i7_9 Th6i7_9 ih6i7_9 ah6i7_9
      refine qi_some ?_
      exact ⟨Th6i7_9, (fun a k na => by rw [ih6i7_9 a k, if_neg (fun z => na (Or.inr (Or.inl z))), ih10_6 a k, if_neg (fun z => na (Or.inr (Or.inr (z)))), ih4_1 a k, if_neg (fun z => na (Or.inl z))]), (fun a na => by rw [ah6i7_9 a, ah10_6 a, ah4_1 a])⟩
theorem j_Pr_finish {L : q_L} {π : Nat → Nat → Option Nat} {N : Nat} {cu : Nat} {it : Nat} {pt : Nat} {h : z_H} {v0 : Nat} {β : Type} {f : z_H → Option β} {Q : β → Prop} (T : x_U L π h) (kv0 : qκ L v0 = 9) (kcu : qκ L cu = 3) (pcu : π v0 0 = some cu) (kit : qκ L it = 5) (pit : π v0 1 = some it) (kpt : qκ L pt = 8) (ppt : π v0 2 = some pt) (D1 : cu + 1 = v0 ∧ v0 + 4 ≤ it ∧ it + 6 ≤ pt) (H : ∀ h', x_U L π h' → (∀ a k, ¬ ((a = pt ∧ k = 3) ∨ (a = pt ∧ k = 5) ∨ (a = pt ∧ k = 4)) → vI h' a k = vI h a k) → (∀ a, ¬ (a < a) → vA h' a = vA h a) → qi (f h') Q) : qi (z_b (f_Pr_finish N v0 h) f) Q := by
  refine qi_b (i_Pr_finish  T kv0 kcu pcu kit pit kpt ppt D1) ?_
  rintro hz ⟨Tz, g0, g1⟩
  exact H hz Tz g0 g1

