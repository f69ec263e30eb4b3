set_option maxHeartbeats 2000000 in
theorem i_Pr_isOutsideSets {L : q_L} {π : Nat → Nat → Option Nat} {N : Nat} {h : z_H} {v0 : Int32} (T : x_U L π h)   : qi (f_Pr_isOutsideSets N v0 h) (fun r => r.2 = h ∧ (r.1 = 1 ∧ (v0 = -1 ∨ v0 = 10 ∨ v0 = 47 ∨ v0 = 93) ∨ r.1 = 0 ∧ (¬ v0 = -1) ∧ (¬ v0 = 10) ∧ (¬ v0 = 47) ∧ (¬ v0 = 93))) := by
  unfold f_Pr_isOutsideSets
  refine qi_if (fun cc1 => ?_) (fun cc1 => ?_)
  · skip
    refine qi_some ?_
    exact ⟨rfl, Or.inl ⟨rfl, (by show v0 = -1 ∨ v0 = 10 ∨ v0 = 47 ∨ v0 = 93; first | assumption | with_reducible rfl | grind)⟩⟩
  · skip
    refine qi_if (fun cc2 => ?_) (fun cc2 => ?_)
    · skip
      refine qi_some ?_
      exact ⟨rfl, Or.inl ⟨rfl, (by show v0 = -1 ∨ v0 = 10 ∨ v0 = 47 ∨ v0 = 93; first | assumption | with_reducible rfl | grind)⟩⟩
    · skip
      refine qi_if (fun cc3 => ?_) (fun cc3 => ?_)
      · skip
        refine qi_some ?_
        exact ⟨rfl, Or.inl ⟨rfl, (by show v0 = -1 ∨ v0 = 10 ∨ v0 = 47 ∨ v0 = 93; first | assumption | with_reducible rfl | grind)⟩⟩
      · skip
        refine qi_if (fun cc4 => ?_) (fun cc4 => ?_)
        · skip
          refine qi_some ?_
          exact ⟨rfl, Or.inl ⟨rfl, (by show v0 = -1 ∨ v0 = 10 ∨ v0 = 47 ∨ v0 = 93; first | assumption | with_reducible rfl | grind)⟩⟩
        · skip
          refine qi_some ?_
          exact ⟨rfl, Or.inr ⟨rfl, (by show ¬ v0 = -1; first | assumption | with_reducible rfl | grind), cc2, cc3, cc4⟩⟩
theorem j_Pr_isOutsideSets {L : q_L} {π : Nat → Nat → Option Nat} {N : Nat} {h : z_H} {v0 : Int32} {β : Type} {f : Int32 × z_H → Option β} {Q : β → Prop} (T : x_U L π h)   (H1 : ∀ _u : Unit, (v0 = -1 ∨ v0 = 10 ∨ v0 = 47 ∨ v0 = 93) → qi (f (1, h)) Q) (H0 : ∀ _u : Unit, (¬ v0 = -1) → (¬ v0 = 10) → (¬ v0 = 47) → (¬ v0 = 93) → qi (f (0, h)) Q) : qi (z_b (f_Pr_isOutsideSets N v0 h) f) Q := by
  refine qi_b (i_Pr_isOutsideSets  T  ) ?_
  rintro ⟨y, hz⟩ ⟨e, ⟨ey, g0⟩ | ⟨ey, g0, g1, g2, g3⟩⟩
  · dsimp only at *; subst ey; subst e; exact H1 () g0
  · dsimp only at *; subst ey; subst e; exact H0 () g0 g1 g2 g3

set_option maxHeartbeats 2000000 in
theorem i_Pr_readRange {L : q_L} {π : Nat → Nat → Option Nat} {N : Nat} {cu : Nat} {it : Nat} {pt : Nat} {tx : Nat} {t : Int32 → Int32} {n : Int32} {h : z_H} {v0 : Nat} (T : x_U L π h) (kv0 : qκ L v0 = 9) (kcu : qκ L cu = 3) (pcu : π v0 0 = some cu) (kit : qκ L it = 5) (pit : π v0 1 = some it) (kpt : qκ L pt = 8) (ppt : π v0 2 = some pt) (ktx : qκ L tx = 11) (ptx : π cu 0 = some tx) (ht : ∀ j, 0 ≤ j → j < n → vA h (tx + 1) j = t j) (hn : vI h tx 1 = n) (n1 : n ≤ 240) (tp : ∀ j, t j ≠ -1) (D : cu + 1 = v0 ∧ v0 + 4 ≤ tx ∧ it = tx + 2 ∧ it + 6 ≤ pt) (gb : 0 ≤ vI h pt 6 ∧ vI h pt 6 ≤ 3) (a0 : 0 ≤ vI h cu 1) : qi (f_Pr_readRange N v0 h) (fun r => x_U L π r.2 ∧ ((r.1 = 1 ∧ (x_set t n (vI h cu 1) = if x_lk t n (vI r.2 cu 1) = 93 then some (vI r.2 cu 1 + 1) else x_set t n (vI r.2 cu 1)) ∧ (vI h cu 1 < vI r.2 cu 1) ∧ (∀ a k, ¬ ((a = cu ∧ k = 2) ∨ (a = cu ∧ k = 1)) → vI r.2 a k = vI h a k) ∧ (∀ a, ¬ (a < a) → vA r.2 a = vA h a)) ∨ (r.1 = 0 ∧ (x_set t n (vI h cu 1) = none)))) := by
  have n2 : n ≤ 1000 := Int32.le_trans n1 (by decide)
  unfold f_Pr_readRange
  refine l_gR T pcu ?_
  refine l_gO ?_
  refine j_Cur_look (v0 := cu) (v1 := (0 : Int32)) (tx := tx) (t := t) (n := n) (e := (x_lk t n (vI h cu 1))) T kcu ktx ptx ht hn (by simp only [Int32.add_zero, x_s11, x_s12, x_s21, x_s13, x_s22, x_s31]) ?_
  try dsimp only
  refine qi_bs ?_
  refine j_Pr_isOutsideSets (v0 := (x_lk t n (vI h cu 1))) T (fun _ g1r5_2_0 => ?_) (fun _ g0r5_2_0 g0r5_2_1 g0r5_2_2 g0r5_2_3 => ?_)
  · try dsimp only
    refine qi_if (fun cc3 => absurd cc3 (by decide)) (fun _ => ?_)
    refine l_gR T pcu ?_
    refine l_gO ?_
    refine j_Cur_refuse (v0 := cu) (v1 := (0 : Int32)) T kcu ?_
    · intro hr24_4 Thr24_4
      try dsimp only
      refine qi_zB (fun zb5 => ?_)
      refine qi_some ?_
      exact ⟨Thr24_4, Or.inr ⟨rfl, (by show x_set t n (vI h cu 1) = none; first | exact x_se0 tp n2 (by assumption) | (rw [x_se2 n2 (by assumption) (by assumption) (by assumption) (by assumption) (by assumption) (by assumption), if_pos (by (first | grind (ematch := 0) | grind))]) | (exfalso; grind))⟩⟩
  · try dsimp only
    refine qi_if (fun _ => ?_) (fun cc6 => absurd (by decide) cc6)
    refine l_gR T pcu ?_
    refine l_gO ?_
    refine j_Cur_look (v0 := cu) (v1 := (1 : Int32)) (tx := tx) (t := t) (n := n) (e := (x_lk t n (vI h cu 1 + 1))) T kcu ktx ptx ht hn rfl ?_
    try dsimp only
    refine qi_if (fun cc8 => ?_) (fun cc8 => ?_)
    · skip
      refine l_gR T pcu ?_
      refine l_gO ?_
      refine j_Cur_look (v0 := cu) (v1 := (2 : Int32)) (tx := tx) (t := t) (n := n) (e := (x_lk t n (vI h cu 1 + 2))) T kcu ktx ptx ht hn rfl ?_
      try dsimp only
      refine qi_if (fun cc10 => ?_) (fun cc10 => ?_)
      · skip
        unfold f_Pr_readRange_75
        refine j_Pr_isOutsideSets (v0 := (x_lk t n (vI h cu 1))) T (fun _ g1r1i11_12_0 => ?_) (fun _ g0r1i11_12_0 g0r1i11_12_1 g0r1i11_12_2 g0r1i11_12_3 => ?_)
        · try dsimp only
          refine qi_if (fun cc13 => absurd cc13 (by decide)) (fun _ => ?_)
          unfold f_Pr_readRange_87
          refine l_gR T pcu ?_
          refine l_gO ?_
          refine j_Cur_refuse (v0 := cu) (v1 := (0 : Int32)) T kcu ?_
          · intro hr3i14_15 Thr3i14_15
            try dsimp only
            refine qi_zB (fun zb16 => ?_)
            refine qi_some ?_
            exact ⟨Thr3i14_15, Or.inr ⟨rfl, (by show x_set t n (vI h cu 1) = none; first | exact x_se0 tp n2 (by assumption) | (rw [x_se2 n2 (by assumption) (by assumption) (by assumption) (by assumption) (by assumption) (by assumption), if_pos (by (first | grind (ematch := 0) | grind))]) | (exfalso; grind))⟩⟩
        · try dsimp only
          refine qi_if (fun _ => ?_) (fun cc17 => absurd (by decide) cc17)
          refine qi_if (fun cc18 => ?_) (fun cc18 => ?_)
          · skip
            refine l_gR T pit ?_
            refine l_gO ?_
            refine j_It_allow (v0 := it) (v1 := (x_lk t n (vI h cu 1))) (v2 := (x_lk t n (vI h cu 1))) T kit ?_
            intro hr6i11_19 Thr6i11_19 fr6i11_19_I fr6i11_19_A
            try dsimp only
            refine l_gR Thr6i11_19 pcu ?_
            refine l_gI (e := (vI h cu 1)) (by rw [fr6i11_19_I cu 1 (by omega)]) ?_
            refine l_sI Thr6i11_19 kcu (by decide) rfl ?_
            intro h9i11_20 Th9i11_20 ih9i11_20 ah9i11_20
            refine qi_some ?_
            exact ⟨Th9i11_20, Or.inl ⟨rfl, (by show x_set t n (vI h cu 1) = if x_lk t n (vI h9i11_20 cu 1) = 93 then some (vI h9i11_20 cu 1 + 1) else x_set t n (vI h9i11_20 cu 1); rw [show vI h9i11_20 cu 1 = ((vI h cu 1) + 1) from (by rw [ih9i11_20 cu 1, if_pos ⟨rfl, rfl⟩])] <;> ((try simp only [Int32.add_zero, x_s11, x_s12, x_s21, x_s13, x_s22, x_s31]) <;> (rw [x_se1 n2 (by assumption) (by assumption) (by assumption) (by assumption) (by (first | grind (ematch := 0) | grind))]))), (by show vI h cu 1 < vI h9i11_20 cu 1; rw [show vI h9i11_20 cu 1 = ((vI h cu 1) + 1) from (by rw [ih9i11_20 cu 1, if_pos ⟨rfl, rfl⟩])] <;> (exact x_lp1 n2 (by assumption))), (fun a k na => by rw [ih9i11_20 a k, if_neg (fun z => na (Or.inr (z))), fr6i11_19_I a k (by omega)]), (fun a na => by rw [ah9i11_20 a, fr6i11_19_A a (by omega)])⟩⟩
          · skip
            unfold f_Pr_readRange_87
            refine l_gR T pcu ?_
            refine l_gO ?_
            refine j_Cur_refuse (v0 := cu) (v1 := (0 : Int32)) T kcu ?_
            · intro hr3i21_22 Thr3i21_22
              try dsimp only
              refine qi_zB (fun zb23 => ?_)
              refine qi_some ?_
              exact ⟨Thr3i21_22, Or.inr ⟨rfl, (by show x_set t n (vI h cu 1) = none; first | exact x_se0 tp n2 (by assumption) | (rw [x_se2 n2 (by assumption) (by assumption) (by assumption) (by assumption) (by assumption) (by assumption), if_pos (by (first | grind (ematch := 0) | grind))]) | (exfalso; grind))⟩⟩
      · skip
        refine l_gR T pcu ?_
        refine l_gI (e := (vI h cu 1)) rfl ?_
        refine l_sI T kcu (by decide) rfl ?_
        intro h17_24 Th17_24 ih17_24 ah17_24
        refine l_gR Th17_24 pcu ?_
        refine l_gO ?_
        refine j_Cur_look (v0 := cu) (v1 := (0 : Int32)) (tx := tx) (t := t) (n := n) (e := (x_lk t n (((vI h cu 1) + 2)))) Th17_24 kcu ktx ptx (by show ∀ j, 0 ≤ j → j < n → vA h17_24 (tx + 1) j = t j; rw [show vA h17_24 (tx + 1) = vA h (tx + 1) from (by rw [ah17_24 (tx + 1)])] <;> (first | assumption | with_reducible rfl | grind)) (by show vI h17_24 tx 1 = n; rw [show vI h17_24 tx 1 = (vI h tx 1) from (by rw [ih17_24 tx 1, if_neg (fun z => absurd z.1 (by omega))])] <;> (first | assumption | with_reducible rfl | grind)) (by rw [show vI h17_24 cu 1 = ((vI h cu 1) + 2) from (by rw [ih17_24 cu 1, if_pos ⟨rfl, rfl⟩])]; try simp only [Int32.add_zero, x_s11, x_s12, x_s21, x_s13, x_s22, x_s31]) ?_
        try dsimp only
        refine qi_bs ?_
        unfold f_Pr_readRange_75
        refine j_Pr_isOutsideSets (v0 := (x_lk t n (((vI h cu 1) + 2)))) Th17_24 (fun _ g1r1i26_27_0 => ?_) (fun _ g0r1i26_27_0 g0r1i26_27_1 g0r1i26_27_2 g0r1i26_27_3 => ?_)
        · try dsimp only
          refine qi_if (fun cc28 => absurd cc28 (by decide)) (fun _ => ?_)
          unfold f_Pr_readRange_87
          refine l_gR Th17_24 pcu ?_
          refine l_gO ?_
          refine j_Cur_refuse (v0 := cu) (v1 := (0 : Int32)) Th17_24 kcu ?_
          · intro hr3i29_30 Thr3i29_30
            try dsimp only
            refine qi_zB (fun zb31 => ?_)
            refine qi_some ?_
            exact ⟨Thr3i29_30, Or.inr ⟨rfl, (by show x_set t n (vI h cu 1) = none; first | exact x_se0 tp n2 (by assumption) | (rw [x_se2 n2 (by assumption) (by assumption) (by assumption) (by assumption) (by assumption) (by assumption), if_pos (by (first | grind (ematch := 0) | grind))]) | (exfalso; grind))⟩⟩
        · try dsimp only
          refine qi_if (fun _ => ?_) (fun cc32 => absurd (by decide) cc32)
          refine qi_if (fun cc33 => ?_) (fun cc33 => ?_)
          · skip
            refine l_gR Th17_24 pit ?_
            refine l_gO ?_
            refine j_It_allow (v0 := it) (v1 := (x_lk t n (vI h cu 1))) (v2 := (x_lk t n (((vI h cu 1) + 2)))) Th17_24 kit ?_
            intro hr6i26_34 Thr6i26_34 fr6i26_34_I fr6i26_34_A
            try dsimp only
            refine l_gR Thr6i26_34 pcu ?_
            refine l_gI (e := ((vI h cu 1) + 2)) (by rw [fr6i26_34_I cu 1 (by omega), ih17_24 cu 1, if_pos ⟨rfl, rfl⟩]) ?_
            refine l_sI Thr6i26_34 kcu (by decide) rfl ?_
            intro h9i26_35 Th9i26_35 ih9i26_35 ah9i26_35
            refine qi_some ?_
            exact ⟨Th9i26_35, Or.inl ⟨rfl, (by show x_set t n (vI h cu 1) = if x_lk t n (vI h9i26_35 cu 1) = 93 then some (vI h9i26_35 cu 1 + 1) else x_set t n (vI h9i26_35 cu 1); rw [show vI h9i26_35 cu 1 = (((vI h cu 1) + 2) + 1) from (by rw [ih9i26_35 cu 1, if_pos ⟨rfl, rfl⟩])] <;> ((try simp only [Int32.add_zero, x_s11, x_s12, x_s21, x_s13, x_s22, x_s31]) <;> (rw [x_se2 n2 (by assumption) (by assumption) (by assumption) (by assumption) (by assumption) (by assumption), if_neg (by (first | grind (ematch := 0) | grind))]))), (by show vI h cu 1 < vI h9i26_35 cu 1; rw [show vI h9i26_35 cu 1 = (((vI h cu 1) + 2) + 1) from (by rw [ih9i26_35 cu 1, if_pos ⟨rfl, rfl⟩])] <;> ((try simp only [Int32.add_zero, x_s11, x_s12, x_s21, x_s13, x_s22, x_s31]) <;> (exact x_lp3 n2 (by assumption)))), (fun a k na => by rw [ih9i26_35 a k, if_neg (fun z => na (Or.inr (z))), fr6i26_34_I a k (by omega), ih17_24 a k, if_neg (fun z => na (Or.inr (z)))]), (fun a na => by rw [ah9i26_35 a, fr6i26_34_A a (by omega), ah17_24 a])⟩⟩
          · skip
            unfold f_Pr_readRange_87
            refine l_gR Th17_24 pcu ?_
            refine l_gO ?_
            refine j_Cur_refuse (v0 := cu) (v1 := (0 : Int32)) Th17_24 kcu ?_
            · intro hr3i36_37 Thr3i36_37
              try dsimp only
              refine qi_zB (fun zb38 => ?_)
              refine qi_some ?_
              exact ⟨Thr3i36_37, Or.inr ⟨rfl, (by show x_set t n (vI h cu 1) = none; first | exact x_se0 tp n2 (by assumption) | (rw [x_se2 n2 (by assumption) (by assumption) (by assumption) (by assumption) (by assumption) (by assumption), if_pos (by (first | grind (ematch := 0) | grind))]) | (exfalso; grind))⟩⟩
    · skip
      unfold f_Pr_readRange_75
      refine j_Pr_isOutsideSets (v0 := (x_lk t n (vI h cu 1))) T (fun _ g1r1i39_40_0 => ?_) (fun _ g0r1i39_40_0 g0r1i39_40_1 g0r1i39_40_2 g0r1i39_40_3 => ?_)
      · try dsimp only
        refine qi_if (fun cc41 => absurd cc41 (by decide)) (fun _ => ?_)
        unfold f_Pr_readRange_87
        refine l_gR T pcu ?_
        refine l_gO ?_
        refine j_Cur_refuse (v0 := cu) (v1 := (0 : Int32)) T kcu ?_
        · intro hr3i42_43 Thr3i42_43
          try dsimp only
          refine qi_zB (fun zb44 => ?_)
          refine qi_some ?_
          exact ⟨Thr3i42_43, Or.inr ⟨rfl, (by show x_set t n (vI h cu 1) = none; first | exact x_se0 tp n2 (by assumption) | (rw [x_se2 n2 (by assumption) (by assumption) (by assumption) (by assumption) (by assumption) (by assumption), if_pos (by (first | grind (ematch := 0) | grind))]) | (exfalso; grind))⟩⟩
      · try dsimp only
        refine qi_if (fun _ => ?_) (fun cc45 => absurd (by decide) cc45)
        refine qi_if (fun cc46 => ?_) (fun cc46 => ?_)
        · skip
          refine l_gR T pit ?_
          refine l_gO ?_
          refine j_It_allow (v0 := it) (v1 := (x_lk t n (vI h cu 1))) (v2 := (x_lk t n (vI h cu 1))) T kit ?_
          intro hr6i39_47 Thr6i39_47 fr6i39_47_I fr6i39_47_A
          try dsimp only
          refine l_gR Thr6i39_47 pcu ?_
          refine l_gI (e := (vI h cu 1)) (by rw [fr6i39_47_I cu 1 (by omega)]) ?_
          refine l_sI Thr6i39_47 kcu (by decide) rfl ?_
          intro h9i39_48 Th9i39_48 ih9i39_48 ah9i39_48
          refine qi_some ?_
          exact ⟨Th9i39_48, Or.inl ⟨rfl, (by show x_set t n (vI h cu 1) = if x_lk t n (vI h9i39_48 cu 1) = 93 then some (vI h9i39_48 cu 1 + 1) else x_set t n (vI h9i39_48 cu 1); rw [show vI h9i39_48 cu 1 = ((vI h cu 1) + 1) from (by rw [ih9i39_48 cu 1, if_pos ⟨rfl, rfl⟩])] <;> ((try simp only [Int32.add_zero, x_s11, x_s12, x_s21, x_s13, x_s22, x_s31]) <;> (rw [x_se1 n2 (by assumption) (by assumption) (by assumption) (by assumption) (by (first | grind (ematch := 0) | grind))]))), (by show vI h cu 1 < vI h9i39_48 cu 1; rw [show vI h9i39_48 cu 1 = ((vI h cu 1) + 1) from (by rw [ih9i39_48 cu 1, if_pos ⟨rfl, rfl⟩])] <;> (exact x_lp1 n2 (by assumption))), (fun a k na => by rw [ih9i39_48 a k, if_neg (fun z => na (Or.inr (z))), fr6i39_47_I a k (by omega)]), (fun a na => by rw [ah9i39_48 a, fr6i39_47_A a (by omega)])⟩⟩
        · skip
          unfold f_Pr_readRange_87
          refine l_gR T pcu ?_
          refine l_gO ?_
          refine j_Cur_refuse (v0 := cu) (v1 := (0 : Int32)) T kcu ?_
          · intro hr3i49_50 Thr3i49_50
            try dsimp only
            refine qi_zB (fun zb51 => ?_)
            refine qi_some ?_
            exact ⟨Thr3i49_50, Or.inr ⟨rfl, (by show x_set t n (vI h cu 1) = none; first | exact x_se0 tp n2 (by assumption) | (rw [x_se2 n2 (by assumption) (by assumption) (by assumption) (by assumption) (by assumption) (by assumption), if_pos (by (first | grind (ematch := 0) | grind))]) | (exfalso; grind))⟩⟩
theorem j_Pr_readRange {L : q_L} {π : Nat → Nat → Option Nat} {N : Nat} {cu : Nat} {it : Nat} {pt : Nat} {tx : Nat} {t : Int32 → Int32} {n : Int32} {h : z_H} {v0 : Nat} {β : Type} {f : Int32 × z_H → Option β} {Q : β → Prop} (T : x_U L π h) (kv0 : qκ L v0 = 9) (kcu : qκ L cu = 3) (pcu : π v0 0 = some cu) (kit : qκ L it = 5) (pit : π v0 1 = some it) (kpt : qκ L pt = 8) (ppt : π v0 2 = some pt) (ktx : qκ L tx = 11) (ptx : π cu 0 = some tx) (ht : ∀ j, 0 ≤ j → j < n → vA h (tx + 1) j = t j) (hn : vI h tx 1 = n) (n1 : n ≤ 240) (tp : ∀ j, t j ≠ -1) (D : cu + 1 = v0 ∧ v0 + 4 ≤ tx ∧ it = tx + 2 ∧ it + 6 ≤ pt) (gb : 0 ≤ vI h pt 6 ∧ vI h pt 6 ≤ 3) (a0 : 0 ≤ vI h cu 1) (H1 : ∀ h', x_U L π h' → (x_set t n (vI h cu 1) = if x_lk t n (vI h' cu 1) = 93 then some (vI h' cu 1 + 1) else x_set t n (vI h' cu 1)) → (vI h cu 1 < vI h' cu 1) → (∀ a k, ¬ ((a = cu ∧ k = 2) ∨ (a = cu ∧ k = 1)) → vI h' a k = vI h a k) → (∀ a, ¬ (a < a) → vA h' a = vA h a) → qi (f (1, h')) Q) (H0 : ∀ h', x_U L π h' → (x_set t n (vI h cu 1) = none) → qi (f (0, h')) Q) : qi (z_b (f_Pr_readRange N v0 h) f) Q := by
  refine qi_b (i_Pr_readRange  T kv0 kcu pcu kit pit kpt ppt ktx ptx ht hn n1 tp D gb a0) ?_
  rintro ⟨y, hz⟩ ⟨Tz, ⟨ey, g0, g1, g2, g3⟩ | ⟨ey, g0⟩⟩
  · dsimp only at *; subst ey; exact H1 hz Tz g0 g1 g2 g3
  · dsimp only at *; subst ey; exact H0 hz Tz g0

set_option maxHeartbeats 2000000 in
theorem i_Pr_readSet_62 {L : q_L} {π : Nat → Nat → Option Nat} {N : Nat} {cu : Nat} {it : Nat} {pt : Nat} {tx : Nat} {t : Int32 → Int32} {n : Int32} : ∀ (m9 : Nat) (v0 : Nat) (v1 : Int32) (v2 : Int32) (v3 : Int32) (h : z_H), x_U L π h → qκ L v0 = 9 → (qκ L cu = 3) → (π v0 0 = some cu) → (qκ L it = 5) → (π v0 1 = some it) → (qκ L pt = 8) → (π v0 2 = some pt) → (qκ L tx = 11) → (π cu 0 = some tx) → (∀ j, 0 ≤ j → j < n → vA h (tx + 1) j = t j) → (vI h tx 1 = n) → (n ≤ 240) → (∀ j, t j ≠ -1) → (cu + 1 = v0 ∧ v0 + 4 ≤ tx ∧ it = tx + 2 ∧ it + 6 ≤ pt) → (0 ≤ vI h pt 6 ∧ vI h pt 6 ≤ 3) → (0 ≤ vI h cu 1) → (v2 = 0 ∨ v2 = 1) → (v2 = 1 → x_lk t n (vI h cu 1) = 93) → (v3 ≤ vI h cu 1) → qi (f_Pr_readSet_62 N m9 v0 v1 v2 v3 h) (fun r => x_U L π r.2 ∧ ((r.1 = 1 ∧ ((if v2 = 0 then x_set t n (vI h cu 1) else some (vI h cu 1 + 1)) = some (vI r.2 cu 1)) ∧ (∀ a k, ¬ ((a = cu ∧ k = 1) ∨ (a = cu ∧ k = 2)) → vI r.2 a k = vI h a k) ∧ (∀ a, ¬ (a < a) → vA r.2 a = vA h a)) ∨ (r.1 = 0 ∧ ((if v2 = 0 then x_set t n (vI h cu 1) else some (vI h cu 1 + 1)) = none)))) := by
  intro m9
  induction m9 with
  | zero => intro v0 v1 v2 v3 h T kv0 kcu pcu kit pit kpt ppt ktx ptx ht hn n1 tp D gb a0 w01 w1 hs r e; rw [f_Pr_readSet_62] at e; cases e
  | succ m9 ih =>
    intro v0 v1 v2 v3 h T kv0 kcu pcu kit pit kpt ppt ktx ptx ht hn n1 tp D gb a0 w01 w1 hs
    rw [f_Pr_readSet_62]
    have n2 : n ≤ 1000 := Int32.le_trans n1 (by decide)
    refine qi_if (fun cc1 => ?_) (fun cc1 => ?_)
    · skip
      unfold f_Pr_readSet_107
      refine qi_if (fun cc3 => ?_) (fun cc3 => ?_)
      · skip
        unfold f_Pr_readSet_118
        refine l_gR T pcu ?_
        refine l_gO ?_
        refine j_Cur_pass (v0 := cu) (v1 := (93 : Int32)) (tx := tx) (t := t) (n := n) T kcu ktx ptx ht hn ?_ ?_
        · intro hr3i4_5 Thr3i4_5 g1r3i4_5_0 g1r3i4_5_1 f1r3i4_5_I f1r3i4_5_A
          try dsimp only
          refine qi_zB (fun zb6 => ?_)
          refine qi_some ?_
          exact ⟨Thr3i4_5, Or.inl ⟨rfl, (by show (if v2 = 0 then x_set t n (vI h cu 1) else some (vI h cu 1 + 1)) = some (vI hr3i4_5 cu 1); rw [show vI hr3i4_5 cu 1 = (vI h cu 1 + 1) from (by rw [g1r3i4_5_0])] <;> (first | grind | (have q := x_seo (t := t) (x_lim hs (by assumption) n1); have q2 := x_lk_out (t := t) (x_lim hs (by assumption) n1); grind))), (fun a k na => by rw [f1r3i4_5_I a k (fun z => na (z.elim (fun z => Or.inl z) (fun z => Or.inr (z))))]), (fun a na => by rw [f1r3i4_5_A a (by omega)])⟩⟩
        · intro hr3i4_5 Thr3i4_5 g0r3i4_5_0
          try dsimp only
          refine qi_zB (fun zb7 => ?_)
          refine qi_some ?_
          exact ⟨Thr3i4_5, Or.inr ⟨rfl, (by show (if v2 = 0 then x_set t n (vI h cu 1) else some (vI h cu 1 + 1)) = none; first | grind | (have q := x_seo (t := t) (x_lim hs (by assumption) n1); have q2 := x_lk_out (t := t) (x_lim hs (by assumption) n1); grind))⟩⟩
      · skip
        refine l_gR T pit ?_
        refine l_gO ?_
        refine j_It_turn (v0 := it) T kit ?_
        intro hr4i2_8 Thr4i2_8 fr4i2_8_I fr4i2_8_A
        try dsimp only
        unfold f_Pr_readSet_118
        refine l_gR Thr4i2_8 pcu ?_
        refine l_gO ?_
        refine j_Cur_pass (v0 := cu) (v1 := (93 : Int32)) (tx := tx) (t := t) (n := n) Thr4i2_8 kcu ktx ptx (by show ∀ j, 0 ≤ j → j < n → vA hr4i2_8 (tx + 1) j = t j; rw [show vA hr4i2_8 (tx + 1) = vA h (tx + 1) from (by rw [fr4i2_8_A (tx + 1) (by omega)])] <;> (first | assumption | with_reducible rfl | grind)) (by show vI hr4i2_8 tx 1 = n; rw [show vI hr4i2_8 tx 1 = (vI h tx 1) from (by rw [fr4i2_8_I tx 1 (by omega)])] <;> (first | assumption | with_reducible rfl | grind)) ?_ ?_
        · intro hr3i9_10 Thr3i9_10 g1r3i9_10_0 g1r3i9_10_1 f1r3i9_10_I f1r3i9_10_A
          try dsimp only
          rw [show vI hr4i2_8 cu 1 = (vI h cu 1) from (by rw [fr4i2_8_I cu 1 (by omega)])] at g1r3i9_10_0
          rw [show vI hr4i2_8 cu 1 = (vI h cu 1) from (by rw [fr4i2_8_I cu 1 (by omega)])] at g1r3i9_10_1
          refine qi_zB (fun zb11 => ?_)
          refine qi_some ?_
          exact ⟨Thr3i9_10, Or.inl ⟨rfl, (by show (if v2 = 0 then x_set t n (vI h cu 1) else some (vI h cu 1 + 1)) = some (vI hr3i9_10 cu 1); rw [show vI hr3i9_10 cu 1 = ((vI h cu 1) + 1) from (by rw [g1r3i9_10_0])] <;> (first | grind | (have q := x_seo (t := t) (x_lim hs (by assumption) n1); have q2 := x_lk_out (t := t) (x_lim hs (by assumption) n1); grind))), (fun a k na => by rw [f1r3i9_10_I a k (fun z => na (z.elim (fun z => Or.inl z) (fun z => Or.inr (z)))), fr4i2_8_I a k (by omega)]), (fun a na => by rw [f1r3i9_10_A a (by omega), fr4i2_8_A a (by omega)])⟩⟩
        · intro hr3i9_10 Thr3i9_10 g0r3i9_10_0
          try dsimp only
          rw [show vI hr4i2_8 cu 1 = (vI h cu 1) from (by rw [fr4i2_8_I cu 1 (by omega)])] at g0r3i9_10_0
          refine qi_zB (fun zb12 => ?_)
          refine qi_some ?_
          exact ⟨Thr3i9_10, Or.inr ⟨rfl, (by show (if v2 = 0 then x_set t n (vI h cu 1) else some (vI h cu 1 + 1)) = none; first | grind | (have q := x_seo (t := t) (x_lim hs (by assumption) n1); have q2 := x_lk_out (t := t) (x_lim hs (by assumption) n1); grind))⟩⟩
    · skip
      refine qi_if (fun cc13 => ?_) (fun cc13 => ?_)
      · skip
        refine l_gO ?_
        refine j_Pr_readRange (v0 := v0) (cu := cu) (it := it) (pt := pt) (tx := tx) (t := t) (n := n) T kv0 kcu pcu kit pit kpt ppt ktx ptx ht hn n1 tp D gb a0 ?_ ?_
        · intro hr4_14 Thr4_14 g1r4_14_0 g1r4_14_1 f1r4_14_I f1r4_14_A
          try dsimp only
          refine qi_if (fun cc15 => absurd cc15 (by decide)) (fun _ => ?_)
          refine l_gR Thr4_14 pcu ?_
          refine l_gO ?_
          refine j_Cur_look (v0 := cu) (v1 := (0 : Int32)) (tx := tx) (t := t) (n := n) (e := (x_lk t n (vI hr4_14 cu 1))) Thr4_14 kcu ktx ptx (by show ∀ j, 0 ≤ j → j < n → vA hr4_14 (tx + 1) j = t j; rw [show vA hr4_14 (tx + 1) = vA h (tx + 1) from (by rw [f1r4_14_A (tx + 1) (by omega)])] <;> (first | assumption | with_reducible rfl | grind)) (by show vI hr4_14 tx 1 = n; rw [show vI hr4_14 tx 1 = (vI h tx 1) from (by rw [f1r4_14_I tx 1 (by omega)])] <;> (first | assumption | with_reducible rfl | grind)) (by simp only [Int32.add_zero, x_s11, x_s12, x_s21, x_s13, x_s22, x_s31]) ?_
          try dsimp only
          refine qi_if (fun cc17 => ?_) (fun cc17 => ?_)
          · skip
            refine qi_bs ?_
            refine qi_mono (ih v0 v1 (1 : Int32) (v3 + 1) hr4_14 Thr4_14 kv0 kcu pcu kit pit kpt ppt ktx ptx (by show ∀ j, 0 ≤ j → j < n → vA hr4_14 (tx + 1) j = t j; rw [show vA hr4_14 (tx + 1) = vA h (tx + 1) from (by rw [f1r4_14_A (tx + 1) (by omega)])] <;> (first | assumption | with_reducible rfl | grind)) (by show vI hr4_14 tx 1 = n; rw [show vI hr4_14 tx 1 = (vI h tx 1) from (by rw [f1r4_14_I tx 1 (by omega)])] <;> (first | assumption | with_reducible rfl | grind)) n1 tp D (by show 0 ≤ vI hr4_14 pt 6 ∧ vI hr4_14 pt 6 ≤ 3; rw [show vI hr4_14 pt 6 = (vI h pt 6) from (by rw [f1r4_14_I pt 6 (by omega)])] <;> (first | assumption | with_reducible rfl | grind)) (by show 0 ≤ vI hr4_14 cu 1; exact x_0le a0 (by assumption)) (by show (1 : Int32) = 0 ∨ (1 : Int32) = 1; decide) (by show (1 : Int32) = 1 → x_lk t n (vI hr4_14 cu 1) = 93; grind) (by show (v3 + 1) ≤ vI hr4_14 cu 1; exact x_stp hs (by assumption) (by assumption))) ?_
            rintro ⟨y, hrz18_19⟩ ⟨Thrz18_19, ⟨ey, g1rz18_19_0, f1rz18_19_I, f1rz18_19_A⟩ | ⟨ey, g0rz18_19_0⟩⟩
            · dsimp only at *
              subst ey
              rw [if_neg (by decide)] at g1rz18_19_0
              exact ⟨Thrz18_19, Or.inl ⟨rfl, (by show (if v2 = 0 then x_set t n (vI h cu 1) else some (vI h cu 1 + 1)) = some (vI hrz18_19 cu 1); first | grind | (have q := x_seo (t := t) (x_lim hs (by assumption) n1); have q2 := x_lk_out (t := t) (x_lim hs (by assumption) n1); grind)), (fun a k na => by rw [f1rz18_19_I a k (fun z => na (z.elim (fun z => Or.inl z) (fun z => Or.inr (z)))), f1r4_14_I a k (fun z => na (z.elim (fun z => Or.inr (z)) (fun z => Or.inl z)))]), (fun a na => by rw [f1rz18_19_A a (by omega), f1r4_14_A a (by omega)])⟩⟩
            · dsimp only at *
              subst ey
              rw [if_neg (by decide)] at g0rz18_19_0
              exact ⟨Thrz18_19, Or.inr ⟨rfl, (by show (if v2 = 0 then x_set t n (vI h cu 1) else some (vI h cu 1 + 1)) = none; first | grind | (have q := x_seo (t := t) (x_lim hs (by assumption) n1); have q2 := x_lk_out (t := t) (x_lim hs (by assumption) n1); grind))⟩⟩
          · skip
            refine qi_bs ?_
            refine qi_mono (ih v0 v1 (0 : Int32) (v3 + 1) hr4_14 Thr4_14 kv0 kcu pcu kit pit kpt ppt ktx ptx (by show ∀ j, 0 ≤ j → j < n → vA hr4_14 (tx + 1) j = t j; rw [show vA hr4_14 (tx + 1) = vA h (tx + 1) from (by rw [f1r4_14_A (tx + 1) (by omega)])] <;> (first | assumption | with_reducible rfl | grind)) (by show vI hr4_14 tx 1 = n; rw [show vI hr4_14 tx 1 = (vI h tx 1) from (by rw [f1r4_14_I tx 1 (by omega)])] <;> (first | assumption | with_reducible rfl | grind)) n1 tp D (by show 0 ≤ vI hr4_14 pt 6 ∧ vI hr4_14 pt 6 ≤ 3; rw [show vI hr4_14 pt 6 = (vI h pt 6) from (by rw [f1r4_14_I pt 6 (by omega)])] <;> (first | assumption | with_reducible rfl | grind)) (by show 0 ≤ vI hr4_14 cu 1; exact x_0le a0 (by assumption)) (by show (0 : Int32) = 0 ∨ (0 : Int32) = 1; decide) (by show (0 : Int32) = 1 → x_lk t n (vI hr4_14 cu 1) = 93; grind) (by show (v3 + 1) ≤ vI hr4_14 cu 1; exact x_stp hs (by assumption) (by assumption))) ?_
            rintro ⟨y, hrz20_21⟩ ⟨Thrz20_21, ⟨ey, g1rz20_21_0, f1rz20_21_I, f1rz20_21_A⟩ | ⟨ey, g0rz20_21_0⟩⟩
            · dsimp only at *
              subst ey
              rw [if_pos (by decide)] at g1rz20_21_0
              exact ⟨Thrz20_21, Or.inl ⟨rfl, (by show (if v2 = 0 then x_set t n (vI h cu 1) else some (vI h cu 1 + 1)) = some (vI hrz20_21 cu 1); first | grind | (have q := x_seo (t := t) (x_lim hs (by assumption) n1); have q2 := x_lk_out (t := t) (x_lim hs (by assumption) n1); grind)), (fun a k na => by rw [f1rz20_21_I a k (fun z => na (z.elim (fun z => Or.inl z) (fun z => Or.inr (z)))), f1r4_14_I a k (fun z => na (z.elim (fun z => Or.inr (z)) (fun z => Or.inl z)))]), (fun a na => by rw [f1rz20_21_A a (by omega), f1r4_14_A a (by omega)])⟩⟩
            · dsimp only at *
              subst ey
              rw [if_pos (by decide)] at g0rz20_21_0
              exact ⟨Thrz20_21, Or.inr ⟨rfl, (by show (if v2 = 0 then x_set t n (vI h cu 1) else some (vI h cu 1 + 1)) = none; first | grind | (have q := x_seo (t := t) (x_lim hs (by assumption) n1); have q2 := x_lk_out (t := t) (x_lim hs (by assumption) n1); grind))⟩⟩
        · intro hr4_14 Thr4_14 g0r4_14_0
          try dsimp only
          refine qi_if (fun _ => ?_) (fun cc22 => absurd (by decide) cc22)
          refine qi_some ?_
          exact ⟨Thr4_14, Or.inr ⟨rfl, (by show (if v2 = 0 then x_set t n (vI h cu 1) else some (vI h cu 1 + 1)) = none; first | grind | (have q := x_seo (t := t) (x_lim hs (by assumption) n1); have q2 := x_lk_out (t := t) (x_lim hs (by assumption) n1); grind))⟩⟩
      · skip
        unfold f_Pr_readSet_107
        refine qi_if (fun cc24 => ?_) (fun cc24 => ?_)
        · skip
          unfold f_Pr_readSet_118
          refine l_gR T pcu ?_
          refine l_gO ?_
          refine j_Cur_pass (v0 := cu) (v1 := (93 : Int32)) (tx := tx) (t := t) (n := n) T kcu ktx ptx ht hn ?_ ?_
          · intro hr3i25_26 Thr3i25_26 g1r3i25_26_0 g1r3i25_26_1 f1r3i25_26_I f1r3i25_26_A
            try dsimp only
            refine qi_zB (fun zb27 => ?_)
            refine qi_some ?_
            exact ⟨Thr3i25_26, Or.inl ⟨rfl, (by show (if v2 = 0 then x_set t n (vI h cu 1) else some (vI h cu 1 + 1)) = some (vI hr3i25_26 cu 1); rw [show vI hr3i25_26 cu 1 = (vI h cu 1 + 1) from (by rw [g1r3i25_26_0])] <;> (first | grind | (have q := x_seo (t := t) (x_lim hs (by assumption) n1); have q2 := x_lk_out (t := t) (x_lim hs (by assumption) n1); grind))), (fun a k na => by rw [f1r3i25_26_I a k (fun z => na (z.elim (fun z => Or.inl z) (fun z => Or.inr (z))))]), (fun a na => by rw [f1r3i25_26_A a (by omega)])⟩⟩
          · intro hr3i25_26 Thr3i25_26 g0r3i25_26_0
            try dsimp only
            refine qi_zB (fun zb28 => ?_)
            refine qi_some ?_
            exact ⟨Thr3i25_26, Or.inr ⟨rfl, (by show (if v2 = 0 then x_set t n (vI h cu 1) else some (vI h cu 1 + 1)) = none; first | grind | (have q := x_seo (t := t) (x_lim hs (by assumption) n1); have q2 := x_lk_out (t := t) (x_lim hs (by assumption) n1); grind))⟩⟩
        · skip
          refine l_gR T pit ?_
          refine l_gO ?_
          refine j_It_turn (v0 := it) T kit ?_
          intro hr4i23_29 Thr4i23_29 fr4i23_29_I fr4i23_29_A
          try dsimp only
          unfold f_Pr_readSet_118
          refine l_gR Thr4i23_29 pcu ?_
          refine l_gO ?_
          refine j_Cur_pass (v0 := cu) (v1 := (93 : Int32)) (tx := tx) (t := t) (n := n) Thr4i23_29 kcu ktx ptx (by show ∀ j, 0 ≤ j → j < n → vA hr4i23_29 (tx + 1) j = t j; rw [show vA hr4i23_29 (tx + 1) = vA h (tx + 1) from (by rw [fr4i23_29_A (tx + 1) (by omega)])] <;> (first | assumption | with_reducible rfl | grind)) (by show vI hr4i23_29 tx 1 = n; rw [show vI hr4i23_29 tx 1 = (vI h tx 1) from (by rw [fr4i23_29_I tx 1 (by omega)])] <;> (first | assumption | with_reducible rfl | grind)) ?_ ?_
          · intro hr3i30_31 Thr3i30_31 g1r3i30_31_0 g1r3i30_31_1 f1r3i30_31_I f1r3i30_31_A
            try dsimp only
            rw [show vI hr4i23_29 cu 1 = (vI h cu 1) from (by rw [fr4i23_29_I cu 1 (by omega)])] at g1r3i30_31_0
            rw [show vI hr4i23_29 cu 1 = (vI h cu 1) from (by rw [fr4i23_29_I cu 1 (by omega)])] at g1r3i30_31_1
            refine qi_zB (fun zb32 => ?_)
            refine qi_some ?_
            exact ⟨Thr3i30_31, Or.inl ⟨rfl, (by show (if v2 = 0 then x_set t n (vI h cu 1) else some (vI h cu 1 + 1)) = some (vI hr3i30_31 cu 1); rw [show vI hr3i30_31 cu 1 = ((vI h cu 1) + 1) from (by rw [g1r3i30_31_0])] <;> (first | grind | (have q := x_seo (t := t) (x_lim hs (by assumption) n1); have q2 := x_lk_out (t := t) (x_lim hs (by assumption) n1); grind))), (fun a k na => by rw [f1r3i30_31_I a k (fun z => na (z.elim (fun z => Or.inl z) (fun z => Or.inr (z)))), fr4i23_29_I a k (by omega)]), (fun a na => by rw [f1r3i30_31_A a (by omega), fr4i23_29_A a (by omega)])⟩⟩
          · intro hr3i30_31 Thr3i30_31 g0r3i30_31_0
            try dsimp only
            rw [show vI hr4i23_29 cu 1 = (vI h cu 1) from (by rw [fr4i23_29_I cu 1 (by omega)])] at g0r3i30_31_0
            refine qi_zB (fun zb33 => ?_)
            refine qi_some ?_
            exact ⟨Thr3i30_31, Or.inr ⟨rfl, (by show (if v2 = 0 then x_set t n (vI h cu 1) else some (vI h cu 1 + 1)) = none; first | grind | (have q := x_seo (t := t) (x_lim hs (by assumption) n1); have q2 := x_lk_out (t := t) (x_lim hs (by assumption) n1); grind))⟩⟩
theorem j_Pr_readSet_62 {L : q_L} {π : Nat → Nat → Option Nat} {N : Nat} {cu : Nat} {it : Nat} {pt : Nat} {tx : Nat} {t : Int32 → Int32} {n : Int32} {m9 : Nat} {h : z_H} {v0 : Nat} {v1 : Int32} {v2 : Int32} {v3 : Int32} {β : Type} {f : Int32 × z_H → Option β} {Q : β → Prop} (T : x_U L π h) (kv0 : qκ L v0 = 9) (kcu : qκ L cu = 3) (pcu : π v0 0 = some cu) (kit : qκ L it = 5) (pit : π v0 1 = some it) (kpt : qκ L pt = 8) (ppt : π v0 2 = some pt) (ktx : qκ L tx = 11) (ptx : π cu 0 = some tx) (ht : ∀ j, 0 ≤ j → j < n → vA h (tx + 1) j = t j) (hn : vI h tx 1 = n) (n1 : n ≤ 240) (tp : ∀ j, t j ≠ -1) (D : cu + 1 = v0 ∧ v0 + 4 ≤ tx ∧ it = tx + 2 ∧ it + 6 ≤ pt) (gb : 0 ≤ vI h pt 6 ∧ vI h pt 6 ≤ 3) (a0 : 0 ≤ vI h cu 1) (w01 : v2 = 0 ∨ v2 = 1) (w1 : v2 = 1 → x_lk t n (vI h cu 1) = 93) (hs : v3 ≤ vI h cu 1) (H1 : ∀ h', x_U L π h' → ((if v2 = 0 then x_set t n (vI h cu 1) else some (vI h cu 1 + 1)) = some (vI h' cu 1)) → (∀ a k, ¬ ((a = cu ∧ k = 1) ∨ (a = cu ∧ k = 2)) → vI h' a k = vI h a k) → (∀ a, ¬ (a < a) → vA h' a = vA h a) → qi (f (1, h')) Q) (H0 : ∀ h', x_U L π h' → ((if v2 = 0 then x_set t n (vI h cu 1) else some (vI h cu 1 + 1)) = none) → qi (f (0, h')) Q) : qi (z_b (f_Pr_readSet_62 N m9 v0 v1 v2 v3 h) f) Q := by
  refine qi_b (i_Pr_readSet_62 m9 v0 v1 v2 v3 h  T kv0 kcu pcu kit pit kpt ppt ktx ptx ht hn n1 tp D gb a0 w01 w1 hs) ?_
  rintro ⟨y, hz⟩ ⟨Tz, ⟨ey, g0, g1, g2⟩ | ⟨ey, g0⟩⟩
  · dsimp only at *; subst ey; exact H1 hz Tz g0 g1 g2
  · dsimp only at *; subst ey; exact H0 hz Tz g0

