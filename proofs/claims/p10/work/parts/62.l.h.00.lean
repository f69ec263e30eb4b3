set_option maxHeartbeats 2000000 in
theorem i_Pr_readStar {L : q_L} {π : Nat → Nat → Option Nat} {N : Nat} {cu : Nat} {it : Nat} {pt : Nat} {tx : Nat} {t : Int32 → Int32} {n : Int32} {h : z_H} {v0 : Nat} (T : x_U L π h) (kv0 : qκ L v0 = 9) (kcu : qκ L cu = 3) (pcu : π v0 0 = some cu) (kit : qκ L it = 5) (pit : π v0 1 = some it) (kpt : qκ L pt = 8) (ppt : π v0 2 = some pt) (ktx : qκ L tx = 11) (ptx : π cu 0 = some tx) (ht : ∀ j, 0 ≤ j → j < n → vA h (tx + 1) j = t j) (hn : vI h tx 1 = n) (n1 : n ≤ 240) (tp : ∀ j, t j ≠ -1) (D : cu + 1 = v0 ∧ v0 + 4 ≤ tx ∧ it = tx + 2 ∧ it + 6 ≤ pt) (gb : 0 ≤ vI h pt 6 ∧ vI h pt 6 ≤ 3) (a0 : 0 ≤ vI h cu 1) (c : x_lk t n (vI h cu 1) = 42) : qi (f_Pr_readStar N v0 h) (fun r => x_U L π r.2 ∧ ((r.1 = 1 ∧ (x_pat t n (vI h cu 1) (vI h v0 3) (vI h v0 4) (vI h pt 6) (vI h v0 5) (vI h v0 6) = x_pat t n (vI r.2 cu 1) (vI r.2 v0 3) (vI r.2 v0 4) (vI r.2 pt 6) (vI r.2 v0 5) (vI r.2 v0 6)) ∧ (vI h cu 1 < vI r.2 cu 1) ∧ (0 ≤ vI r.2 pt 6 ∧ vI r.2 pt 6 ≤ 3) ∧ (∀ a k, ¬ ((a = cu ∧ k = 2) ∨ (a = pt ∧ k = 4) ∨ (a = v0 ∧ k = 4) ∨ (a = v0 ∧ k = 6) ∨ (a = cu ∧ k = 1) ∨ (a = pt ∧ k = 5)) → vI r.2 a k = vI h a k) ∧ (∀ a, ¬ (a < a) → vA r.2 a = vA h a)) ∨ (r.1 = 0 ∧ (x_pat t n (vI h cu 1) (vI h v0 3) (vI h v0 4) (vI h pt 6) (vI h v0 5) (vI h v0 6) = none)))) := by
  have n2 : n ≤ 1000 := Int32.le_trans n1 (by decide)
  unfold f_Pr_readStar
  refine l_gI (e := (vI h v0 6)) rfl ?_
  refine qi_if (fun cc1 => ?_) (fun cc1 => ?_)
  · skip
    unfold f_Pr_readStar_15
    refine l_gR T pcu ?_
    refine l_gO ?_
    refine j_Cur_refuse (v0 := cu) (v1 := (0 : Int32)) T kcu ?_
    · intro hr3i2_3 Thr3i2_3
      try dsimp only
      refine qi_zB (fun zb4 => ?_)
      refine qi_some ?_
      exact ⟨Thr3i2_3, Or.inr ⟨rfl, (by show x_pat t n (vI h cu 1) (vI h v0 3) (vI h v0 4) (vI h pt 6) (vI h v0 5) (vI h v0 6) = none; rw [x_q42 n2 c, if_pos (by (first | grind (ematch := 0) | grind))])⟩⟩
  · skip
    refine l_gI (e := (vI h v0 4)) rfl ?_
    refine qi_if (fun cc5 => ?_) (fun cc5 => ?_)
    · skip
      unfold f_Pr_readStar_15
      refine l_gR T pcu ?_
      refine l_gO ?_
      refine j_Cur_refuse (v0 := cu) (v1 := (0 : Int32)) T kcu ?_
      · intro hr3i6_7 Thr3i6_7
        try dsimp only
        refine qi_zB (fun zb8 => ?_)
        refine qi_some ?_
        exact ⟨Thr3i6_7, Or.inr ⟨rfl, (by show x_pat t n (vI h cu 1) (vI h v0 3) (vI h v0 4) (vI h pt 6) (vI h v0 5) (vI h v0 6) = none; rw [x_q42 n2 c, if_pos (by (first | grind (ematch := 0) | grind))])⟩⟩
    · skip
      refine l_gI (e := (vI h v0 4)) rfl ?_
      refine qi_if (fun cc9 => ?_) (fun cc9 => ?_)
      · skip
        refine l_gR T ppt ?_
        refine l_gR T pit ?_
        refine l_gI (e := (vI h it 4)) rfl ?_
        refine l_sI T kpt (by decide) rfl ?_
        intro h14_10 Th14_10 ih14_10 ah14_10
        unfold f_Pr_readStar_66
        refine l_gI (e := (vI h v0 4)) (by rw [ih14_10 v0 4, if_neg (fun z => absurd z.1 (by omega))]) ?_
        refine l_sI Th14_10 kv0 (by decide) rfl ?_
        intro h2i11_12 Th2i11_12 ih2i11_12 ah2i11_12
        refine l_sI Th2i11_12 kv0 (by decide) rfl ?_
        intro h3i11_13 Th3i11_13 ih3i11_13 ah3i11_13
        refine l_gR Th3i11_13 pcu ?_
        refine l_gI (e := (vI h cu 1)) (by rw [ih3i11_13 cu 1, if_neg (fun z => absurd z.2 (by decide)), ih2i11_12 cu 1, if_neg (fun z => absurd z.2 (by decide)), ih14_10 cu 1, if_neg (fun z => absurd z.2 (by decide))]) ?_
        refine l_sI Th3i11_13 kcu (by decide) rfl ?_
        intro h6i11_14 Th6i11_14 ih6i11_14 ah6i11_14
        refine qi_some ?_
        exact ⟨Th6i11_14, Or.inl ⟨rfl, (by show x_pat t n (vI h cu 1) (vI h v0 3) (vI h v0 4) (vI h pt 6) (vI h v0 5) (vI h v0 6) = x_pat t n (vI h6i11_14 cu 1) (vI h6i11_14 v0 3) (vI h6i11_14 v0 4) (vI h6i11_14 pt 6) (vI h6i11_14 v0 5) (vI h6i11_14 v0 6); rw [show vI h6i11_14 cu 1 = ((vI h cu 1) + 1) from (by rw [ih6i11_14 cu 1, if_pos ⟨rfl, rfl⟩]), show vI h6i11_14 v0 3 = (vI h v0 3) from (by rw [ih6i11_14 v0 3, if_neg (fun z => absurd z.2 (by decide)), ih3i11_13 v0 3, if_neg (fun z => absurd z.2 (by decide)), ih2i11_12 v0 3, if_neg (fun z => absurd z.2 (by decide)), ih14_10 v0 3, if_neg (fun z => absurd z.2 (by decide))]), show vI h6i11_14 v0 4 = ((vI h v0 4) + 1) from (by rw [ih6i11_14 v0 4, if_neg (fun z => absurd z.2 (by decide)), ih3i11_13 v0 4, if_neg (fun z => absurd z.2 (by decide)), ih2i11_12 v0 4, if_pos ⟨rfl, rfl⟩]), show vI h6i11_14 pt 6 = (vI h pt 6) from (by rw [ih6i11_14 pt 6, if_neg (fun z => absurd z.2 (by decide)), ih3i11_13 pt 6, if_neg (fun z => absurd z.1 (by omega)), ih2i11_12 pt 6, if_neg (fun z => absurd z.2 (by decide)), ih14_10 pt 6, if_neg (fun z => absurd z.2 (by decide))]), show vI h6i11_14 v0 5 = (vI h v0 5) from (by rw [ih6i11_14 v0 5, if_neg (fun z => absurd z.2 (by decide)), ih3i11_13 v0 5, if_neg (fun z => absurd z.2 (by decide)), ih2i11_12 v0 5, if_neg (fun z => absurd z.2 (by decide)), ih14_10 v0 5, if_neg (fun z => absurd z.2 (by decide))]), show vI h6i11_14 v0 6 = 0 from (by rw [ih6i11_14 v0 6, if_neg (fun z => absurd z.2 (by decide)), ih3i11_13 v0 6, if_pos ⟨rfl, rfl⟩])] <;> (rw [x_q42 n2 c, if_neg (by (first | grind (ematch := 0) | grind))])), (by show vI h cu 1 < vI h6i11_14 cu 1; rw [show vI h6i11_14 cu 1 = ((vI h cu 1) + 1) from (by rw [ih6i11_14 cu 1, if_pos ⟨rfl, rfl⟩])] <;> (exact x_lp1 n2 (by rw [c]; decide))), (by show 0 ≤ vI h6i11_14 pt 6 ∧ vI h6i11_14 pt 6 ≤ 3; rw [show vI h6i11_14 pt 6 = (vI h pt 6) from (by rw [ih6i11_14 pt 6, if_neg (fun z => absurd z.2 (by decide)), ih3i11_13 pt 6, if_neg (fun z => absurd z.1 (by omega)), ih2i11_12 pt 6, if_neg (fun z => absurd z.2 (by decide)), ih14_10 pt 6, if_neg (fun z => absurd z.2 (by decide))])] <;> (first | assumption | with_reducible rfl | grind)), (fun a k na => by rw [ih6i11_14 a k, if_neg (fun z => na (Or.inr (Or.inr (Or.inr (Or.inr (Or.inl z)))))), ih3i11_13 a k, if_neg (fun z => na (Or.inr (Or.inr (Or.inr (Or.inl z))))), ih2i11_12 a k, if_neg (fun z => na (Or.inr (Or.inr (Or.inl z)))), ih14_10 a k, if_neg (fun z => na (Or.inr (Or.inl z)))]), (fun a na => by rw [ah6i11_14 a, ah3i11_13 a, ah2i11_12 a, ah14_10 a])⟩⟩
      · skip
        refine l_gR T ppt ?_
        refine l_gR T pit ?_
        refine l_gI (e := (vI h it 4)) rfl ?_
        refine l_sI T kpt (by decide) rfl ?_
        intro h10_15 Th10_15 ih10_15 ah10_15
        unfold f_Pr_readStar_66
        refine l_gI (e := (vI h v0 4)) (by rw [ih10_15 v0 4, if_neg (fun z => absurd z.2 (by decide))]) ?_
        refine l_sI Th10_15 kv0 (by decide) rfl ?_
        intro h2i16_17 Th2i16_17 ih2i16_17 ah2i16_17
        refine l_sI Th2i16_17 kv0 (by decide) rfl ?_
        intro h3i16_18 Th3i16_18 ih3i16_18 ah3i16_18
        refine l_gR Th3i16_18 pcu ?_
        refine l_gI (e := (vI h cu 1)) (by rw [ih3i16_18 cu 1, if_neg (fun z => absurd z.2 (by decide)), ih2i16_17 cu 1, if_neg (fun z => absurd z.2 (by decide)), ih10_15 cu 1, if_neg (fun z => absurd z.2 (by decide))]) ?_
        refine l_sI Th3i16_18 kcu (by decide) rfl ?_
        intro h6i16_19 Th6i16_19 ih6i16_19 ah6i16_19
        refine qi_some ?_
        exact ⟨Th6i16_19, Or.inl ⟨rfl, (by show x_pat t n (vI h cu 1) (vI h v0 3) (vI h v0 4) (vI h pt 6) (vI h v0 5) (vI h v0 6) = x_pat t n (vI h6i16_19 cu 1) (vI h6i16_19 v0 3) (vI h6i16_19 v0 4) (vI h6i16_19 pt 6) (vI h6i16_19 v0 5) (vI h6i16_19 v0 6); rw [show vI h6i16_19 cu 1 = ((vI h cu 1) + 1) from (by rw [ih6i16_19 cu 1, if_pos ⟨rfl, rfl⟩]), show vI h6i16_19 v0 3 = (vI h v0 3) from (by rw [ih6i16_19 v0 3, if_neg (fun z => absurd z.2 (by decide)), ih3i16_18 v0 3, if_neg (fun z => absurd z.2 (by decide)), ih2i16_17 v0 3, if_neg (fun z => absurd z.2 (by decide)), ih10_15 v0 3, if_neg (fun z => absurd z.2 (by decide))]), show vI h6i16_19 v0 4 = ((vI h v0 4) + 1) from (by rw [ih6i16_19 v0 4, if_neg (fun z => absurd z.2 (by decide)), ih3i16_18 v0 4, if_neg (fun z => absurd z.2 (by decide)), ih2i16_17 v0 4, if_pos ⟨rfl, rfl⟩]), show vI h6i16_19 pt 6 = (vI h pt 6) from (by rw [ih6i16_19 pt 6, if_neg (fun z => absurd z.2 (by decide)), ih3i16_18 pt 6, if_neg (fun z => absurd z.1 (by omega)), ih2i16_17 pt 6, if_neg (fun z => absurd z.2 (by decide)), ih10_15 pt 6, if_neg (fun z => absurd z.2 (by decide))]), show vI h6i16_19 v0 5 = (vI h v0 5) from (by rw [ih6i16_19 v0 5, if_neg (fun z => absurd z.2 (by decide)), ih3i16_18 v0 5, if_neg (fun z => absurd z.2 (by decide)), ih2i16_17 v0 5, if_neg (fun z => absurd z.2 (by decide)), ih10_15 v0 5, if_neg (fun z => absurd z.1 (by omega))]), show vI h6i16_19 v0 6 = 0 from (by rw [ih6i16_19 v0 6, if_neg (fun z => absurd z.2 (by decide)), ih3i16_18 v0 6, if_pos ⟨rfl, rfl⟩])] <;> (rw [x_q42 n2 c, if_neg (by (first | grind (ematch := 0) | grind))])), (by show vI h cu 1 < vI h6i16_19 cu 1; rw [show vI h6i16_19 cu 1 = ((vI h cu 1) + 1) from (by rw [ih6i16_19 cu 1, if_pos ⟨rfl, rfl⟩])] <;> (exact x_lp1 n2 (by rw [c]; decide))), (by show 0 ≤ vI h6i16_19 pt 6 ∧ vI h6i16_19 pt 6 ≤ 3; rw [show vI h6i16_19 pt 6 = (vI h pt 6) from (by rw [ih6i16_19 pt 6, if_neg (fun z => absurd z.2 (by decide)), ih3i16_18 pt 6, if_neg (fun z => absurd z.1 (by omega)), ih2i16_17 pt 6, if_neg (fun z => absurd z.2 (by decide)), ih10_15 pt 6, if_neg (fun z => absurd z.2 (by decide))])] <;> (first | assumption | with_reducible rfl | grind)), (fun a k na => by rw [ih6i16_19 a k, if_neg (fun z => na (Or.inr (Or.inr (Or.inr (Or.inr (Or.inl z)))))), ih3i16_18 a k, if_neg (fun z => na (Or.inr (Or.inr (Or.inr (Or.inl z))))), ih2i16_17 a k, if_neg (fun z => na (Or.inr (Or.inr (Or.inl z)))), ih10_15 a k, if_neg (fun z => na (Or.inr (Or.inr (Or.inr (Or.inr (Or.inr (z)))))))]), (fun a na => by rw [ah6i16_19 a, ah3i16_18 a, ah2i16_17 a, ah10_15 a])⟩⟩
theorem j_Pr_readStar {L : q_L} {π : Nat → Nat → Option Nat} {N : Nat} {cu : Nat} {it : Nat} {pt : Nat} {tx : Nat} {t : Int32 → Int32} {n : Int32} {h : z_H} {v0 : Nat} {β : Type} {f : Int32 × z_H → Option β} {Q : β → Prop} (T : x_U L π h) (kv0 : qκ L v0 = 9) (kcu : qκ L cu = 3) (pcu : π v0 0 = some cu) (kit : qκ L it = 5) (pit : π v0 1 = some it) (kpt : qκ L pt = 8) (ppt : π v0 2 = some pt) (ktx : qκ L tx = 11) (ptx : π cu 0 = some tx) (ht : ∀ j, 0 ≤ j → j < n → vA h (tx + 1) j = t j) (hn : vI h tx 1 = n) (n1 : n ≤ 240) (tp : ∀ j, t j ≠ -1) (D : cu + 1 = v0 ∧ v0 + 4 ≤ tx ∧ it = tx + 2 ∧ it + 6 ≤ pt) (gb : 0 ≤ vI h pt 6 ∧ vI h pt 6 ≤ 3) (a0 : 0 ≤ vI h cu 1) (c : x_lk t n (vI h cu 1) = 42) (H1 : ∀ h', x_U L π h' → (x_pat t n (vI h cu 1) (vI h v0 3) (vI h v0 4) (vI h pt 6) (vI h v0 5) (vI h v0 6) = x_pat t n (vI h' cu 1) (vI h' v0 3) (vI h' v0 4) (vI h' pt 6) (vI h' v0 5) (vI h' v0 6)) → (vI h cu 1 < vI h' cu 1) → (0 ≤ vI h' pt 6 ∧ vI h' pt 6 ≤ 3) → (∀ a k, ¬ ((a = cu ∧ k = 2) ∨ (a = pt ∧ k = 4) ∨ (a = v0 ∧ k = 4) ∨ (a = v0 ∧ k = 6) ∨ (a = cu ∧ k = 1) ∨ (a = pt ∧ k = 5)) → vI h' a k = vI h a k) → (∀ a, ¬ (a < a) → vA h' a = vA h a) → qi (f (1, h')) Q) (H0 : ∀ h', x_U L π h' → (x_pat t n (vI h cu 1) (vI h v0 3) (vI h v0 4) (vI h pt 6) (vI h v0 5) (vI h v0 6) = none) → qi (f (0, h')) Q) : qi (z_b (f_Pr_readStar N v0 h) f) Q := by
  refine qi_b (i_Pr_readStar  T kv0 kcu pcu kit pit kpt ppt ktx ptx ht hn n1 tp D gb a0 c) ?_
  rintro ⟨y, hz⟩ ⟨Tz, ⟨ey, g0, g1, g2, g3, g4⟩ | ⟨ey, g0⟩⟩
  · dsimp only at *; subst ey; exact H1 hz Tz g0 g1 g2 g3 g4
  · dsimp only at *; subst ey; exact H0 hz Tz g0

set_option maxHeartbeats 2000000 in
theorem i_Pr_mayEscape {L : q_L} {π : Nat → Nat → Option Nat} {N : Nat} {pt : Nat} {h : z_H} {v0 : Nat} (T : x_U L π h) (kv0 : qκ L v0 = 9) (kpt : qκ L pt = 8) (ppt : π v0 2 = some pt) : qi (f_Pr_mayEscape N v0 h) (fun r => r.2 = h ∧ (r.1 = 1 ∨ r.1 = 0)) := by
  unfold f_Pr_mayEscape
  refine l_gI (e := (vI h v0 3)) rfl ?_
  refine qi_if (fun cc1 => ?_) (fun cc1 => ?_)
  · skip
    refine qi_some ?_
    exact ⟨rfl, Or.inl rfl⟩
  · skip
    refine l_gI (e := (vI h v0 5)) rfl ?_
    refine qi_if (fun cc2 => ?_) (fun cc2 => ?_)
    · skip
      refine l_gR T ppt ?_
      refine l_gI (e := (vI h pt 6)) rfl ?_
      refine qi_if (fun cc3 => ?_) (fun cc3 => ?_)
      · skip
        refine qi_some ?_
        exact ⟨rfl, Or.inr rfl⟩
      · skip
        refine qi_some ?_
        exact ⟨rfl, Or.inl rfl⟩
    · skip
      refine qi_some ?_
      exact ⟨rfl, Or.inl rfl⟩
theorem j_Pr_mayEscape {L : q_L} {π : Nat → Nat → Option Nat} {N : Nat} {pt : Nat} {h : z_H} {v0 : Nat} {β : Type} {f : Int32 × z_H → Option β} {Q : β → Prop} (T : x_U L π h) (kv0 : qκ L v0 = 9) (kpt : qκ L pt = 8) (ppt : π v0 2 = some pt) (H1 : ∀ _u : Unit, qi (f (1, h)) Q) (H0 : ∀ _u : Unit, qi (f (0, h)) Q) : qi (z_b (f_Pr_mayEscape N v0 h) f) Q := by
  refine qi_b (i_Pr_mayEscape  T kv0 kpt ppt) ?_
  rintro ⟨y, hz⟩ ⟨e, ey | ey⟩
  · dsimp only at *; subst ey; subst e; exact H1 () 
  · dsimp only at *; subst ey; subst e; exact H0 () 

set_option maxHeartbeats 2000000 in
theorem i_Pr_openGroup {L : q_L} {π : Nat → Nat → Option Nat} {N : Nat} {cu : Nat} {it : Nat} {pt : Nat} {tx : Nat} {t : Int32 → Int32} {n : Int32} {h : z_H} {v0 : Nat} (T : x_U L π h) (kv0 : qκ L v0 = 9) (kcu : qκ L cu = 3) (pcu : π v0 0 = some cu) (kit : qκ L it = 5) (pit : π v0 1 = some it) (kpt : qκ L pt = 8) (ppt : π v0 2 = some pt) (ktx : qκ L tx = 11) (ptx : π cu 0 = some tx) (ht : ∀ j, 0 ≤ j → j < n → vA h (tx + 1) j = t j) (hn : vI h tx 1 = n) (n1 : n ≤ 240) (tp : ∀ j, t j ≠ -1) (D : cu + 1 = v0 ∧ v0 + 4 ≤ tx ∧ it = tx + 2 ∧ it + 6 ≤ pt) (gb : 0 ≤ vI h pt 6 ∧ vI h pt 6 ≤ 3) (a0 : 0 ≤ vI h cu 1) (c : x_lk t n (vI h cu 1) = 92) (d : x_lk t n (vI h cu 1 + 1) = 40) : qi (f_Pr_openGroup N v0 h) (fun r => x_U L π r.2 ∧ ((r.1 = 1 ∧ (x_pat t n (vI h cu 1) (vI h v0 3) (vI h v0 4) (vI h pt 6) (vI h v0 5) (vI h v0 6) = x_pat t n (vI r.2 cu 1) (vI r.2 v0 3) (vI r.2 v0 4) (vI r.2 pt 6) (vI r.2 v0 5) (vI r.2 v0 6)) ∧ (vI h cu 1 < vI r.2 cu 1) ∧ (0 ≤ vI r.2 pt 6 ∧ vI r.2 pt 6 ≤ 3) ∧ (∀ a k, ¬ ((a = cu ∧ k = 2) ∨ (a = pt ∧ k = 6) ∨ (a = v0 ∧ k = 5) ∨ (a = v0 ∧ k = 6) ∨ (a = it ∧ k = 4) ∨ (a = cu ∧ k = 1)) → vI r.2 a k = vI h a k) ∧ (∀ a, ¬ (a = (it + 1) ∨ a = (it + 2)) → vA r.2 a = vA h a)) ∨ (r.1 = 0 ∧ (x_pat t n (vI h cu 1) (vI h v0 3) (vI h v0 4) (vI h pt 6) (vI h v0 5) (vI h v0 6) = none)))) := by
  have n2 : n ≤ 1000 := Int32.le_trans n1 (by decide)
  unfold f_Pr_openGroup
  refine l_gI (e := (vI h v0 5)) rfl ?_
  refine qi_if (fun cc1 => ?_) (fun cc1 => ?_)
  · skip
    refine l_gR T ppt ?_
    refine l_gI (e := (vI h pt 6)) rfl ?_
    refine qi_if (fun cc2 => ?_) (fun cc2 => ?_)
    · skip
      unfold f_Pr_openGroup_18
      refine l_gR T pcu ?_
      refine l_gO ?_
      refine j_Cur_refuse (v0 := cu) (v1 := (0 : Int32)) T kcu ?_
      · intro hr3i3_4 Thr3i3_4
        try dsimp only
        refine qi_zB (fun zb5 => ?_)
        refine qi_some ?_
        exact ⟨Thr3i3_4, Or.inr ⟨rfl, (by show x_pat t n (vI h cu 1) (vI h v0 3) (vI h v0 4) (vI h pt 6) (vI h v0 5) (vI h v0 6) = none; rw [x_q92 n2 c, d, if_pos rfl, if_neg (by (first | grind (ematch := 0) | grind))])⟩⟩
    · skip
      refine l_gR T ppt ?_
      refine l_gI (e := (vI h pt 6)) rfl ?_
      refine l_sI T kpt (by decide) rfl ?_
      intro h8_6 Th8_6 ih8_6 ah8_6
      refine l_sI Th8_6 kv0 (by decide) rfl ?_
      intro h9_7 Th9_7 ih9_7 ah9_7
      refine l_sI Th9_7 kv0 (by decide) rfl ?_
      intro h10_8 Th10_8 ih10_8 ah10_8
      refine l_gR Th10_8 pit ?_
      refine l_gR Th10_8 ppt ?_
      refine l_gI (e := ((vI h pt 6) + 1)) (by rw [ih10_8 pt 6, if_neg (fun z => absurd z.1 (by omega)), ih9_7 pt 6, if_neg (fun z => absurd z.2 (by decide)), ih8_6 pt 6, if_pos ⟨rfl, rfl⟩]) ?_
      refine l_gO ?_
      refine j_It_add (v0 := it) (v1 := (1 : Int32)) (v2 := ((vI h pt 6) + 1)) Th10_8 kit ?_
      intro hr15_9 Thr15_9 fr15_9_I fr15_9_A
      try dsimp only
      refine l_gR Thr15_9 pcu ?_
      refine l_gI (e := (vI h cu 1)) (by rw [fr15_9_I cu 1 (by omega), ih10_8 cu 1, if_neg (fun z => absurd z.2 (by decide)), ih9_7 cu 1, if_neg (fun z => absurd z.2 (by decide)), ih8_6 cu 1, if_neg (fun z => absurd z.2 (by decide))]) ?_
      refine l_sI Thr15_9 kcu (by decide) rfl ?_
      intro h18_10 Th18_10 ih18_10 ah18_10
      refine qi_some ?_
      exact ⟨Th18_10, Or.inl ⟨rfl, (by show x_pat t n (vI h cu 1) (vI h v0 3) (vI h v0 4) (vI h pt 6) (vI h v0 5) (vI h v0 6) = x_pat t n (vI h18_10 cu 1) (vI h18_10 v0 3) (vI h18_10 v0 4) (vI h18_10 pt 6) (vI h18_10 v0 5) (vI h18_10 v0 6); rw [show vI h18_10 cu 1 = ((vI h cu 1) + 2) from (by rw [ih18_10 cu 1, if_pos ⟨rfl, rfl⟩]), show vI h18_10 v0 3 = (vI h v0 3) from (by rw [ih18_10 v0 3, if_neg (fun z => absurd z.2 (by decide)), fr15_9_I v0 3 (by omega), ih10_8 v0 3, if_neg (fun z => absurd z.2 (by decide)), ih9_7 v0 3, if_neg (fun z => absurd z.2 (by decide)), ih8_6 v0 3, if_neg (fun z => absurd z.2 (by decide))]), show vI h18_10 v0 4 = (vI h v0 4) from (by rw [ih18_10 v0 4, if_neg (fun z => absurd z.2 (by decide)), fr15_9_I v0 4 (by omega), ih10_8 v0 4, if_neg (fun z => absurd z.2 (by decide)), ih9_7 v0 4, if_neg (fun z => absurd z.2 (by decide)), ih8_6 v0 4, if_neg (fun z => absurd z.2 (by decide))]), show vI h18_10 pt 6 = ((vI h pt 6) + 1) from (by rw [ih18_10 pt 6, if_neg (fun z => absurd z.2 (by decide)), fr15_9_I pt 6 (by omega), ih10_8 pt 6, if_neg (fun z => absurd z.1 (by omega)), ih9_7 pt 6, if_neg (fun z => absurd z.2 (by decide)), ih8_6 pt 6, if_pos ⟨rfl, rfl⟩]), show vI h18_10 v0 5 = 1 from (by rw [ih18_10 v0 5, if_neg (fun z => absurd z.2 (by decide)), fr15_9_I v0 5 (by omega), ih10_8 v0 5, if_neg (fun z => absurd z.2 (by decide)), ih9_7 v0 5, if_pos ⟨rfl, rfl⟩]), show vI h18_10 v0 6 = 0 from (by rw [ih18_10 v0 6, if_neg (fun z => absurd z.2 (by decide)), fr15_9_I v0 6 (by omega), ih10_8 v0 6, if_pos ⟨rfl, rfl⟩])] <;> (rw [x_q92 n2 c, d, if_pos rfl, if_pos (by (first | grind (ematch := 0) | grind))])), (by show vI h cu 1 < vI h18_10 cu 1; rw [show vI h18_10 cu 1 = ((vI h cu 1) + 2) from (by rw [ih18_10 cu 1, if_pos ⟨rfl, rfl⟩])] <;> (exact x_lp2 n2 (by rw [c]; decide))), (by show 0 ≤ vI h18_10 pt 6 ∧ vI h18_10 pt 6 ≤ 3; rw [show vI h18_10 pt 6 = ((vI h pt 6) + 1) from (by rw [ih18_10 pt 6, if_neg (fun z => absurd z.2 (by decide)), fr15_9_I pt 6 (by omega), ih10_8 pt 6, if_neg (fun z => absurd z.1 (by omega)), ih9_7 pt 6, if_neg (fun z => absurd z.2 (by decide)), ih8_6 pt 6, if_pos ⟨rfl, rfl⟩])] <;> (exact x_g3 gb (by (first | grind (ematch := 0) | grind)))), (fun a k na => by rw [ih18_10 a k, if_neg (fun z => na (Or.inr (Or.inr (Or.inr (Or.inr (Or.inr (z))))))), fr15_9_I a k (fun z => na (Or.inr (Or.inr (Or.inr (Or.inr (Or.inl z)))))), ih10_8 a k, if_neg (fun z => na (Or.inr (Or.inr (Or.inr (Or.inl z))))), ih9_7 a k, if_neg (fun z => na (Or.inr (Or.inr (Or.inl z)))), ih8_6 a k, if_neg (fun z => na (Or.inr (Or.inl z)))]), (fun a na => by rw [ah18_10 a, fr15_9_A a (fun z => na (z.elim (fun z => Or.inl z) (fun z => Or.inr (z)))), ah10_8 a, ah9_7 a, ah8_6 a])⟩⟩
  · skip
    unfold f_Pr_openGroup_18
    refine l_gR T pcu ?_
    refine l_gO ?_
    refine j_Cur_refuse (v0 := cu) (v1 := (0 : Int32)) T kcu ?_
    · intro hr3i11_12 Thr3i11_12
      try dsimp only
      refine qi_zB (fun zb13 => ?_)
      refine qi_some ?_
      exact ⟨Thr3i11_12, Or.inr ⟨rfl, (by show x_pat t n (vI h cu 1) (vI h v0 3) (vI h v0 4) (vI h pt 6) (vI h v0 5) (vI h v0 6) = none; rw [x_q92 n2 c, d, if_pos rfl, if_neg (by (first | grind (ematch := 0) | grind))])⟩⟩
theorem j_Pr_openGroup {L : q_L} {π : Nat → Nat → Option Nat} {N : Nat} {cu : Nat} {it : Nat} {pt : Nat} {tx : Nat} {t : Int32 → Int32} {n : Int32} {h : z_H} {v0 : Nat} {β : Type} {f : Int32 × z_H → Option β} {Q : β → Prop} (T : x_U L π h) (kv0 : qκ L v0 = 9) (kcu : qκ L cu = 3) (pcu : π v0 0 = some cu) (kit : qκ L it = 5) (pit : π v0 1 = some it) (kpt : qκ L pt = 8) (ppt : π v0 2 = some pt) (ktx : qκ L tx = 11) (ptx : π cu 0 = some tx) (ht : ∀ j, 0 ≤ j → j < n → vA h (tx + 1) j = t j) (hn : vI h tx 1 = n) (n1 : n ≤ 240) (tp : ∀ j, t j ≠ -1) (D : cu + 1 = v0 ∧ v0 + 4 ≤ tx ∧ it = tx + 2 ∧ it + 6 ≤ pt) (gb : 0 ≤ vI h pt 6 ∧ vI h pt 6 ≤ 3) (a0 : 0 ≤ vI h cu 1) (c : x_lk t n (vI h cu 1) = 92) (d : x_lk t n (vI h cu 1 + 1) = 40) (H1 : ∀ h', x_U L π h' → (x_pat t n (vI h cu 1) (vI h v0 3) (vI h v0 4) (vI h pt 6) (vI h v0 5) (vI h v0 6) = x_pat t n (vI h' cu 1) (vI h' v0 3) (vI h' v0 4) (vI h' pt 6) (vI h' v0 5) (vI h' v0 6)) → (vI h cu 1 < vI h' cu 1) → (0 ≤ vI h' pt 6 ∧ vI h' pt 6 ≤ 3) → (∀ a k, ¬ ((a = cu ∧ k = 2) ∨ (a = pt ∧ k = 6) ∨ (a = v0 ∧ k = 5) ∨ (a = v0 ∧ k = 6) ∨ (a = it ∧ k = 4) ∨ (a = cu ∧ k = 1)) → vI h' a k = vI h a k) → (∀ a, ¬ (a = (it + 1) ∨ a = (it + 2)) → vA h' a = vA h a) → qi (f (1, h')) Q) (H0 : ∀ h', x_U L π h' → (x_pat t n (vI h cu 1) (vI h v0 3) (vI h v0 4) (vI h pt 6) (vI h v0 5) (vI h v0 6) = none) → qi (f (0, h')) Q) : qi (z_b (f_Pr_openGroup N v0 h) f) Q := by
  refine qi_b (i_Pr_openGroup  T kv0 kcu pcu kit pit kpt ppt ktx ptx ht hn n1 tp D gb a0 c d) ?_
  rintro ⟨y, hz⟩ ⟨Tz, ⟨ey, g0, g1, g2, g3, g4⟩ | ⟨ey, g0⟩⟩
  · dsimp only at *; subst ey; exact H1 hz Tz g0 g1 g2 g3 g4
  · dsimp only at *; subst ey; exact H0 hz Tz g0

set_option maxHeartbeats 2000000 in
theorem i_Pr_closeGroup {L : q_L} {π : Nat → Nat → Option Nat} {N : Nat} {cu : Nat} {it : Nat} {pt : Nat} {tx : Nat} {t : Int32 → Int32} {n : Int32} {h : z_H} {v0 : Nat} (T : x_U L π h) (kv0 : qκ L v0 = 9) (kcu : qκ L cu = 3) (pcu : π v0 0 = some cu) (kit : qκ L it = 5) (pit : π v0 1 = some it) (kpt : qκ L pt = 8) (ppt : π v0 2 = some pt) (ktx : qκ L tx = 11) (ptx : π cu 0 = some tx) (ht : ∀ j, 0 ≤ j → j < n → vA h (tx + 1) j = t j) (hn : vI h tx 1 = n) (n1 : n ≤ 240) (tp : ∀ j, t j ≠ -1) (D : cu + 1 = v0 ∧ v0 + 4 ≤ tx ∧ it = tx + 2 ∧ it + 6 ≤ pt) (gb : 0 ≤ vI h pt 6 ∧ vI h pt 6 ≤ 3) (a0 : 0 ≤ vI h cu 1) (c : x_lk t n (vI h cu 1) = 92) (d : x_lk t n (vI h cu 1 + 1) = 41) : qi (f_Pr_closeGroup N v0 h) (fun r => x_U L π r.2 ∧ ((r.1 = 1 ∧ (x_pat t n (vI h cu 1) (vI h v0 3) (vI h v0 4) (vI h pt 6) (vI h v0 5) (vI h v0 6) = x_pat t n (vI r.2 cu 1) (vI r.2 v0 3) (vI r.2 v0 4) (vI r.2 pt 6) (vI r.2 v0 5) (vI r.2 v0 6)) ∧ (vI h cu 1 < vI r.2 cu 1) ∧ (0 ≤ vI r.2 pt 6 ∧ vI r.2 pt 6 ≤ 3) ∧ (∀ a k, ¬ ((a = cu ∧ k = 2) ∨ (a = v0 ∧ k = 5) ∨ (a = v0 ∧ k = 6) ∨ (a = it ∧ k = 4) ∨ (a = cu ∧ k = 1)) → vI r.2 a k = vI h a k) ∧ (∀ a, ¬ (a = (it + 1) ∨ a = (it + 2)) → vA r.2 a = vA h a)) ∨ (r.1 = 0 ∧ (x_pat t n (vI h cu 1) (vI h v0 3) (vI h v0 4) (vI h pt 6) (vI h v0 5) (vI h v0 6) = none)))) := by
  have n2 : n ≤ 1000 := Int32.le_trans n1 (by decide)
  unfold f_Pr_closeGroup
  refine l_gI (e := (vI h v0 5)) rfl ?_
  refine qi_if (fun cc1 => ?_) (fun cc1 => ?_)
  · skip
    refine l_gR T pcu ?_
    refine l_gO ?_
    refine j_Cur_refuse (v0 := cu) (v1 := (0 : Int32)) T kcu ?_
    · intro hr15_2 Thr15_2
      try dsimp only
      refine qi_zB (fun zb3 => ?_)
      refine qi_some ?_
      exact ⟨Thr15_2, Or.inr ⟨rfl, (by show x_pat t n (vI h cu 1) (vI h v0 3) (vI h v0 4) (vI h pt 6) (vI h v0 5) (vI h v0 6) = none; rw [x_q92 n2 c, d, if_neg (by decide), if_pos rfl, if_pos (by (first | grind (ematch := 0) | grind))])⟩⟩
  · skip
    refine l_sI T kv0 (by decide) rfl ?_
    intro h3_4 Th3_4 ih3_4 ah3_4
    refine l_sI Th3_4 kv0 (by decide) rfl ?_
    intro h4_5 Th4_5 ih4_5 ah4_5
    refine l_gR Th4_5 pit ?_
    refine l_gR Th4_5 ppt ?_
    refine l_gI (e := (vI h pt 6)) (by rw [ih4_5 pt 6, if_neg (fun z => absurd z.1 (by omega)), ih3_4 pt 6, if_neg (fun z => absurd z.2 (by decide))]) ?_
    refine l_gO ?_
    refine j_It_add (v0 := it) (v1 := (2 : Int32)) (v2 := (vI h pt 6)) Th4_5 kit ?_
    intro hr9_6 Thr9_6 fr9_6_I fr9_6_A
    try dsimp only
    refine l_gR Thr9_6 pcu ?_
    refine l_gI (e := (vI h cu 1)) (by rw [fr9_6_I cu 1 (by omega), ih4_5 cu 1, if_neg (fun z => absurd z.2 (by decide)), ih3_4 cu 1, if_neg (fun z => absurd z.2 (by decide))]) ?_
    refine l_sI Thr9_6 kcu (by decide) rfl ?_
    intro h12_7 Th12_7 ih12_7 ah12_7
    refine qi_some ?_
    exact ⟨Th12_7, Or.inl ⟨rfl, (by show x_pat t n (vI h cu 1) (vI h v0 3) (vI h v0 4) (vI h pt 6) (vI h v0 5) (vI h v0 6) = x_pat t n (vI h12_7 cu 1) (vI h12_7 v0 3) (vI h12_7 v0 4) (vI h12_7 pt 6) (vI h12_7 v0 5) (vI h12_7 v0 6); rw [show vI h12_7 cu 1 = ((vI h cu 1) + 2) from (by rw [ih12_7 cu 1, if_pos ⟨rfl, rfl⟩]), show vI h12_7 v0 3 = (vI h v0 3) from (by rw [ih12_7 v0 3, if_neg (fun z => absurd z.2 (by decide)), fr9_6_I v0 3 (by omega), ih4_5 v0 3, if_neg (fun z => absurd z.2 (by decide)), ih3_4 v0 3, if_neg (fun z => absurd z.2 (by decide))]), show vI h12_7 v0 4 = (vI h v0 4) from (by rw [ih12_7 v0 4, if_neg (fun z => absurd z.2 (by decide)), fr9_6_I v0 4 (by omega), ih4_5 v0 4, if_neg (fun z => absurd z.2 (by decide)), ih3_4 v0 4, if_neg (fun z => absurd z.2 (by decide))]), show vI h12_7 pt 6 = (vI h pt 6) from (by rw [ih12_7 pt 6, if_neg (fun z => absurd z.2 (by decide)), fr9_6_I pt 6 (by omega), ih4_5 pt 6, if_neg (fun z => absurd z.1 (by omega)), ih3_4 pt 6, if_neg (fun z => absurd z.2 (by decide))]), show vI h12_7 v0 5 = 0 from (by rw [ih12_7 v0 5, if_neg (fun z => absurd z.2 (by decide)), fr9_6_I v0 5 (by omega), ih4_5 v0 5, if_neg (fun z => absurd z.2 (by decide)), ih3_4 v0 5, if_pos ⟨rfl, rfl⟩]), show vI h12_7 v0 6 = 0 from (by rw [ih12_7 v0 6, if_neg (fun z => absurd z.2 (by decide)), fr9_6_I v0 6 (by omega), ih4_5 v0 6, if_pos ⟨rfl, rfl⟩])] <;> (rw [x_q92 n2 c, d, if_neg (by decide), if_pos rfl, if_neg (by (first | grind (ematch := 0) | grind))])), (by show vI h cu 1 < vI h12_7 cu 1; rw [show vI h12_7 cu 1 = ((vI h cu 1) + 2) from (by rw [ih12_7 cu 1, if_pos ⟨rfl, rfl⟩])] <;> (exact x_lp2 n2 (by rw [c]; decide))), (by show 0 ≤ vI h12_7 pt 6 ∧ vI h12_7 pt 6 ≤ 3; rw [show vI h12_7 pt 6 = (vI h pt 6) from (by rw [ih12_7 pt 6, if_neg (fun z => absurd z.2 (by decide)), fr9_6_I pt 6 (by omega), ih4_5 pt 6, if_neg (fun z => absurd z.1 (by omega)), ih3_4 pt 6, if_neg (fun z => absurd z.2 (by decide))])] <;> (first | assumption | with_reducible rfl | grind)), (fun a k na => by rw [ih12_7 a k, if_neg (fun z => na (Or.inr (Or.inr (Or.inr (Or.inr (z)))))), fr9_6_I a k (fun z => na (Or.inr (Or.inr (Or.inr (Or.inl z))))), ih4_5 a k, if_neg (fun z => na (Or.inr (Or.inr (Or.inl z)))), ih3_4 a k, if_neg (fun z => na (Or.inr (Or.inl z)))]), (fun a na => by rw [ah12_7 a, fr9_6_A a (fun z => na (z.elim (fun z => Or.inl z) (fun z => Or.inr (z)))), ah4_5 a, ah3_4 a])⟩⟩
theorem j_Pr_closeGroup {L : q_L} {π : Nat → Nat → Option Nat} {N : Nat} {cu : Nat} {it : Nat} {pt : Nat} {tx : Nat} {t : Int32 → Int32} {n : Int32} {h : z_H} {v0 : Nat} {β : Type} {f : Int32 × z_H → Option β} {Q : β → Prop} (T : x_U L π h) (kv0 : qκ L v0 = 9) (kcu : qκ L cu = 3) (pcu : π v0 0 = some cu) (kit : qκ L it = 5) (pit : π v0 1 = some it) (kpt : qκ L pt = 8) (ppt : π v0 2 = some pt) (ktx : qκ L tx = 11) (ptx : π cu 0 = some tx) (ht : ∀ j, 0 ≤ j → j < n → vA h (tx + 1) j = t j) (hn : vI h tx 1 = n) (n1 : n ≤ 240) (tp : ∀ j, t j ≠ -1) (D : cu + 1 = v0 ∧ v0 + 4 ≤ tx ∧ it = tx + 2 ∧ it + 6 ≤ pt) (gb : 0 ≤ vI h pt 6 ∧ vI h pt 6 ≤ 3) (a0 : 0 ≤ vI h cu 1) (c : x_lk t n (vI h cu 1) = 92) (d : x_lk t n (vI h cu 1 + 1) = 41) (H1 : ∀ h', x_U L π h' → (x_pat t n (vI h cu 1) (vI h v0 3) (vI h v0 4) (vI h pt 6) (vI h v0 5) (vI h v0 6) = x_pat t n (vI h' cu 1) (vI h' v0 3) (vI h' v0 4) (vI h' pt 6) (vI h' v0 5) (vI h' v0 6)) → (vI h cu 1 < vI h' cu 1) → (0 ≤ vI h' pt 6 ∧ vI h' pt 6 ≤ 3) → (∀ a k, ¬ ((a = cu ∧ k = 2) ∨ (a = v0 ∧ k = 5) ∨ (a = v0 ∧ k = 6) ∨ (a = it ∧ k = 4) ∨ (a = cu ∧ k = 1)) → vI h' a k = vI h a k) → (∀ a, ¬ (a = (it + 1) ∨ a = (it + 2)) → vA h' a = vA h a) → qi (f (1, h')) Q) (H0 : ∀ h', x_U L π h' → (x_pat t n (vI h cu 1) (vI h v0 3) (vI h v0 4) (vI h pt 6) (vI h v0 5) (vI h v0 6) = none) → qi (f (0, h')) Q) : qi (z_b (f_Pr_closeGroup N v0 h) f) Q := by
  refine qi_b (i_Pr_closeGroup  T kv0 kcu pcu kit pit kpt ppt ktx ptx ht hn n1 tp D gb a0 c d) ?_
  rintro ⟨y, hz⟩ ⟨Tz, ⟨ey, g0, g1, g2, g3, g4⟩ | ⟨ey, g0⟩⟩
  · dsimp only at *; subst ey; exact H1 hz Tz g0 g1 g2 g3 g4
  · dsimp only at *; subst ey; exact H0 hz Tz g0

set_option maxHeartbeats 2000000 in
theorem i_Pr_readSame {L : q_L} {π : Nat → Nat → Option Nat} {N : Nat} {cu : Nat} {it : Nat} {pt : Nat} {tx : Nat} {t : Int32 → Int32} {n : Int32} {d0 : Int32} {h : z_H} {v0 : Nat} {v1 : Int32} (T : x_U L π h) (kv0 : qκ L v0 = 9) (kcu : qκ L cu = 3) (pcu : π v0 0 = some cu) (kit : qκ L it = 5) (pit : π v0 1 = some it) (kpt : qκ L pt = 8) (ppt : π v0 2 = some pt) (ktx : qκ L tx = 11) (ptx : π cu 0 = some tx) (ht : ∀ j, 0 ≤ j → j < n → vA h (tx + 1) j = t j) (hn : vI h tx 1 = n) (n1 : n ≤ 240) (tp : ∀ j, t j ≠ -1) (D : cu + 1 = v0 ∧ v0 + 4 ≤ tx ∧ it = tx + 2 ∧ it + 6 ≤ pt) (gb : 0 ≤ vI h pt 6 ∧ vI h pt 6 ≤ 3) (a0 : 0 ≤ vI h cu 1) (c : x_lk t n (vI h cu 1) = 92) (d : x_lk t n (vI h cu 1 + 1) = d0) (e : d0 = 49 ∨ d0 = 50 ∨ d0 = 51) (dv : d0 - 48 = v1) : qi (f_Pr_readSame N v0 v1 h) (fun r => x_U L π r.2 ∧ ((r.1 = 1 ∧ (x_pat t n (vI h cu 1) (vI h v0 3) (vI h v0 4) (vI h pt 6) (vI h v0 5) (vI h v0 6) = x_pat t n (vI r.2 cu 1) (vI r.2 v0 3) (vI r.2 v0 4) (vI r.2 pt 6) (vI r.2 v0 5) (vI r.2 v0 6)) ∧ (vI h cu 1 < vI r.2 cu 1) ∧ (0 ≤ vI r.2 pt 6 ∧ vI r.2 pt 6 ≤ 3) ∧ (∀ a k, ¬ ((a = cu ∧ k = 2) ∨ (a = v0 ∧ k = 3) ∨ (a = v0 ∧ k = 6) ∨ (a = it ∧ k = 4) ∨ (a = cu ∧ k = 1)) → vI r.2 a k = vI h a k) ∧ (∀ a, ¬ (a = (it + 1) ∨ a = (it + 2)) → vA r.2 a = vA h a)) ∨ (r.1 = 0 ∧ (x_pat t n (vI h cu 1) (vI h v0 3) (vI h v0 4) (vI h pt 6) (vI h v0 5) (vI h v0 6) = none)))) := by
  have n2 : n ≤ 1000 := Int32.le_trans n1 (by decide)
  unfold f_Pr_readSame
  refine l_gI (e := (vI h v0 5)) rfl ?_
  refine qi_if (fun cc1 => ?_) (fun cc1 => ?_)
  · skip
    refine l_gR T ppt ?_
    refine l_gI (e := (vI h pt 6)) rfl ?_
    unfold f_Pr_readSame_26
    refine qi_if (fun cc3 => ?_) (fun cc3 => ?_)
    · skip
      unfold f_Pr_readSame_41
      refine l_gR T pcu ?_
      refine l_gO ?_
      refine j_Cur_refuse (v0 := cu) (v1 := (0 : Int32)) T kcu ?_
      · intro hr3i4_5 Thr3i4_5
        try dsimp only
        refine qi_zB (fun zb6 => ?_)
        refine qi_some ?_
        exact ⟨Thr3i4_5, Or.inr ⟨rfl, (by show x_pat t n (vI h cu 1) (vI h v0 3) (vI h v0 4) (vI h pt 6) (vI h v0 5) (vI h v0 6) = none; rw [x_q92 n2 c, d, if_neg (x_49 e).1, if_neg (x_49 e).2.1, if_pos (x_49 e).2.2, dv, if_pos (by have q := x_cl (gr := vI h pt 6) (v := v1) gb.1 gb.2; grind)])⟩⟩
    · skip
      refine l_gI (e := (vI h v0 3)) rfl ?_
      refine qi_if (fun cc7 => ?_) (fun cc7 => ?_)
      · skip
        unfold f_Pr_readSame_41
        refine l_gR T pcu ?_
        refine l_gO ?_
        refine j_Cur_refuse (v0 := cu) (v1 := (0 : Int32)) T kcu ?_
        · intro hr3i8_9 Thr3i8_9
          try dsimp only
          refine qi_zB (fun zb10 => ?_)
          refine qi_some ?_
          exact ⟨Thr3i8_9, Or.inr ⟨rfl, (by show x_pat t n (vI h cu 1) (vI h v0 3) (vI h v0 4) (vI h pt 6) (vI h v0 5) (vI h v0 6) = none; rw [x_q92 n2 c, d, if_neg (x_49 e).1, if_neg (x_49 e).2.1, if_pos (x_49 e).2.2, dv, if_pos (by have q := x_cl (gr := vI h pt 6) (v := v1) gb.1 gb.2; grind)])⟩⟩
      · skip
        refine l_gI (e := (vI h v0 3)) rfl ?_
        refine l_sI T kv0 (by decide) rfl ?_
        intro h5i2_11 Th5i2_11 ih5i2_11 ah5i2_11
        refine l_sI Th5i2_11 kv0 (by decide) rfl ?_
        intro h6i2_12 Th6i2_12 ih6i2_12 ah6i2_12
        refine l_gR Th6i2_12 pit ?_
        refine l_gO ?_
        refine j_It_add (v0 := it) (v1 := (3 : Int32)) (v2 := v1) Th6i2_12 kit ?_
        intro hr9i2_13 Thr9i2_13 fr9i2_13_I fr9i2_13_A
        try dsimp only
        refine l_gR Thr9i2_13 pcu ?_
        refine l_gI (e := (vI h cu 1)) (by rw [fr9i2_13_I cu 1 (by omega), ih6i2_12 cu 1, if_neg (fun z => absurd z.2 (by decide)), ih5i2_11 cu 1, if_neg (fun z => absurd z.2 (by decide))]) ?_
        refine l_sI Thr9i2_13 kcu (by decide) rfl ?_
        intro h12i2_14 Th12i2_14 ih12i2_14 ah12i2_14
        refine qi_some ?_
        exact ⟨Th12i2_14, Or.inl ⟨rfl, (by show x_pat t n (vI h cu 1) (vI h v0 3) (vI h v0 4) (vI h pt 6) (vI h v0 5) (vI h v0 6) = x_pat t n (vI h12i2_14 cu 1) (vI h12i2_14 v0 3) (vI h12i2_14 v0 4) (vI h12i2_14 pt 6) (vI h12i2_14 v0 5) (vI h12i2_14 v0 6); rw [show vI h12i2_14 cu 1 = ((vI h cu 1) + 2) from (by rw [ih12i2_14 cu 1, if_pos ⟨rfl, rfl⟩]), show vI h12i2_14 v0 3 = ((vI h v0 3) + 1) from (by rw [ih12i2_14 v0 3, if_neg (fun z => absurd z.2 (by decide)), fr9i2_13_I v0 3 (by omega), ih6i2_12 v0 3, if_neg (fun z => absurd z.2 (by decide)), ih5i2_11 v0 3, if_pos ⟨rfl, rfl⟩]), show vI h12i2_14 v0 4 = (vI h v0 4) from (by rw [ih12i2_14 v0 4, if_neg (fun z => absurd z.2 (by decide)), fr9i2_13_I v0 4 (by omega), ih6i2_12 v0 4, if_neg (fun z => absurd z.2 (by decide)), ih5i2_11 v0 4, if_neg (fun z => absurd z.2 (by decide))]), show vI h12i2_14 pt 6 = (vI h pt 6) from (by rw [ih12i2_14 pt 6, if_neg (fun z => absurd z.2 (by decide)), fr9i2_13_I pt 6 (by omega), ih6i2_12 pt 6, if_neg (fun z => absurd z.1 (by omega)), ih5i2_11 pt 6, if_neg (fun z => absurd z.2 (by decide))]), show vI h12i2_14 v0 5 = (vI h v0 5) from (by rw [ih12i2_14 v0 5, if_neg (fun z => absurd z.2 (by decide)), fr9i2_13_I v0 5 (by omega), ih6i2_12 v0 5, if_neg (fun z => absurd z.2 (by decide)), ih5i2_11 v0 5, if_neg (fun z => absurd z.2 (by decide))]), show vI h12i2_14 v0 6 = 0 from (by rw [ih12i2_14 v0 6, if_neg (fun z => absurd z.2 (by decide)), fr9i2_13_I v0 6 (by omega), ih6i2_12 v0 6, if_pos ⟨rfl, rfl⟩])] <;> (rw [x_q92 n2 c, d, if_neg (x_49 e).1, if_neg (x_49 e).2.1, if_pos (x_49 e).2.2, dv, if_neg (by have q := x_cl (gr := vI h pt 6) (v := v1) gb.1 gb.2; grind)])), (by show vI h cu 1 < vI h12i2_14 cu 1; rw [show vI h12i2_14 cu 1 = ((vI h cu 1) + 2) from (by rw [ih12i2_14 cu 1, if_pos ⟨rfl, rfl⟩])] <;> (exact x_lp2 n2 (by rw [c]; decide))), (by show 0 ≤ vI h12i2_14 pt 6 ∧ vI h12i2_14 pt 6 ≤ 3; rw [show vI h12i2_14 pt 6 = (vI h pt 6) from (by rw [ih12i2_14 pt 6, if_neg (fun z => absurd z.2 (by decide)), fr9i2_13_I pt 6 (by omega), ih6i2_12 pt 6, if_neg (fun z => absurd z.1 (by omega)), ih5i2_11 pt 6, if_neg (fun z => absurd z.2 (by decide))])] <;> (first | assumption | with_reducible rfl | grind)), (fun a k na => by rw [ih12i2_14 a k, if_neg (fun z => na (Or.inr (Or.inr (Or.inr (Or.inr (z)))))), fr9i2_13_I a k (fun z => na (Or.inr (Or.inr (Or.inr (Or.inl z))))), ih6i2_12 a k, if_neg (fun z => na (Or.inr (Or.inr (Or.inl z)))), ih5i2_11 a k, if_neg (fun z => na (Or.inr (Or.inl z)))]), (fun a na => by rw [ah12i2_14 a, fr9i2_13_A a (fun z => na (z.elim (fun z => Or.inl z) (fun z => Or.inr (z)))), ah6i2_12 a, ah5i2_11 a])⟩⟩
  · skip
    refine l_gR T ppt ?_
    refine l_gI (e := (vI h pt 6)) rfl ?_
    unfold f_Pr_readSame_26
    refine qi_if (fun cc16 => ?_) (fun cc16 => ?_)
    · skip
      unfold f_Pr_readSame_41
      refine l_gR T pcu ?_
      refine l_gO ?_
      refine j_Cur_refuse (v0 := cu) (v1 := (0 : Int32)) T kcu ?_
      · intro hr3i17_18 Thr3i17_18
        try dsimp only
        refine qi_zB (fun zb19 => ?_)
        refine qi_some ?_
        exact ⟨Thr3i17_18, Or.inr ⟨rfl, (by show x_pat t n (vI h cu 1) (vI h v0 3) (vI h v0 4) (vI h pt 6) (vI h v0 5) (vI h v0 6) = none; rw [x_q92 n2 c, d, if_neg (x_49 e).1, if_neg (x_49 e).2.1, if_pos (x_49 e).2.2, dv, if_pos (by have q := x_cl (gr := vI h pt 6) (v := v1) gb.1 gb.2; grind)])⟩⟩
    · skip
      refine l_gI (e := (vI h v0 3)) rfl ?_
      refine qi_if (fun cc20 => ?_) (fun cc20 => ?_)
      · skip
        unfold f_Pr_readSame_41
        refine l_gR T pcu ?_
        refine l_gO ?_
        refine j_Cur_refuse (v0 := cu) (v1 := (0 : Int32)) T kcu ?_
        · intro hr3i21_22 Thr3i21_22
          try dsimp only
          refine qi_zB (fun zb23 => ?_)
          refine qi_some ?_
          exact ⟨Thr3i21_22, Or.inr ⟨rfl, (by show x_pat t n (vI h cu 1) (vI h v0 3) (vI h v0 4) (vI h pt 6) (vI h v0 5) (vI h v0 6) = none; rw [x_q92 n2 c, d, if_neg (x_49 e).1, if_neg (x_49 e).2.1, if_pos (x_49 e).2.2, dv, if_pos (by have q := x_cl (gr := vI h pt 6) (v := v1) gb.1 gb.2; grind)])⟩⟩
      · skip
        refine l_gI (e := (vI h v0 3)) rfl ?_
        refine l_sI T kv0 (by decide) rfl ?_
        intro h5i15_24 Th5i15_24 ih5i15_24 ah5i15_24
        refine l_sI Th5i15_24 kv0 (by decide) rfl ?_
        intro h6i15_25 Th6i15_25 ih6i15_25 ah6i15_25
        refine l_gR Th6i15_25 pit ?_
        refine l_gO ?_
        refine j_It_add (v0 := it) (v1 := (3 : Int32)) (v2 := v1) Th6i15_25 kit ?_
        intro hr9i15_26 Thr9i15_26 fr9i15_26_I fr9i15_26_A
        try dsimp only
        refine l_gR Thr9i15_26 pcu ?_
        refine l_gI (e := (vI h cu 1)) (by rw [fr9i15_26_I cu 1 (by omega), ih6i15_25 cu 1, if_neg (fun z => absurd z.2 (by decide)), ih5i15_24 cu 1, if_neg (fun z => absurd z.2 (by decide))]) ?_
        refine l_sI Thr9i15_26 kcu (by decide) rfl ?_
        intro h12i15_27 Th12i15_27 ih12i15_27 ah12i15_27
        refine qi_some ?_
        exact ⟨Th12i15_27, Or.inl ⟨rfl, (by show x_pat t n (vI h cu 1) (vI h v0 3) (vI h v0 4) (vI h pt 6) (vI h v0 5) (vI h v0 6) = x_pat t n (vI h12i15_27 cu 1) (vI h12i15_27 v0 3) (vI h12i15_27 v0 4) (vI h12i15_27 pt 6) (vI h12i15_27 v0 5) (vI h12i15_27 v0 6); rw [show vI h12i15_27 cu 1 = ((vI h cu 1) + 2) from (by rw [ih12i15_27 cu 1, if_pos ⟨rfl, rfl⟩]), show vI h12i15_27 v0 3 = ((vI h v0 3) + 1) from (by rw [ih12i15_27 v0 3, if_neg (fun z => absurd z.2 (by decide)), fr9i15_26_I v0 3 (by omega), ih6i15_25 v0 3, if_neg (fun z => absurd z.2 (by decide)), ih5i15_24 v0 3, if_pos ⟨rfl, rfl⟩]), show vI h12i15_27 v0 4 = (vI h v0 4) from (by rw [ih12i15_27 v0 4, if_neg (fun z => absurd z.2 (by decide)), fr9i15_26_I v0 4 (by omega), ih6i15_25 v0 4, if_neg (fun z => absurd z.2 (by decide)), ih5i15_24 v0 4, if_neg (fun z => absurd z.2 (by decide))]), show vI h12i15_27 pt 6 = (vI h pt 6) from (by rw [ih12i15_27 pt 6, if_neg (fun z => absurd z.2 (by decide)), fr9i15_26_I pt 6 (by omega), ih6i15_25 pt 6, if_neg (fun z => absurd z.1 (by omega)), ih5i15_24 pt 6, if_neg (fun z => absurd z.2 (by decide))]), show vI h12i15_27 v0 5 = (vI h v0 5) from (by rw [ih12i15_27 v0 5, if_neg (fun z => absurd z.2 (by decide)), fr9i15_26_I v0 5 (by omega), ih6i15_25 v0 5, if_neg (fun z => absurd z.2 (by decide)), ih5i15_24 v0 5, if_neg (fun z => absurd z.2 (by decide))]), show vI h12i15_27 v0 6 = 0 from (by rw [ih12i15_27 v0 6, if_neg (fun z => absurd z.2 (by decide)), fr9i15_26_I v0 6 (by omega), ih6i15_25 v0 6, if_pos ⟨rfl, rfl⟩])] <;> (rw [x_q92 n2 c, d, if_neg (x_49 e).1, if_neg (x_49 e).2.1, if_pos (x_49 e).2.2, dv, if_neg (by have q := x_cl (gr := vI h pt 6) (v := v1) gb.1 gb.2; grind)])), (by show vI h cu 1 < vI h12i15_27 cu 1; rw [show vI h12i15_27 cu 1 = ((vI h cu 1) + 2) from (by rw [ih12i15_27 cu 1, if_pos ⟨rfl, rfl⟩])] <;> (exact x_lp2 n2 (by rw [c]; decide))), (by show 0 ≤ vI h12i15_27 pt 6 ∧ vI h12i15_27 pt 6 ≤ 3; rw [show vI h12i15_27 pt 6 = (vI h pt 6) from (by rw [ih12i15_27 pt 6, if_neg (fun z => absurd z.2 (by decide)), fr9i15_26_I pt 6 (by omega), ih6i15_25 pt 6, if_neg (fun z => absurd z.1 (by omega)), ih5i15_24 pt 6, if_neg (fun z => absurd z.2 (by decide))])] <;> (first | assumption | with_reducible rfl | grind)), (fun a k na => by rw [ih12i15_27 a k, if_neg (fun z => na (Or.inr (Or.inr (Or.inr (Or.inr (z)))))), fr9i15_26_I a k (fun z => na (Or.inr (Or.inr (Or.inr (Or.inl z))))), ih6i15_25 a k, if_neg (fun z => na (Or.inr (Or.inr (Or.inl z)))), ih5i15_24 a k, if_neg (fun z => na (Or.inr (Or.inl z)))]), (fun a na => by rw [ah12i15_27 a, fr9i15_26_A a (fun z => na (z.elim (fun z => Or.inl z) (fun z => Or.inr (z)))), ah6i15_25 a, ah5i15_24 a])⟩⟩
theorem j_Pr_readSame {L : q_L} {π : Nat → Nat → Option Nat} {N : Nat} {cu : Nat} {it : Nat} {pt : Nat} {tx : Nat} {t : Int32 → Int32} {n : Int32} {d0 : Int32} {h : z_H} {v0 : Nat} {v1 : Int32} {β : Type} {f : Int32 × z_H → Option β} {Q : β → Prop} (T : x_U L π h) (kv0 : qκ L v0 = 9) (kcu : qκ L cu = 3) (pcu : π v0 0 = some cu) (kit : qκ L it = 5) (pit : π v0 1 = some it) (kpt : qκ L pt = 8) (ppt : π v0 2 = some pt) (ktx : qκ L tx = 11) (ptx : π cu 0 = some tx) (ht : ∀ j, 0 ≤ j → j < n → vA h (tx + 1) j = t j) (hn : vI h tx 1 = n) (n1 : n ≤ 240) (tp : ∀ j, t j ≠ -1) (D : cu + 1 = v0 ∧ v0 + 4 ≤ tx ∧ it = tx + 2 ∧ it + 6 ≤ pt) (gb : 0 ≤ vI h pt 6 ∧ vI h pt 6 ≤ 3) (a0 : 0 ≤ vI h cu 1) (c : x_lk t n (vI h cu 1) = 92) (d : x_lk t n (vI h cu 1 + 1) = d0) (e : d0 = 49 ∨ d0 = 50 ∨ d0 = 51) (dv : d0 - 48 = v1) (H1 : ∀ h', x_U L π h' → (x_pat t n (vI h cu 1) (vI h v0 3) (vI h v0 4) (vI h pt 6) (vI h v0 5) (vI h v0 6) = x_pat t n (vI h' cu 1) (vI h' v0 3) (vI h' v0 4) (vI h' pt 6) (vI h' v0 5) (vI h' v0 6)) → (vI h cu 1 < vI h' cu 1) → (0 ≤ vI h' pt 6 ∧ vI h' pt 6 ≤ 3) → (∀ a k, ¬ ((a = cu ∧ k = 2) ∨ (a = v0 ∧ k = 3) ∨ (a = v0 ∧ k = 6) ∨ (a = it ∧ k = 4) ∨ (a = cu ∧ k = 1)) → vI h' a k = vI h a k) → (∀ a, ¬ (a = (it + 1) ∨ a = (it + 2)) → vA h' a = vA h a) → qi (f (1, h')) Q) (H0 : ∀ h', x_U L π h' → (x_pat t n (vI h cu 1) (vI h v0 3) (vI h v0 4) (vI h pt 6) (vI h v0 5) (vI h v0 6) = none) → qi (f (0, h')) Q) : qi (z_b (f_Pr_readSame N v0 v1 h) f) Q := by
  refine qi_b (i_Pr_readSame  T kv0 kcu pcu kit pit kpt ppt ktx ptx ht hn n1 tp D gb a0 c d e dv) ?_
  rintro ⟨y, hz⟩ ⟨Tz, ⟨ey, g0, g1, g2, g3, g4⟩ | ⟨ey, g0⟩⟩
  · dsimp only at *; subst ey; exact H1 hz Tz g0 g1 g2 g3 g4
  · dsimp only at *; subst ey; exact H0 hz Tz g0

set_option maxHeartbeats 2000000 in
theorem i_Pr_addOne {L : q_L} {π : Nat → Nat → Option Nat} {N : Nat} {cu : Nat} {it : Nat} {pt : Nat} {h : z_H} {v0 : Nat} (T : x_U L π h) (kv0 : qκ L v0 = 9) (kcu : qκ L cu = 3) (pcu : π v0 0 = some cu) (kit : qκ L it = 5) (pit : π v0 1 = some it) (kpt : qκ L pt = 8) (ppt : π v0 2 = some pt) (D1 : cu + 1 = v0 ∧ v0 + 4 ≤ it ∧ it + 6 ≤ pt) : qi (f_Pr_addOne N v0 h) (fun r => x_U L π r.2 ∧ ((r.1 = 1 ∧ (vI r.2 v0 3 = vI h v0 3 + 1) ∧ (vI r.2 v0 6 = 1) ∧ (¬ vI h v0 3 = 14) ∧ (∀ a k, ¬ ((a = cu ∧ k = 2) ∨ (a = it ∧ k = 4) ∨ (a = v0 ∧ k = 3) ∨ (a = v0 ∧ k = 6)) → vI r.2 a k = vI h a k) ∧ (∀ a, ¬ (a = (it + 1) ∨ a = (it + 2)) → vA r.2 a = vA h a)) ∨ (r.1 = 0 ∧ (vI h v0 3 = 14)))) := by
  unfold f_Pr_addOne
  refine l_gI (e := (vI h v0 3)) rfl ?_
  refine qi_if (fun cc1 => ?_) (fun cc1 => ?_)
  · skip
    refine l_gR T pcu ?_
    refine l_gO ?_
    refine j_Cur_refuse (v0 := cu) (v1 := (0 : Int32)) T kcu ?_
    · intro hr11_2 Thr11_2
      try dsimp only
      refine qi_zB (fun zb3 => ?_)
      refine qi_some ?_
      exact ⟨Thr11_2, Or.inr ⟨rfl, (by show vI h v0 3 = 14; first | assumption | with_reducible rfl | grind)⟩⟩
  · skip
    refine l_gR T pit ?_
    refine l_gO ?_
    refine j_It_add (v0 := it) (v1 := (0 : Int32)) (v2 := (0 : Int32)) T kit ?_
    intro hr5_4 Thr5_4 fr5_4_I fr5_4_A
    try dsimp only
    refine l_gI (e := (vI h v0 3)) (by rw [fr5_4_I v0 3 (by omega)]) ?_
    refine l_sI Thr5_4 kv0 (by decide) rfl ?_
    intro h7_5 Th7_5 ih7_5 ah7_5
    refine l_sI Th7_5 kv0 (by decide) rfl ?_
    intro h8_6 Th8_6 ih8_6 ah8_6
    refine qi_some ?_
    exact ⟨Th8_6, Or.inl ⟨rfl, (by show vI h8_6 v0 3 = vI h v0 3 + 1; rw [show vI h8_6 v0 3 = ((vI h v0 3) + 1) from (by rw [ih8_6 v0 3, if_neg (fun z => absurd z.2 (by decide)), ih7_5 v0 3, if_pos ⟨rfl, rfl⟩])] <;> (first | assumption | with_reducible rfl | grind)), (by show vI h8_6 v0 6 = 1; rw [show vI h8_6 v0 6 = 1 from (by rw [ih8_6 v0 6, if_pos ⟨rfl, rfl⟩])] <;> (first | assumption | with_reducible rfl | grind)), (by show ¬ vI h v0 3 = 14; first | assumption | with_reducible rfl | grind), (fun a k na => by rw [ih8_6 a k, if_neg (fun z => na (Or.inr (Or.inr (Or.inr (z))))), ih7_5 a k, if_neg (fun z => na (Or.inr (Or.inr (Or.inl z)))), fr5_4_I a k (fun z => na (Or.inr (Or.inl z)))]), (fun a na => by rw [ah8_6 a, ah7_5 a, fr5_4_A a (fun z => na (z.elim (fun z => Or.inl z) (fun z => Or.inr (z))))])⟩⟩
theorem j_Pr_addOne {L : q_L} {π : Nat → Nat → Option Nat} {N : Nat} {cu : Nat} {it : Nat} {pt : Nat} {h : z_H} {v0 : Nat} {β : Type} {f : Int32 × z_H → Option β} {Q : β → Prop} (T : x_U L π h) (kv0 : qκ L v0 = 9) (kcu : qκ L cu = 3) (pcu : π v0 0 = some cu) (kit : qκ L it = 5) (pit : π v0 1 = some it) (kpt : qκ L pt = 8) (ppt : π v0 2 = some pt) (D1 : cu + 1 = v0 ∧ v0 + 4 ≤ it ∧ it + 6 ≤ pt) (H1 : ∀ h', x_U L π h' → (vI h' v0 3 = vI h v0 3 + 1) → (vI h' v0 6 = 1) → (¬ vI h v0 3 = 14) → (∀ a k, ¬ ((a = cu ∧ k = 2) ∨ (a = it ∧ k = 4) ∨ (a = v0 ∧ k = 3) ∨ (a = v0 ∧ k = 6)) → vI h' a k = vI h a k) → (∀ a, ¬ (a = (it + 1) ∨ a = (it + 2)) → vA h' a = vA h a) → qi (f (1, h')) Q) (H0 : ∀ h', x_U L π h' → (vI h v0 3 = 14) → qi (f (0, h')) Q) : qi (z_b (f_Pr_addOne N v0 h) f) Q := by
  refine qi_b (i_Pr_addOne  T kv0 kcu pcu kit pit kpt ppt D1) ?_
  rintro ⟨y, hz⟩ ⟨Tz, ⟨ey, g0, g1, g2, g3, g4⟩ | ⟨ey, g0⟩⟩
  · dsimp only at *; subst ey; exact H1 hz Tz g0 g1 g2 g3 g4
  · dsimp only at *; subst ey; exact H0 hz Tz g0

