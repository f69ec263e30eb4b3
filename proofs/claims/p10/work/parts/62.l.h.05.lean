set_option maxHeartbeats 2000000 in
theorem i_Pr_begin {L : q_L} {π : Nat → Nat → Option Nat} {N : Nat} {cu : Nat} {tx : Nat} {t : Int32 → Int32} {n : Int32} {h : z_H} {v0 : Nat} {v1 : Nat} {v2 : Nat} (T : x_U L π h) (kv0 : qκ L v0 = 9) (kv1 : qκ L v1 = 8) (kv2 : qκ L v2 = 5) (kcu : qκ L cu = 3) (pcu : π v0 0 = some cu) (ktx : qκ L tx = 11) (ptx : π cu 0 = some tx) (ht : ∀ j, 0 ≤ j → j < n → vA h (tx + 1) j = t j) (hn : vI h tx 1 = n) (D : cu + 1 = v0 ∧ v0 + 4 ≤ tx ∧ v2 = tx + 2 ∧ v2 + 6 ≤ v1) : qi (f_Pr_begin N v0 v1 v2 h) (fun r => ∃ π1, x_U L π1 r ∧ (∀ a k, ¬ ((a = v0 ∧ k = 1) ∨ (a = v0 ∧ k = 2)) → π1 a k = π a k) ∧ (π1 v0 1 = some v2) ∧ (π1 v0 2 = some v1) ∧ (vI r v0 3 = 0) ∧ (vI r v0 4 = 0) ∧ (vI r v0 5 = 0) ∧ (vI r v0 6 = 0) ∧ (vI r v1 6 = 0) ∧ (vI r cu 1 = (if x_lk t n (vI h cu 1) = 94 then vI h cu 1 + 1 else vI h cu 1)) ∧ (∀ a k, ¬ ((a = v1 ∧ k = 2) ∨ (a = v1 ∧ k = 6) ∨ (a = v1 ∧ k = 1) ∨ (a = v1 ∧ k = 0) ∨ (a = cu ∧ k = 1) ∨ (a = v0 ∧ k = 3) ∨ (a = v0 ∧ k = 4) ∨ (a = v0 ∧ k = 5) ∨ (a = v0 ∧ k = 6)) → vI r a k = vI h a k) ∧ (∀ a, ¬ (a < a) → vA r a = vA h a)) := by
  unfold f_Pr_begin
  refine l_Pr_2 (q := v1) T kv0 ?_
  intro πh1_1 h1_1 Th1_1 ph1_1 ih1_1 ah1_1
  have pp2 : πh1_1 v0 0 = some cu := by rw [ph1_1, if_neg (by omega)]; exact pcu
  have pp3 : πh1_1 cu 0 = some tx := by rw [ph1_1, if_neg (by omega)]; exact ptx
  have pp4 : πh1_1 v0 2 = some v1 := by rw [ph1_1, if_pos ⟨rfl, rfl⟩]
  refine l_Pr_1 (q := v2) Th1_1 kv0 ?_
  intro πh2_5 h2_5 Th2_5 ph2_5 ih2_5 ah2_5
  have pp6 : πh2_5 v0 0 = some cu := by rw [ph2_5, if_neg (by omega)]; exact pp2
  have pp7 : πh2_5 cu 0 = some tx := by rw [ph2_5, if_neg (by omega)]; exact pp3
  have pp8 : πh2_5 v0 2 = some v1 := by rw [ph2_5, if_neg (by omega)]; exact pp4
  have pp9 : πh2_5 v0 1 = some v2 := by rw [ph2_5, if_pos ⟨rfl, rfl⟩]
  refine l_gR Th2_5 pp8 ?_
  refine l_gR Th2_5 pp9 ?_
  refine l_gI (e := (vI h v2 4)) (by rw [ih2_5 v2 4, ih1_1 v2 4]) ?_
  refine l_sI Th2_5 kv1 (by decide) rfl ?_
  intro h6_10 Th6_10 ih6_10 ah6_10
  refine l_gR Th6_10 pp8 ?_
  refine l_sI Th6_10 kv1 (by decide) rfl ?_
  intro h8_11 Th8_11 ih8_11 ah8_11
  refine l_gR Th8_11 pp8 ?_
  refine l_sI Th8_11 kv1 (by decide) rfl ?_
  intro h10_12 Th10_12 ih10_12 ah10_12
  refine l_gR Th10_12 pp8 ?_
  refine l_gR Th10_12 pp6 ?_
  refine l_gO ?_
  refine j_Cur_look (v0 := cu) (v1 := (0 : Int32)) (tx := tx) (t := t) (n := n) (e := (x_lk t n ((vI h cu 1)))) Th10_12 kcu ktx pp7 (by show ∀ j, 0 ≤ j → j < n → vA h10_12 (tx + 1) j = t j; rw [show vA h10_12 (tx + 1) = vA h (tx + 1) from (by rw [ah10_12 (tx + 1), ah8_11 (tx + 1), ah6_10 (tx + 1), ah2_5 (tx + 1), ah1_1 (tx + 1)])] <;> (first | assumption | with_reducible rfl | grind)) (by show vI h10_12 tx 1 = n; rw [show vI h10_12 tx 1 = (vI h tx 1) from (by rw [ih10_12 tx 1, if_neg (fun z => absurd z.1 (by omega)), ih8_11 tx 1, if_neg (fun z => absurd z.2 (by decide)), ih6_10 tx 1, if_neg (fun z => absurd z.2 (by decide)), ih2_5 tx 1, ih1_1 tx 1])] <;> (first | assumption | with_reducible rfl | grind)) (by rw [show vI h10_12 cu 1 = (vI h cu 1) from (by rw [ih10_12 cu 1, if_neg (fun z => absurd z.1 (by omega)), ih8_11 cu 1, if_neg (fun z => absurd z.2 (by decide)), ih6_10 cu 1, if_neg (fun z => absurd z.2 (by decide)), ih2_5 cu 1, ih1_1 cu 1])]; try simp only [Int32.add_zero, x_s11, x_s12, x_s21, x_s13, x_s22, x_s31]) ?_
  try dsimp only
  refine qi_if (fun cc14 => ?_) (fun cc14 => ?_)
  · skip
    unfold f_Pr_begin_62
    refine qi_zB (fun zb16 => ?_)
    refine l_sI Th10_12 kv1 (by decide) rfl ?_
    intro h2i15_17 Th2i15_17 ih2i15_17 ah2i15_17
    refine l_gR Th2i15_17 pp8 ?_
    refine l_gI (e := 1) (by rw [ih2i15_17 v1 0, if_pos ⟨rfl, rfl⟩]) ?_
    refine qi_if (fun cc18 => absurd cc18 (by decide)) (fun _ => ?_)
    refine l_gR Th2i15_17 pp6 ?_
    refine l_gI (e := (vI h cu 1)) (by rw [ih2i15_17 cu 1, if_neg (fun z => absurd z.2 (by decide)), ih10_12 cu 1, if_neg (fun z => absurd z.1 (by omega)), ih8_11 cu 1, if_neg (fun z => absurd z.2 (by decide)), ih6_10 cu 1, if_neg (fun z => absurd z.2 (by decide)), ih2_5 cu 1, ih1_1 cu 1]) ?_
    refine l_sI Th2i15_17 kcu (by decide) rfl ?_
    intro h8i15_19 Th8i15_19 ih8i15_19 ah8i15_19
    unfold f_Pr_begin_88
    refine l_sI Th8i15_19 kv0 (by decide) rfl ?_
    intro h1i20_21 Th1i20_21 ih1i20_21 ah1i20_21
    refine l_sI Th1i20_21 kv0 (by decide) rfl ?_
    intro h2i20_22 Th2i20_22 ih2i20_22 ah2i20_22
    refine l_sI Th2i20_22 kv0 (by decide) rfl ?_
    intro h3i20_23 Th3i20_23 ih3i20_23 ah3i20_23
    refine l_sI Th3i20_23 kv0 (by decide) rfl ?_
    intro h4i20_24 Th4i20_24 ih4i20_24 ah4i20_24
    refine qi_some ?_
    exact ⟨_, Th4i20_24, (fun a k na => by rw [ph2_5 a k, if_neg (by omega), ph1_1 a k, if_neg (by omega)]), pp9, pp8, (by show vI h4i20_24 v0 3 = 0; rw [show vI h4i20_24 v0 3 = 0 from (by rw [ih4i20_24 v0 3, if_neg (fun z => absurd z.2 (by decide)), ih3i20_23 v0 3, if_neg (fun z => absurd z.2 (by decide)), ih2i20_22 v0 3, if_neg (fun z => absurd z.2 (by decide)), ih1i20_21 v0 3, if_pos ⟨rfl, rfl⟩])] <;> (first | assumption | with_reducible rfl | grind)), (by show vI h4i20_24 v0 4 = 0; rw [show vI h4i20_24 v0 4 = 0 from (by rw [ih4i20_24 v0 4, if_neg (fun z => absurd z.2 (by decide)), ih3i20_23 v0 4, if_neg (fun z => absurd z.2 (by decide)), ih2i20_22 v0 4, if_pos ⟨rfl, rfl⟩])] <;> (first | assumption | with_reducible rfl | grind)), (by show vI h4i20_24 v0 5 = 0; rw [show vI h4i20_24 v0 5 = 0 from (by rw [ih4i20_24 v0 5, if_neg (fun z => absurd z.2 (by decide)), ih3i20_23 v0 5, if_pos ⟨rfl, rfl⟩])] <;> (first | assumption | with_reducible rfl | grind)), (by show vI h4i20_24 v0 6 = 0; rw [show vI h4i20_24 v0 6 = 0 from (by rw [ih4i20_24 v0 6, if_pos ⟨rfl, rfl⟩])] <;> (first | assumption | with_reducible rfl | grind)), (by show vI h4i20_24 v1 6 = 0; rw [show vI h4i20_24 v1 6 = 0 from (by rw [ih4i20_24 v1 6, if_neg (fun z => absurd z.1 (by omega)), ih3i20_23 v1 6, if_neg (fun z => absurd z.2 (by decide)), ih2i20_22 v1 6, if_neg (fun z => absurd z.2 (by decide)), ih1i20_21 v1 6, if_neg (fun z => absurd z.2 (by decide)), ih8i15_19 v1 6, if_neg (fun z => absurd z.2 (by decide)), ih2i15_17 v1 6, if_neg (fun z => absurd z.2 (by decide)), ih10_12 v1 6, if_neg (fun z => absurd z.2 (by decide)), ih8_11 v1 6, if_pos ⟨rfl, rfl⟩])] <;> (first | assumption | with_reducible rfl | grind)), (by show vI h4i20_24 cu 1 = (if x_lk t n (vI h cu 1) = 94 then vI h cu 1 + 1 else vI h cu 1); rw [show vI h4i20_24 cu 1 = ((vI h cu 1) + 1) from (by rw [ih4i20_24 cu 1, if_neg (fun z => absurd z.2 (by decide)), ih3i20_23 cu 1, if_neg (fun z => absurd z.2 (by decide)), ih2i20_22 cu 1, if_neg (fun z => absurd z.2 (by decide)), ih1i20_21 cu 1, if_neg (fun z => absurd z.2 (by decide)), ih8i15_19 cu 1, if_pos ⟨rfl, rfl⟩])] <;> (first | (rw [if_pos (by assumption)]) | (rw [if_neg (by assumption)]))), (fun a k na => by rw [ih4i20_24 a k, if_neg (fun z => na (Or.inr (Or.inr (Or.inr (Or.inr (Or.inr (Or.inr (Or.inr (Or.inr (z)))))))))), ih3i20_23 a k, if_neg (fun z => na (Or.inr (Or.inr (Or.inr (Or.inr (Or.inr (Or.inr (Or.inr (Or.inl z))))))))), ih2i20_22 a k, if_neg (fun z => na (Or.inr (Or.inr (Or.inr (Or.inr (Or.inr (Or.inr (Or.inl z)))))))), ih1i20_21 a k, if_neg (fun z => na (Or.inr (Or.inr (Or.inr (Or.inr (Or.inr (Or.inl z))))))), ih8i15_19 a k, if_neg (fun z => na (Or.inr (Or.inr (Or.inr (Or.inr (Or.inl z)))))), ih2i15_17 a k, if_neg (fun z => na (Or.inr (Or.inr (Or.inr (Or.inl z))))), ih10_12 a k, if_neg (fun z => na (Or.inr (Or.inr (Or.inl z)))), ih8_11 a k, if_neg (fun z => na (Or.inr (Or.inl z))), ih6_10 a k, if_neg (fun z => na (Or.inl z)), ih2_5 a k, ih1_1 a k]), (fun a na => by rw [ah4i20_24 a, ah3i20_23 a, ah2i20_22 a, ah1i20_21 a, ah8i15_19 a, ah2i15_17 a, ah10_12 a, ah8_11 a, ah6_10 a, ah2_5 a, ah1_1 a])⟩
  · skip
    unfold f_Pr_begin_62
    refine qi_zB (fun zb26 => ?_)
    refine l_sI Th10_12 kv1 (by decide) rfl ?_
    intro h2i25_27 Th2i25_27 ih2i25_27 ah2i25_27
    refine l_gR Th2i25_27 pp8 ?_
    refine l_gI (e := 0) (by rw [ih2i25_27 v1 0, if_pos ⟨rfl, rfl⟩]) ?_
    refine qi_if (fun _ => ?_) (fun cc28 => absurd (by decide) cc28)
    unfold f_Pr_begin_88
    refine l_sI Th2i25_27 kv0 (by decide) rfl ?_
    intro h1i29_30 Th1i29_30 ih1i29_30 ah1i29_30
    refine l_sI Th1i29_30 kv0 (by decide) rfl ?_
    intro h2i29_31 Th2i29_31 ih2i29_31 ah2i29_31
    refine l_sI Th2i29_31 kv0 (by decide) rfl ?_
    intro h3i29_32 Th3i29_32 ih3i29_32 ah3i29_32
    refine l_sI Th3i29_32 kv0 (by decide) rfl ?_
    intro h4i29_33 Th4i29_33 ih4i29_33 ah4i29_33
    refine qi_some ?_
    exact ⟨_, Th4i29_33, (fun a k na => by rw [ph2_5 a k, if_neg (by omega), ph1_1 a k, if_neg (by omega)]), pp9, pp8, (by show vI h4i29_33 v0 3 = 0; rw [show vI h4i29_33 v0 3 = 0 from (by rw [ih4i29_33 v0 3, if_neg (fun z => absurd z.2 (by decide)), ih3i29_32 v0 3, if_neg (fun z => absurd z.2 (by decide)), ih2i29_31 v0 3, if_neg (fun z => absurd z.2 (by decide)), ih1i29_30 v0 3, if_pos ⟨rfl, rfl⟩])] <;> (first | assumption | with_reducible rfl | grind)), (by show vI h4i29_33 v0 4 = 0; rw [show vI h4i29_33 v0 4 = 0 from (by rw [ih4i29_33 v0 4, if_neg (fun z => absurd z.2 (by decide)), ih3i29_32 v0 4, if_neg (fun z => absurd z.2 (by decide)), ih2i29_31 v0 4, if_pos ⟨rfl, rfl⟩])] <;> (first | assumption | with_reducible rfl | grind)), (by show vI h4i29_33 v0 5 = 0; rw [show vI h4i29_33 v0 5 = 0 from (by rw [ih4i29_33 v0 5, if_neg (fun z => absurd z.2 (by decide)), ih3i29_32 v0 5, if_pos ⟨rfl, rfl⟩])] <;> (first | assumption | with_reducible rfl | grind)), (by show vI h4i29_33 v0 6 = 0; rw [show vI h4i29_33 v0 6 = 0 from (by rw [ih4i29_33 v0 6, if_pos ⟨rfl, rfl⟩])] <;> (first | assumption | with_reducible rfl | grind)), (by show vI h4i29_33 v1 6 = 0; rw [show vI h4i29_33 v1 6 = 0 from (by rw [ih4i29_33 v1 6, if_neg (fun z => absurd z.1 (by omega)), ih3i29_32 v1 6, if_neg (fun z => absurd z.2 (by decide)), ih2i29_31 v1 6, if_neg (fun z => absurd z.2 (by decide)), ih1i29_30 v1 6, if_neg (fun z => absurd z.2 (by decide)), ih2i25_27 v1 6, if_neg (fun z => absurd z.2 (by decide)), ih10_12 v1 6, if_neg (fun z => absurd z.2 (by decide)), ih8_11 v1 6, if_pos ⟨rfl, rfl⟩])] <;> (first | assumption | with_reducible rfl | grind)), (by show vI h4i29_33 cu 1 = (if x_lk t n (vI h cu 1) = 94 then vI h cu 1 + 1 else vI h cu 1); rw [show vI h4i29_33 cu 1 = (vI h cu 1) from (by rw [ih4i29_33 cu 1, if_neg (fun z => absurd z.2 (by decide)), ih3i29_32 cu 1, if_neg (fun z => absurd z.2 (by decide)), ih2i29_31 cu 1, if_neg (fun z => absurd z.2 (by decide)), ih1i29_30 cu 1, if_neg (fun z => absurd z.2 (by decide)), ih2i25_27 cu 1, if_neg (fun z => absurd z.2 (by decide)), ih10_12 cu 1, if_neg (fun z => absurd z.1 (by omega)), ih8_11 cu 1, if_neg (fun z => absurd z.2 (by decide)), ih6_10 cu 1, if_neg (fun z => absurd z.2 (by decide)), ih2_5 cu 1, ih1_1 cu 1])] <;> (first | (rw [if_pos (by assumption)]) | (rw [if_neg (by assumption)]))), (fun a k na => by rw [ih4i29_33 a k, if_neg (fun z => na (Or.inr (Or.inr (Or.inr (Or.inr (Or.inr (Or.inr (Or.inr (Or.inr (z)))))))))), ih3i29_32 a k, if_neg (fun z => na (Or.inr (Or.inr (Or.inr (Or.inr (Or.inr (Or.inr (Or.inr (Or.inl z))))))))), ih2i29_31 a k, if_neg (fun z => na (Or.inr (Or.inr (Or.inr (Or.inr (Or.inr (Or.inr (Or.inl z)))))))), ih1i29_30 a k, if_neg (fun z => na (Or.inr (Or.inr (Or.inr (Or.inr (Or.inr (Or.inl z))))))), ih2i25_27 a k, if_neg (fun z => na (Or.inr (Or.inr (Or.inr (Or.inl z))))), ih10_12 a k, if_neg (fun z => na (Or.inr (Or.inr (Or.inl z)))), ih8_11 a k, if_neg (fun z => na (Or.inr (Or.inl z))), ih6_10 a k, if_neg (fun z => na (Or.inl z)), ih2_5 a k, ih1_1 a k]), (fun a na => by rw [ah4i29_33 a, ah3i29_32 a, ah2i29_31 a, ah1i29_30 a, ah2i25_27 a, ah10_12 a, ah8_11 a, ah6_10 a, ah2_5 a, ah1_1 a])⟩
theorem j_Pr_begin {L : q_L} {π : Nat → Nat → Option Nat} {N : Nat} {cu : Nat} {tx : Nat} {t : Int32 → Int32} {n : Int32} {h : z_H} {v0 : Nat} {v1 : Nat} {v2 : Nat} {β : Type} {f : z_H → Option β} {Q : β → Prop} (T : x_U L π h) (kv0 : qκ L v0 = 9) (kv1 : qκ L v1 = 8) (kv2 : qκ L v2 = 5) (kcu : qκ L cu = 3) (pcu : π v0 0 = some cu) (ktx : qκ L tx = 11) (ptx : π cu 0 = some tx) (ht : ∀ j, 0 ≤ j → j < n → vA h (tx + 1) j = t j) (hn : vI h tx 1 = n) (D : cu + 1 = v0 ∧ v0 + 4 ≤ tx ∧ v2 = tx + 2 ∧ v2 + 6 ≤ v1) (H : ∀ π1 h', x_U L π1 h' → (∀ a k, ¬ ((a = v0 ∧ k = 1) ∨ (a = v0 ∧ k = 2)) → π1 a k = π a k) → (π1 v0 1 = some v2) → (π1 v0 2 = some v1) → (vI h' v0 3 = 0) → (vI h' v0 4 = 0) → (vI h' v0 5 = 0) → (vI h' v0 6 = 0) → (vI h' v1 6 = 0) → (vI h' cu 1 = (if x_lk t n (vI h cu 1) = 94 then vI h cu 1 + 1 else vI h cu 1)) → (∀ a k, ¬ ((a = v1 ∧ k = 2) ∨ (a = v1 ∧ k = 6) ∨ (a = v1 ∧ k = 1) ∨ (a = v1 ∧ k = 0) ∨ (a = cu ∧ k = 1) ∨ (a = v0 ∧ k = 3) ∨ (a = v0 ∧ k = 4) ∨ (a = v0 ∧ k = 5) ∨ (a = v0 ∧ k = 6)) → vI h' a k = vI h a k) → (∀ a, ¬ (a < a) → vA h' a = vA h a) → qi (f h') Q) : qi (z_b (f_Pr_begin N v0 v1 v2 h) f) Q := by
  refine qi_b (i_Pr_begin  T kv0 kv1 kv2 kcu pcu ktx ptx ht hn D) ?_
  rintro hz ⟨π1, Tz, q0, q1, q2, g0, g1, g2, g3, g4, g5, g6, g7⟩
  exact H π1 hz Tz q0 q1 q2 g0 g1 g2 g3 g4 g5 g6 g7

set_option maxHeartbeats 2000000 in
theorem i_Pr_read {L : q_L} {π : Nat → Nat → Option Nat} {N : Nat} {cu : Nat} {tx : Nat} {t : Int32 → Int32} {n : Int32} {h : z_H} {v0 : Nat} {v1 : Nat} {v2 : Nat} (T : x_U L π h) (kv0 : qκ L v0 = 9) (kv1 : qκ L v1 = 8) (kv2 : qκ L v2 = 5) (kcu : qκ L cu = 3) (pcu : π v0 0 = some cu) (ktx : qκ L tx = 11) (ptx : π cu 0 = some tx) (ht : ∀ j, 0 ≤ j → j < n → vA h (tx + 1) j = t j) (hn : vI h tx 1 = n) (n1 : n ≤ 240) (tp : ∀ j, t j ≠ -1) (D : cu + 1 = v0 ∧ v0 + 4 ≤ tx ∧ v2 = tx + 2 ∧ v2 + 6 ≤ v1) (a0 : 0 ≤ vI h cu 1) : qi (f_Pr_read N v0 v1 v2 h) (fun r => ∃ π1, x_U L π1 r.2 ∧ (∀ a k, ¬ ((a = v0 ∧ k = 1) ∨ (a = v0 ∧ k = 2)) → π1 a k = π a k) ∧ ((r.1 = 1 ∧ (π1 v0 1 = some v2) ∧ (π1 v0 2 = some v1) ∧ (x_pattern t n (vI h cu 1) = some (vI r.2 cu 1, vI r.2 v1 6)) ∧ (∀ a k, ¬ ((a = v1 ∧ k = 2) ∨ (a = v1 ∧ k = 6) ∨ (a = v1 ∧ k = 1) ∨ (a = v1 ∧ k = 0) ∨ (a = cu ∧ k = 1) ∨ (a = v0 ∧ k = 3) ∨ (a = v0 ∧ k = 4) ∨ (a = v0 ∧ k = 5) ∨ (a = v0 ∧ k = 6) ∨ (a = v1 ∧ k = 3) ∨ (a = v1 ∧ k = 5) ∨ (a = v1 ∧ k = 4) ∨ (a = cu ∧ k = 2) ∨ (a = v2 ∧ k = 4)) → vI r.2 a k = vI h a k) ∧ (∀ a, ¬ (a = (v2 + 1) ∨ a = (v2 + 2)) → vA r.2 a = vA h a)) ∨ (r.1 = 0 ∧ (x_pattern t n (vI h cu 1) = none)))) := by
  have n2 : n ≤ 1000 := Int32.le_trans n1 (by decide)
  unfold f_Pr_read
  refine l_gO ?_
  refine j_Pr_begin (v0 := v0) (v1 := v1) (v2 := v2) (cu := cu) (tx := tx) (t := t) (n := n) T kv0 kv1 kv2 kcu pcu ktx ptx ht hn D ?_
  intro πhr2_1 hr2_1 Thr2_1 zhr2_1 zhr2_1_0 zhr2_1_1 gr2_1_0 gr2_1_1 gr2_1_2 gr2_1_3 gr2_1_4 gr2_1_5 fr2_1_I fr2_1_A
  have pp2 : πhr2_1 v0 0 = some cu := by rw [zhr2_1 v0 0 (by omega)]; exact pcu
  have pp3 : πhr2_1 cu 0 = some tx := by rw [zhr2_1 cu 0 (by omega)]; exact ptx
  try dsimp only
  refine qi_tailp ?_
  refine j_Pr_read_8 (v0 := v0) (v3 := (0 : Int32)) (cu := cu) (it := v2) (pt := v1) (tx := tx) (t := t) (n := n) Thr2_1 kv0 kcu pp2 kv2 zhr2_1_0 kv1 zhr2_1_1 ktx pp3 (by show ∀ j, 0 ≤ j → j < n → vA hr2_1 (tx + 1) j = t j; rw [show vA hr2_1 (tx + 1) = vA h (tx + 1) from (by rw [fr2_1_A (tx + 1) (by omega)])] <;> (first | assumption | with_reducible rfl | grind)) (by show vI hr2_1 tx 1 = n; rw [show vI hr2_1 tx 1 = (vI h tx 1) from (by rw [fr2_1_I tx 1 (by omega)])] <;> (first | assumption | with_reducible rfl | grind)) n1 tp D (by show 0 ≤ vI hr2_1 v1 6 ∧ vI hr2_1 v1 6 ≤ 3; rw [show vI hr2_1 v1 6 = 0 from (by rw [gr2_1_4])] <;> (decide)) (by show 0 ≤ vI hr2_1 cu 1; rw [show vI hr2_1 cu 1 = (if x_lk t n (vI h cu 1) = 94 then vI h cu 1 + 1 else vI h cu 1) from (by rw [gr2_1_5])] <;> (exact x_if0 n2 a0)) (by show (0 : Int32) ≤ vI hr2_1 cu 1; rw [show vI hr2_1 cu 1 = (if x_lk t n (vI h cu 1) = 94 then vI h cu 1 + 1 else vI h cu 1) from (by rw [gr2_1_5])] <;> (exact x_if0 n2 a0)) ?_ ?_
  · intro hrz4_5 Thrz4_5 g1rz4_5_0 f1rz4_5_I f1rz4_5_A
    try dsimp only
    rw [show vI hr2_1 cu 1 = (if x_lk t n (vI h cu 1) = 94 then vI h cu 1 + 1 else vI h cu 1) from (by rw [gr2_1_5]), show vI hr2_1 v0 3 = 0 from (by rw [gr2_1_0]), show vI hr2_1 v0 4 = 0 from (by rw [gr2_1_1]), show vI hr2_1 v1 6 = 0 from (by rw [gr2_1_4]), show vI hr2_1 v0 5 = 0 from (by rw [gr2_1_2]), show vI hr2_1 v0 6 = 0 from (by rw [gr2_1_3])] at g1rz4_5_0
    refine qi_some ?_
    exact ⟨_, Thrz4_5, (fun a k na => by rw [zhr2_1 a k (by omega)]), Or.inl ⟨rfl, zhr2_1_0, zhr2_1_1, (by show x_pattern t n (vI h cu 1) = some (vI hrz4_5 cu 1, vI hrz4_5 v1 6); rw [x_ptn]; exact g1rz4_5_0), (fun a k na => by rw [f1rz4_5_I a k (fun z => na (z.elim (fun z => Or.inr (Or.inr (Or.inr (Or.inr (Or.inr (Or.inr (Or.inr (Or.inr (Or.inr (Or.inl z)))))))))) (fun z => z.elim (fun z => Or.inr (Or.inr (Or.inr (Or.inr (Or.inr (Or.inr (Or.inr (Or.inr (Or.inr (Or.inr (Or.inl z))))))))))) (fun z => z.elim (fun z => Or.inr (Or.inr (Or.inr (Or.inr (Or.inr (Or.inr (Or.inr (Or.inr (Or.inr (Or.inr (Or.inr (Or.inl z)))))))))))) (fun z => z.elim (fun z => Or.inr (Or.inr (Or.inr (Or.inr (Or.inl z))))) (fun z => z.elim (fun z => Or.inr (Or.inr (Or.inr (Or.inr (Or.inr (Or.inr (Or.inr (Or.inr (Or.inr (Or.inr (Or.inr (Or.inr (Or.inl z))))))))))))) (fun z => z.elim (fun z => Or.inr (Or.inr (Or.inr (Or.inr (Or.inr (Or.inr (Or.inl z))))))) (fun z => z.elim (fun z => Or.inr (Or.inr (Or.inr (Or.inr (Or.inr (Or.inr (Or.inr (Or.inr (Or.inl z))))))))) (fun z => z.elim (fun z => Or.inr (Or.inr (Or.inr (Or.inr (Or.inr (Or.inr (Or.inr (Or.inr (Or.inr (Or.inr (Or.inr (Or.inr (Or.inr (z)))))))))))))) (fun z => z.elim (fun z => Or.inr (Or.inr (Or.inr (Or.inr (Or.inr (Or.inl z)))))) (fun z => z.elim (fun z => Or.inr (Or.inl z)) (fun z => z.elim (fun z => Or.inr (Or.inr (Or.inr (Or.inr (Or.inr (Or.inr (Or.inr (Or.inl z)))))))) (fun z => Or.inr (Or.inr (Or.inl z))))))))))))))), fr2_1_I a k (fun z => na (z.elim (fun z => Or.inl z) (fun z => z.elim (fun z => Or.inr (Or.inl z)) (fun z => z.elim (fun z => Or.inr (Or.inr (Or.inl z))) (fun z => z.elim (fun z => Or.inr (Or.inr (Or.inr (Or.inl z)))) (fun z => z.elim (fun z => Or.inr (Or.inr (Or.inr (Or.inr (Or.inl z))))) (fun z => z.elim (fun z => Or.inr (Or.inr (Or.inr (Or.inr (Or.inr (Or.inl z)))))) (fun z => z.elim (fun z => Or.inr (Or.inr (Or.inr (Or.inr (Or.inr (Or.inr (Or.inl z))))))) (fun z => z.elim (fun z => Or.inr (Or.inr (Or.inr (Or.inr (Or.inr (Or.inr (Or.inr (Or.inl z)))))))) (fun z => Or.inr (Or.inr (Or.inr (Or.inr (Or.inr (Or.inr (Or.inr (Or.inr (Or.inl z))))))))))))))))))]), (fun a na => by rw [f1rz4_5_A a (fun z => na (z.elim (fun z => Or.inl z) (fun z => Or.inr (z)))), fr2_1_A a (by omega)])⟩⟩
  · intro hrz4_5 Thrz4_5 g0rz4_5_0
    try dsimp only
    rw [show vI hr2_1 cu 1 = (if x_lk t n (vI h cu 1) = 94 then vI h cu 1 + 1 else vI h cu 1) from (by rw [gr2_1_5]), show vI hr2_1 v0 3 = 0 from (by rw [gr2_1_0]), show vI hr2_1 v0 4 = 0 from (by rw [gr2_1_1]), show vI hr2_1 v1 6 = 0 from (by rw [gr2_1_4]), show vI hr2_1 v0 5 = 0 from (by rw [gr2_1_2]), show vI hr2_1 v0 6 = 0 from (by rw [gr2_1_3])] at g0rz4_5_0
    refine qi_some ?_
    exact ⟨_, Thrz4_5, (fun a k na => by rw [zhr2_1 a k (by omega)]), Or.inr ⟨rfl, (by show x_pattern t n (vI h cu 1) = none; rw [x_ptn]; exact g0rz4_5_0)⟩⟩
theorem j_Pr_read {L : q_L} {π : Nat → Nat → Option Nat} {N : Nat} {cu : Nat} {tx : Nat} {t : Int32 → Int32} {n : Int32} {h : z_H} {v0 : Nat} {v1 : Nat} {v2 : Nat} {β : Type} {f : Int32 × z_H → Option β} {Q : β → Prop} (T : x_U L π h) (kv0 : qκ L v0 = 9) (kv1 : qκ L v1 = 8) (kv2 : qκ L v2 = 5) (kcu : qκ L cu = 3) (pcu : π v0 0 = some cu) (ktx : qκ L tx = 11) (ptx : π cu 0 = some tx) (ht : ∀ j, 0 ≤ j → j < n → vA h (tx + 1) j = t j) (hn : vI h tx 1 = n) (n1 : n ≤ 240) (tp : ∀ j, t j ≠ -1) (D : cu + 1 = v0 ∧ v0 + 4 ≤ tx ∧ v2 = tx + 2 ∧ v2 + 6 ≤ v1) (a0 : 0 ≤ vI h cu 1) (H1 : ∀ π1 h', x_U L π1 h' → (∀ a k, ¬ ((a = v0 ∧ k = 1) ∨ (a = v0 ∧ k = 2)) → π1 a k = π a k) → (π1 v0 1 = some v2) → (π1 v0 2 = some v1) → (x_pattern t n (vI h cu 1) = some (vI h' cu 1, vI h' v1 6)) → (∀ a k, ¬ ((a = v1 ∧ k = 2) ∨ (a = v1 ∧ k = 6) ∨ (a = v1 ∧ k = 1) ∨ (a = v1 ∧ k = 0) ∨ (a = cu ∧ k = 1) ∨ (a = v0 ∧ k = 3) ∨ (a = v0 ∧ k = 4) ∨ (a = v0 ∧ k = 5) ∨ (a = v0 ∧ k = 6) ∨ (a = v1 ∧ k = 3) ∨ (a = v1 ∧ k = 5) ∨ (a = v1 ∧ k = 4) ∨ (a = cu ∧ k = 2) ∨ (a = v2 ∧ k = 4)) → vI h' a k = vI h a k) → (∀ a, ¬ (a = (v2 + 1) ∨ a = (v2 + 2)) → vA h' a = vA h a) → qi (f (1, h')) Q) (H0 : ∀ π1 h', x_U L π1 h' → (∀ a k, ¬ ((a = v0 ∧ k = 1) ∨ (a = v0 ∧ k = 2)) → π1 a k = π a k) → (x_pattern t n (vI h cu 1) = none) → qi (f (0, h')) Q) : qi (z_b (f_Pr_read N v0 v1 v2 h) f) Q := by
  refine qi_b (i_Pr_read  T kv0 kv1 kv2 kcu pcu ktx ptx ht hn n1 tp D a0) ?_
  rintro ⟨y, hz⟩ ⟨π1, Tz, q0, ⟨ey, g0, g1, g2, g3, g4⟩ | ⟨ey, g0⟩⟩
  · dsimp only at *; subst ey; exact H1 π1 hz Tz q0 g0 g1 g2 g3 g4
  · dsimp only at *; subst ey; exact H0 π1 hz Tz q0 g0
