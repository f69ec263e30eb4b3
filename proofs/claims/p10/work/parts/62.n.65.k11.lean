set_option maxHeartbeats 2000000 in
theorem ii_Row_empty {L : q_L} {π : Nat → Nat → Option Nat} {N : Nat} {h : z_H} {v0 : Nat} (T : x_U L π h) (kv0 : qκ L v0 = 11)  : qi (f_Row_empty N v0 h) (fun r => x_U L π r ∧ (vI r v0 1 = 0) ∧ (∀ a k, ¬ ((a = v0 ∧ k = 1)) → vI r a k = vI h a k) ∧ (∀ a, ¬ (a < a) → vA r a = vA h a) ∧ (∀ a, ¬ (a < a) → vL r a = vL h a)) := by
  unfold f_Row_empty
  refine o_sI T kv0 (by decide) rfl ?_
  intro h1_1 Th1_1 ih1_1 ah1_1 lh1_1
  refine qi_some ?_
  exact ⟨Th1_1, (by show vI h1_1 v0 1 = 0; rw [show vI h1_1 v0 1 = 0 from (by rw [ih1_1 v0 1, if_pos ⟨rfl, rfl⟩])] <;> (first | assumption | with_reducible rfl | grind)), (fun a k na => by rw [ih1_1 a k, if_neg (fun z => na (z))]), (fun a na => by rw [ah1_1 a]), (fun a na => by rw [lh1_1 a])⟩
theorem jj_Row_empty {L : q_L} {π : Nat → Nat → Option Nat} {N : Nat} {h : z_H} {v0 : Nat} {β : Type} {f : z_H → Option β} {Q : β → Prop} (T : x_U L π h) (kv0 : qκ L v0 = 11)  (H : ∀ h', x_U L π h' → (vI h' v0 1 = 0) → (∀ a k, ¬ ((a = v0 ∧ k = 1)) → vI h' a k = vI h a k) → (∀ a, ¬ (a < a) → vA h' a = vA h a) → (∀ a, ¬ (a < a) → vL h' a = vL h a) → qi (f h') Q) : qi (z_b (f_Row_empty N v0 h) f) Q := by
  refine qi_b (ii_Row_empty  T kv0 ) ?_
  rintro hz ⟨Tz, g0, g1, g2, g3⟩
  exact H hz Tz g0 g1 g2 g3

set_option maxHeartbeats 4000000 in
theorem ii_Row_addPart_3 {L : q_L} {π : Nat → Nat → Option Nat} {N : Nat} : ∀ (m9 : Nat) (v0 : Nat) (v1 : Nat) (v3 : Int32) (v4 : Int32) (h : z_H), x_U L π h → qκ L v0 = 11 → qκ L v1 = 11 → (v0 + 2 ≤ v1 ∨ v1 + 2 ≤ v0) → (vI h v0 1 = v4) → (0 ≤ v4 ∧ v4 ≤ v3) → (vI h v1 1 = v3) → (v3 ≤ 240) → (qhi L v0 1 = 240) → (∀ j, 0 ≤ vA h (v1 + 1) j ∧ vA h (v1 + 1) j ≤ 65535) → qi (f_Row_addPart_3 N m9 v0 v1 v3 v4 h) (fun r => x_U L π r ∧ (vI r v0 1 = v3) ∧ (∀ j, v4 ≤ j → j < v3 → vA r (v0 + 1) j = vA h (v1 + 1) j) ∧ (∀ j, 0 ≤ j → j < v4 → vA r (v0 + 1) j = vA h (v0 + 1) j) ∧ (∀ a k, ¬ ((a = v0 ∧ k = 1)) → vI r a k = vI h a k) ∧ (∀ a, ¬ (a = (v0 + 1)) → vA r a = vA h a) ∧ (∀ a, ¬ (a < a) → vL r a = vL h a)) := by
  intro m9
  induction m9 with
  | zero => intro v0 v1 v3 v4 h T kv0 kv1 D w0 w1 w3 w4 wq wc r e; rw [f_Row_addPart_3] at e; cases e
  | succ m9 ih =>
    intro v0 v1 v3 v4 h T kv0 kv1 D w0 w1 w3 w4 wq wc
    rw [f_Row_addPart_3]
    refine qi_if (fun cc1 => ?_) (fun cc1 => ?_)
    · skip
      refine qi_some ?_
      exact ⟨T, (by show vI h v0 1 = v3; rw [w0]; exact Int32.le_antisymm w1.2 cc1), (fun j j1 j2 => absurd (Int32.lt_of_lt_of_le j2 (Int32.le_trans cc1 j1)) Int32.lt_irrefl), (fun j j0 j1 => rfl), (fun a k na => by rfl), (fun a na => by rfl), (fun a na => by rfl)⟩
    · skip
      refine l_gI (e := (vI h v1 1)) rfl ?_
      refine qi_if (fun cc2 => ?_) (fun cc2 => ?_)
      · skip
        refine qi_some ?_
        exact ⟨T, (by show vI h v0 1 = v3; rw [w0]; exact Int32.le_antisymm w1.2 (w3 ▸ cc2)), (fun j j1 j2 => absurd (Int32.lt_of_lt_of_le j2 (Int32.le_trans (w3 ▸ cc2) j1)) Int32.lt_irrefl), (fun j j0 j1 => rfl), (fun a k na => by rfl), (fun a na => by rfl), (fun a na => by rfl)⟩
      · skip
        refine l_gI (e := (vI h v0 1)) rfl ?_
        refine l_gR T (d_Row_0 T kv0) ?_
        refine l_aNr T kv0 ?_
        refine qi_if (fun cc3 => ?_) (fun cc3 => ?_)
        · skip
          refine qi_some ?_
          exact ⟨T, (by show vI h v0 1 = v3; exfalso; exact x_room w0 w1 w4 wq (by assumption) (by assumption)), (by show ∀ j, v4 ≤ j → j < v3 → vA h (v0 + 1) j = vA h (v1 + 1) j; exfalso; exact x_room w0 w1 w4 wq (by assumption) (by assumption)), (fun j j0 j1 => rfl), (fun a k na => by rfl), (fun a na => by rfl), (fun a na => by rfl)⟩
        · skip
          refine l_gR T (d_Row_0 T kv0) ?_
          refine l_gI (e := (vI h v0 1)) rfl ?_
          refine l_gR T (d_Row_0 T kv1) ?_
          refine l_aI (e := (vA h (v1 + 1) v4)) (fun _ => rfl) (fun ix4 => ?_)
          refine o_uI T ?_
          intro h12_5 Th12_5 jh12_5 ih12_5 ah12_5 bh12_5 lh12_5
          refine l_gI (e := (vI h v0 1)) (by rw [ih12_5 v0 1]) ?_
          refine o_sI Th12_5 kv0 (by decide) rfl ?_
          intro h14_6 Th14_6 ih14_6 ah14_6 lh14_6
          refine qi_bs ?_
          refine qi_mono (ih v0 v1 v3 (v4 + 1) h14_6 Th14_6 kv0 kv1 D (by show vI h14_6 v0 1 = (v4 + 1); rw [show vI h14_6 v0 1 = ((vI h v0 1) + 1) from (by rw [ih14_6 v0 1, if_pos ⟨rfl, rfl⟩])] <;> (rw [w0])) (by show 0 ≤ (v4 + 1) ∧ (v4 + 1) ≤ v3; exact x_l4 w1 w4 (Int32.not_le.mp (by assumption))) (by show vI h14_6 v1 1 = v3; rw [show vI h14_6 v1 1 = (vI h v1 1) from (by rw [ih14_6 v1 1, if_neg (fun z => absurd z.1 (by omega)), ih12_5 v1 1])] <;> (first | assumption | with_reducible rfl | grind)) w4 wq (by show ∀ j, 0 ≤ vA h14_6 (v1 + 1) j ∧ vA h14_6 (v1 + 1) j ≤ 65535; rw [show vA h14_6 (v1 + 1) = vA h (v1 + 1) from (by rw [ah14_6 (v1 + 1), bh12_5 (v1 + 1) (by omega)])] <;> (first | assumption | with_reducible rfl | grind))) ?_
          rintro hrz7_8 ⟨Thrz7_8, grz7_8_0, grz7_8_1, grz7_8_2, frz7_8_I, frz7_8_A, frz7_8_L⟩
          try dsimp only at *
          rw [show vA h14_6 (v1 + 1) = vA h (v1 + 1) from (by rw [ah14_6 (v1 + 1), bh12_5 (v1 + 1) (by omega)])] at grz7_8_1
          rw [show vA h14_6 (v0 + 1) = vA h12_5 (v0 + 1) from (by rw [ah14_6 (v0 + 1)])] at grz7_8_2
          exact ⟨Thrz7_8, (by show vI hrz7_8 v0 1 = v3; rw [show vI hrz7_8 v0 1 = v3 from (by rw [grz7_8_0])] <;> (exfalso; exact x_room w0 w1 w4 wq (by assumption) (by assumption))), (fun j j1 j2 => by by_cases q : j = v4; (subst q; rw [grz7_8_2 _ w1.1 (x_l1 w1 j2 w4), ah12_5 (v0 + 1) _ w1.1, if_pos ⟨rfl, w0.symm⟩]; exact x_nar (wc _).1 (wc _).2); (exact grz7_8_1 j (x_l2 w1 w4 j1 q) j2)), (fun j j0 j1 => by rw [grz7_8_2 j j0 (x_l3 w1 w4 j1), ah12_5 (v0 + 1) j j0, if_neg (fun z => absurd (z.2.trans w0) (fun q => absurd (q ▸ j1) Int32.lt_irrefl))]), (fun a k na => by rw [frz7_8_I a k (fun z => na (z)), ih14_6 a k, if_neg (fun z => na (z)), ih12_5 a k]), (fun a na => by rw [frz7_8_A a (fun z => na (z)), ah14_6 a, bh12_5 a (fun z => na (z))]), (fun a na => by rw [frz7_8_L a (by omega), lh14_6 a, lh12_5 a])⟩
theorem jj_Row_addPart_3 {L : q_L} {π : Nat → Nat → Option Nat} {N : Nat} {m9 : Nat} {h : z_H} {v0 : Nat} {v1 : Nat} {v3 : Int32} {v4 : Int32} {β : Type} {f : z_H → Option β} {Q : β → Prop} (T : x_U L π h) (kv0 : qκ L v0 = 11) (kv1 : qκ L v1 = 11) (D : v0 + 2 ≤ v1 ∨ v1 + 2 ≤ v0) (w0 : vI h v0 1 = v4) (w1 : 0 ≤ v4 ∧ v4 ≤ v3) (w3 : vI h v1 1 = v3) (w4 : v3 ≤ 240) (wq : qhi L v0 1 = 240) (wc : ∀ j, 0 ≤ vA h (v1 + 1) j ∧ vA h (v1 + 1) j ≤ 65535) (H : ∀ h', x_U L π h' → (vI h' v0 1 = v3) → (∀ j, v4 ≤ j → j < v3 → vA h' (v0 + 1) j = vA h (v1 + 1) j) → (∀ j, 0 ≤ j → j < v4 → vA h' (v0 + 1) j = vA h (v0 + 1) j) → (∀ a k, ¬ ((a = v0 ∧ k = 1)) → vI h' a k = vI h a k) → (∀ a, ¬ (a = (v0 + 1)) → vA h' a = vA h a) → (∀ a, ¬ (a < a) → vL h' a = vL h a) → qi (f h') Q) : qi (z_b (f_Row_addPart_3 N m9 v0 v1 v3 v4 h) f) Q := by
  refine qi_b (ii_Row_addPart_3 m9 v0 v1 v3 v4 h  T kv0 kv1 D w0 w1 w3 w4 wq wc) ?_
  rintro hz ⟨Tz, g0, g1, g2, g3, g4, g5⟩
  exact H hz Tz g0 g1 g2 g3 g4 g5

set_option maxHeartbeats 2000000 in
theorem ii_Row_addPart {L : q_L} {π : Nat → Nat → Option Nat} {N : Nat} {h : z_H} {v0 : Nat} {v1 : Nat} {v2 : Int32} {v3 : Int32} (T : x_U L π h) (kv0 : qκ L v0 = 11) (kv1 : qκ L v1 = 11) (D : v0 + 2 ≤ v1 ∨ v1 + 2 ≤ v0) (z2 : v2 = 0) (w0 : vI h v0 1 = 0) (w1 : 0 ≤ v3 ∧ v3 ≤ 240) (w3 : vI h v1 1 = v3) (wq : qhi L v0 1 = 240) (wc : ∀ j, 0 ≤ vA h (v1 + 1) j ∧ vA h (v1 + 1) j ≤ 65535) : qi (f_Row_addPart N v0 v1 v2 v3 h) (fun r => x_U L π r ∧ (vI r v0 1 = v3) ∧ (∀ j, 0 ≤ j → j < v3 → vA r (v0 + 1) j = vA h (v1 + 1) j) ∧ (∀ a k, ¬ ((a = v0 ∧ k = 1)) → vI r a k = vI h a k) ∧ (∀ a, ¬ (a = (v0 + 1)) → vA r a = vA h a) ∧ (∀ a, ¬ (a < a) → vL r a = vL h a)) := by
  unfold f_Row_addPart
  refine qi_tail ?_
  refine jj_Row_addPart_3 (v0 := v0) (v1 := v1) (v3 := v3) (v4 := v2) T kv0 kv1 D (by show vI h v0 1 = v2; rw [w0, z2]) (by show 0 ≤ v2 ∧ v2 ≤ v3; rw [z2]; exact ⟨by decide, w1.1⟩) w3 (by show v3 ≤ 240; exact w1.2) wq wc ?_
  intro hrz1_2 Thrz1_2 grz1_2_0 grz1_2_1 grz1_2_2 frz1_2_I frz1_2_A frz1_2_L
  try dsimp only
  refine qi_some ?_
  exact ⟨Thrz1_2, (by show vI hrz1_2 v0 1 = v3; rw [show vI hrz1_2 v0 1 = v3 from (by rw [grz1_2_0])] <;> (first | assumption | with_reducible rfl | grind)), (fun j j0 j1 => grz1_2_1 j (z2 ▸ j0) j1), (fun a k na => by rw [frz1_2_I a k (fun z => na (z))]), (fun a na => by rw [frz1_2_A a (fun z => na (z))]), (fun a na => by rw [frz1_2_L a (by omega)])⟩
theorem jj_Row_addPart {L : q_L} {π : Nat → Nat → Option Nat} {N : Nat} {h : z_H} {v0 : Nat} {v1 : Nat} {v2 : Int32} {v3 : Int32} {β : Type} {f : z_H → Option β} {Q : β → Prop} (T : x_U L π h) (kv0 : qκ L v0 = 11) (kv1 : qκ L v1 = 11) (D : v0 + 2 ≤ v1 ∨ v1 + 2 ≤ v0) (z2 : v2 = 0) (w0 : vI h v0 1 = 0) (w1 : 0 ≤ v3 ∧ v3 ≤ 240) (w3 : vI h v1 1 = v3) (wq : qhi L v0 1 = 240) (wc : ∀ j, 0 ≤ vA h (v1 + 1) j ∧ vA h (v1 + 1) j ≤ 65535) (H : ∀ h', x_U L π h' → (vI h' v0 1 = v3) → (∀ j, 0 ≤ j → j < v3 → vA h' (v0 + 1) j = vA h (v1 + 1) j) → (∀ a k, ¬ ((a = v0 ∧ k = 1)) → vI h' a k = vI h a k) → (∀ a, ¬ (a = (v0 + 1)) → vA h' a = vA h a) → (∀ a, ¬ (a < a) → vL h' a = vL h a) → qi (f h') Q) : qi (z_b (f_Row_addPart N v0 v1 v2 v3 h) f) Q := by
  refine qi_b (ii_Row_addPart  T kv0 kv1 D z2 w0 w1 w3 wq wc) ?_
  rintro hz ⟨Tz, g0, g1, g2, g3, g4⟩
  exact H hz Tz g0 g1 g2 g3 g4

set_option maxHeartbeats 2000000 in
theorem ii_Pa_begin_79 {L : q_L} {π : Nat → Nat → Option Nat} {N : Nat} : ∀ (m9 : Nat) (v0 : Nat) (v3 : Int32) (h : z_H), x_U L π h → qκ L v0 = 7 → (0 ≤ v3) → (∀ j, 0 ≤ j → j < v3 → vA h (v0 + 4) j = -1) → qi (f_Pa_begin_79 N m9 v0 v3 h) (fun r => x_U L π r ∧ (∀ j, 0 ≤ j → j < 26 → vA r (v0 + 4) j = -1) ∧ (∀ a k, ¬ (a < a) → vI r a k = vI h a k) ∧ (∀ a, ¬ (a = (v0 + 4)) → vA r a = vA h a) ∧ (∀ a, ¬ (a < a) → vL r a = vL h a)) := by
  intro m9
  induction m9 with
  | zero => intro v0 v3 h T kv0 w3 wl r e; rw [f_Pa_begin_79] at e; cases e
  | succ m9 ih =>
    intro v0 v3 h T kv0 w3 wl
    rw [f_Pa_begin_79]
    refine qi_if (fun cc1 => ?_) (fun cc1 => ?_)
    · skip
      refine qi_some ?_
      exact ⟨T, (fun j j0 j1 => wl j j0 (Int32.lt_of_lt_of_le j1 (by assumption))), (fun a k na => by rfl), (fun a na => by rfl), (fun a na => by rfl)⟩
    · skip
      refine l_gR T (d_Pa_3 T kv0) ?_
      refine o_uI T ?_
      intro h3_2 Th3_2 jh3_2 ih3_2 ah3_2 bh3_2 lh3_2
      refine qi_bs ?_
      refine qi_mono (ih v0 (v3 + 1) h3_2 Th3_2 kv0 (by show 0 ≤ (v3 + 1); exact x_inc w3 (Int32.not_le.mp (by assumption)) (by decide)) (by show ∀ j, 0 ≤ j → j < (v3 + 1) → vA h3_2 (v0 + 4) j = -1; intro j j0 j1; by_cases q : j = v3; (rw [ah3_2 (v0 + 4) j j0, if_pos ⟨rfl, q⟩]); (rw [ah3_2 (v0 + 4) j j0, if_neg (fun z => q z.2)]; exact wl j j0 (x_l5 w3 (Int32.not_le.mp (by assumption)) j1 q)))) ?_
      rintro hrz3_4 ⟨Thrz3_4, grz3_4_0, frz3_4_I, frz3_4_A, frz3_4_L⟩
      try dsimp only at *
      exact ⟨Thrz3_4, grz3_4_0, (fun a k na => by rw [frz3_4_I a k (by omega), ih3_2 a k]), (fun a na => by rw [frz3_4_A a (fun z => na (z)), bh3_2 a (fun z => na (z))]), (fun a na => by rw [frz3_4_L a (by omega), lh3_2 a])⟩
theorem jj_Pa_begin_79 {L : q_L} {π : Nat → Nat → Option Nat} {N : Nat} {m9 : Nat} {h : z_H} {v0 : Nat} {v3 : Int32} {β : Type} {f : z_H → Option β} {Q : β → Prop} (T : x_U L π h) (kv0 : qκ L v0 = 7) (w3 : 0 ≤ v3) (wl : ∀ j, 0 ≤ j → j < v3 → vA h (v0 + 4) j = -1) (H : ∀ h', x_U L π h' → (∀ j, 0 ≤ j → j < 26 → vA h' (v0 + 4) j = -1) → (∀ a k, ¬ (a < a) → vI h' a k = vI h a k) → (∀ a, ¬ (a = (v0 + 4)) → vA h' a = vA h a) → (∀ a, ¬ (a < a) → vL h' a = vL h a) → qi (f h') Q) : qi (z_b (f_Pa_begin_79 N m9 v0 v3 h) f) Q := by
  refine qi_b (ii_Pa_begin_79 m9 v0 v3 h  T kv0 w3 wl) ?_
  rintro hz ⟨Tz, g0, g1, g2, g3⟩
  exact H hz Tz g0 g1 g2 g3

set_option maxHeartbeats 4000000 in
theorem ii_Pa_begin {L : q_L} {π : Nat → Nat → Option Nat} {N : Nat} {h : z_H} {v0 : Nat} {v1 : Nat} {v2 : Nat} (T : x_U L π h) (kv0 : qκ L v0 = 7) (kv1 : qκ L v1 = 11) (kv2 : qκ L v2 = 10) (D : v1 + 2 ≤ v0 ∧ v0 + 5 ≤ v2) (wl : 0 ≤ vI h v1 1 ∧ vI h v1 1 ≤ 240) (wc : ∀ j, 0 ≤ vA h (v1 + 1) j ∧ vA h (v1 + 1) j ≤ 65535) : qi (f_Pa_begin N v0 v1 v2 h) (fun r => ∃ π1, x_U L π1 r ∧ (∀ a k, ¬ ((a = v0 ∧ k = 5) ∨ (a = (v0 + 1) ∧ k = 0)) → π1 a k = π a k) ∧ (π1 v0 5 = some v2) ∧ (π1 (v0 + 1) 0 = some (v2 + 1)) ∧ (vI r (v0 + 1) 1 = 0) ∧ (vI r v0 4 = 0) ∧ (vI r v2 3 = 0) ∧ (vI r (v2 + 1) 1 = vI h v1 1) ∧ (∀ j, 0 ≤ j → j < vI h v1 1 → vA r ((v2 + 1) + 1) j = vA h (v1 + 1) j) ∧ (∀ j, 0 ≤ j → j < 26 → vA r (v0 + 4) j = -1) ∧ (vI r (v2 + 3) 4 = 0) ∧ (∀ a k, ¬ ((a = (v2 + 1) ∧ k = 1) ∨ (a = (v2 + 3) ∧ k = 4) ∨ (a = v2 ∧ k = 3) ∨ (a = (v0 + 1) ∧ k = 1) ∨ (a = v0 ∧ k = 4)) → vI r a k = vI h a k) ∧ (∀ a, ¬ (a = ((v2 + 1) + 1) ∨ a = (v0 + 4)) → vA r a = vA h a) ∧ (∀ a, ¬ (a < a) → vL r a = vL h a)) := by
  have wq9 := e_cap T kv2
  unfold f_Pa_begin
  refine o_Pa_5 (q := v2) T kv0 ?_
  intro πh1_1 h1_1 Th1_1 ph1_1 ih1_1 ah1_1 lh1_1
  have pp2 : πh1_1 v0 5 = some v2 := by rw [ph1_1, if_pos ⟨rfl, rfl⟩]
  refine l_gR Th1_1 pp2 ?_
  refine l_gR Th1_1 (d_Prog_0 Th1_1 kv2) ?_
  have kk3 := e_Prog_0 Th1_1 kv2
  refine l_gO ?_
  refine jj_Row_empty (v0 := (v2 + 1)) Th1_1 kk3 ?_
  intro hr5_4 Thr5_4 gr5_4_0 fr5_4_I fr5_4_A fr5_4_L
  try dsimp only
  refine l_gR Thr5_4 pp2 ?_
  refine l_gR Thr5_4 (d_Prog_0 Thr5_4 kv2) ?_
  refine l_gI (e := (vI h v1 1)) (by rw [fr5_4_I v1 1 (by omega), ih1_1 v1 1]) ?_
  refine l_gO ?_
  refine jj_Row_addPart (v0 := (v2 + 1)) (v1 := v1) (v2 := (0 : Int32)) (v3 := (vI h v1 1)) Thr5_4 kk3 kv1 (by show (v2 + 1) + 2 ≤ v1 ∨ v1 + 2 ≤ (v2 + 1); omega) (by show (0 : Int32) = 0; rfl) (by show vI hr5_4 (v2 + 1) 1 = 0; rw [show vI hr5_4 (v2 + 1) 1 = 0 from (by rw [gr5_4_0])] <;> (first | assumption | with_reducible rfl | grind)) (by show 0 ≤ (vI h v1 1) ∧ (vI h v1 1) ≤ 240; first | assumption | with_reducible rfl | grind) (by show vI hr5_4 v1 1 = (vI h v1 1); rw [show vI hr5_4 v1 1 = (vI h v1 1) from (by rw [fr5_4_I v1 1 (by omega), ih1_1 v1 1])] <;> (first | assumption | with_reducible rfl | grind)) (by show qhi L (v2 + 1) 1 = 240; exact wq9) (by show ∀ j, 0 ≤ vA hr5_4 (v1 + 1) j ∧ vA hr5_4 (v1 + 1) j ≤ 65535; rw [show vA hr5_4 (v1 + 1) = vA h (v1 + 1) from (by rw [fr5_4_A (v1 + 1) (by omega), ah1_1 (v1 + 1)])] <;> (first | assumption | with_reducible rfl | grind)) ?_
  intro hr10_5 Thr10_5 gr10_5_0 gr10_5_1 fr10_5_I fr10_5_A fr10_5_L
  try dsimp only
  rw [show vA hr5_4 (v1 + 1) = vA h (v1 + 1) from (by rw [fr5_4_A (v1 + 1) (by omega), ah1_1 (v1 + 1)])] at gr10_5_1
  try simp only [Int32.add_zero, x_am1, x_s11, x_s12, x_s21, x_s13, x_s22, x_s31] at gr10_5_1
  refine l_gR Thr10_5 pp2 ?_
  refine l_gR Thr10_5 (d_Prog_1 Thr10_5 kv2) ?_
  have kk6 := e_Prog_1 Thr10_5 kv2
  refine o_sI Thr10_5 kk6 (by decide) rfl ?_
  intro h13_7 Th13_7 ih13_7 ah13_7 lh13_7
  refine l_gR Th13_7 pp2 ?_
  refine o_sI Th13_7 kv2 (by decide) rfl ?_
  intro h15_8 Th15_8 ih15_8 ah15_8 lh15_8
  refine l_gR Th15_8 (d_Pa_0 Th15_8 kv0) ?_
  have kk9 := e_Pa_0 Th15_8 kv0
  refine l_gR Th15_8 pp2 ?_
  refine l_gR Th15_8 (d_Prog_0 Th15_8 kv2) ?_
  refine o_Cur_0 (q := (v2 + 1)) Th15_8 kk9 ?_
  intro πh19_10 h19_10 Th19_10 ph19_10 ih19_10 ah19_10 lh19_10
  have pp11 : πh19_10 v0 5 = some v2 := by rw [ph19_10, if_neg (by omega)]; exact pp2
  have pp12 : πh19_10 (v0 + 1) 0 = some (v2 + 1) := by rw [ph19_10, if_pos ⟨rfl, rfl⟩]
  refine l_gR Th19_10 (d_Pa_0 Th19_10 kv0) ?_
  refine o_sI Th19_10 kk9 (by decide) rfl ?_
  intro h21_13 Th21_13 ih21_13 ah21_13 lh21_13
  refine o_sI Th21_13 kv0 (by decide) rfl ?_
  intro h22_14 Th22_14 ih22_14 ah22_14 lh22_14
  refine qi_tail ?_
  refine jj_Pa_begin_79 (v0 := v0) (v3 := (0 : Int32)) Th22_14 kv0 (by show 0 ≤ (0 : Int32); decide) (by show ∀ j, 0 ≤ j → j < (0 : Int32) → vA h22_14 (v0 + 4) j = -1; rw [show vA h22_14 (v0 + 4) = vA h (v0 + 4) from (by rw [ah22_14 (v0 + 4), ah21_13 (v0 + 4), ah19_10 (v0 + 4), ah15_8 (v0 + 4), ah13_7 (v0 + 4), fr10_5_A (v0 + 4) (by omega), fr5_4_A (v0 + 4) (by omega), ah1_1 (v0 + 4)])] <;> (exact fun j j0 j1 => absurd (Int32.lt_of_le_of_lt j0 j1) (by decide))) ?_
  intro hrz15_16 Thrz15_16 grz15_16_0 frz15_16_I frz15_16_A frz15_16_L
  try dsimp only
  refine qi_some ?_
  exact ⟨_, Thrz15_16, (fun a k na => by rw [ph19_10 a k, if_neg (by omega), ph1_1 a k, if_neg (by omega)]), pp11, pp12, (by show vI hrz15_16 (v0 + 1) 1 = 0; rw [show vI hrz15_16 (v0 + 1) 1 = 0 from (by rw [frz15_16_I (v0 + 1) 1 (by omega), ih22_14 (v0 + 1) 1, if_neg (fun z => absurd z.2 (by decide)), ih21_13 (v0 + 1) 1, if_pos ⟨rfl, rfl⟩])] <;> (first | assumption | with_reducible rfl | grind)), (by show vI hrz15_16 v0 4 = 0; rw [show vI hrz15_16 v0 4 = 0 from (by rw [frz15_16_I v0 4 (by omega), ih22_14 v0 4, if_pos ⟨rfl, rfl⟩])] <;> (first | assumption | with_reducible rfl | grind)), (by show vI hrz15_16 v2 3 = 0; rw [show vI hrz15_16 v2 3 = 0 from (by rw [frz15_16_I v2 3 (by omega), ih22_14 v2 3, if_neg (fun z => absurd z.2 (by decide)), ih21_13 v2 3, if_neg (fun z => absurd z.2 (by decide)), ih19_10 v2 3, ih15_8 v2 3, if_pos ⟨rfl, rfl⟩])] <;> (first | assumption | with_reducible rfl | grind)), (by show vI hrz15_16 (v2 + 1) 1 = vI h v1 1; rw [show vI hrz15_16 (v2 + 1) 1 = (vI h v1 1) from (by rw [frz15_16_I (v2 + 1) 1 (by omega), ih22_14 (v2 + 1) 1, if_neg (fun z => absurd z.2 (by decide)), ih21_13 (v2 + 1) 1, if_neg (fun z => absurd z.1 (by omega)), ih19_10 (v2 + 1) 1, ih15_8 (v2 + 1) 1, if_neg (fun z => absurd z.2 (by decide)), ih13_7 (v2 + 1) 1, if_neg (fun z => absurd z.2 (by decide)), gr10_5_0])] <;> (first | assumption | with_reducible rfl | grind)), (by show ∀ j, 0 ≤ j → j < vI h v1 1 → vA hrz15_16 ((v2 + 1) + 1) j = vA h (v1 + 1) j; rw [show vA hrz15_16 ((v2 + 1) + 1) = vA hr10_5 ((v2 + 1) + 1) from (by rw [frz15_16_A ((v2 + 1) + 1) (by omega), ah22_14 ((v2 + 1) + 1), ah21_13 ((v2 + 1) + 1), ah19_10 ((v2 + 1) + 1), ah15_8 ((v2 + 1) + 1), ah13_7 ((v2 + 1) + 1)])] <;> ((try simp only [Int32.add_zero, x_am1, x_s11, x_s12, x_s21, x_s13, x_s22, x_s31]) <;> (first | assumption | with_reducible rfl | grind))), grz15_16_0, (by show vI hrz15_16 (v2 + 3) 4 = 0; rw [show vI hrz15_16 (v2 + 3) 4 = 0 from (by rw [frz15_16_I (v2 + 3) 4 (by omega), ih22_14 (v2 + 3) 4, if_neg (fun z => absurd z.1 (by omega)), ih21_13 (v2 + 3) 4, if_neg (fun z => absurd z.2 (by decide)), ih19_10 (v2 + 3) 4, ih15_8 (v2 + 3) 4, if_neg (fun z => absurd z.2 (by decide)), ih13_7 (v2 + 3) 4, if_pos ⟨rfl, rfl⟩])] <;> (first | assumption | with_reducible rfl | grind)), (fun a k na => by rw [frz15_16_I a k (by omega), ih22_14 a k, if_neg (fun z => na (Or.inr (Or.inr (Or.inr (Or.inr (z)))))), ih21_13 a k, if_neg (fun z => na (Or.inr (Or.inr (Or.inr (Or.inl z))))), ih19_10 a k, ih15_8 a k, if_neg (fun z => na (Or.inr (Or.inr (Or.inl z)))), ih13_7 a k, if_neg (fun z => na (Or.inr (Or.inl z))), fr10_5_I a k (fun z => na (Or.inl z)), fr5_4_I a k (fun z => na (Or.inl z)), ih1_1 a k]), (fun a na => by rw [frz15_16_A a (fun z => na (Or.inr (z))), ah22_14 a, ah21_13 a, ah19_10 a, ah15_8 a, ah13_7 a, fr10_5_A a (fun z => na (Or.inl z)), fr5_4_A a (by omega), ah1_1 a]), (fun a na => by rw [frz15_16_L a (by omega), lh22_14 a, lh21_13 a, lh19_10 a, lh15_8 a, lh13_7 a, fr10_5_L a (by omega), fr5_4_L a (by omega), lh1_1 a])⟩
theorem jj_Pa_begin {L : q_L} {π : Nat → Nat → Option Nat} {N : Nat} {h : z_H} {v0 : Nat} {v1 : Nat} {v2 : Nat} {β : Type} {f : z_H → Option β} {Q : β → Prop} (T : x_U L π h) (kv0 : qκ L v0 = 7) (kv1 : qκ L v1 = 11) (kv2 : qκ L v2 = 10) (D : v1 + 2 ≤ v0 ∧ v0 + 5 ≤ v2) (wl : 0 ≤ vI h v1 1 ∧ vI h v1 1 ≤ 240) (wc : ∀ j, 0 ≤ vA h (v1 + 1) j ∧ vA h (v1 + 1) j ≤ 65535) (H : ∀ π1 h', x_U L π1 h' → (∀ a k, ¬ ((a = v0 ∧ k = 5) ∨ (a = (v0 + 1) ∧ k = 0)) → π1 a k = π a k) → (π1 v0 5 = some v2) → (π1 (v0 + 1) 0 = some (v2 + 1)) → (vI h' (v0 + 1) 1 = 0) → (vI h' v0 4 = 0) → (vI h' v2 3 = 0) → (vI h' (v2 + 1) 1 = vI h v1 1) → (∀ j, 0 ≤ j → j < vI h v1 1 → vA h' ((v2 + 1) + 1) j = vA h (v1 + 1) j) → (∀ j, 0 ≤ j → j < 26 → vA h' (v0 + 4) j = -1) → (vI h' (v2 + 3) 4 = 0) → (∀ a k, ¬ ((a = (v2 + 1) ∧ k = 1) ∨ (a = (v2 + 3) ∧ k = 4) ∨ (a = v2 ∧ k = 3) ∨ (a = (v0 + 1) ∧ k = 1) ∨ (a = v0 ∧ k = 4)) → vI h' a k = vI h a k) → (∀ a, ¬ (a = ((v2 + 1) + 1) ∨ a = (v0 + 4)) → vA h' a = vA h a) → (∀ a, ¬ (a < a) → vL h' a = vL h a) → qi (f h') Q) : qi (z_b (f_Pa_begin N v0 v1 v2 h) f) Q := by
  refine qi_b (ii_Pa_begin  T kv0 kv1 kv2 D wl wc) ?_
  rintro hz ⟨π1, Tz, q0, q1, q2, g0, g1, g2, g3, g4, g5, g6, g7, g8, g9⟩
  exact H π1 hz Tz q0 q1 q2 g0 g1 g2 g3 g4 g5 g6 g7 g8 g9

set_option maxHeartbeats 4000000 in
theorem ii_Pa_read {L : q_L} {π : Nat → Nat → Option Nat} {N : Nat} {t : Int32 → Int32} {n : Int32} {h : z_H} {v0 : Nat} {v1 : Nat} {v2 : Nat} (T : x_U L π h) (kv0 : qκ L v0 = 7) (kv1 : qκ L v1 = 11) (kv2 : qκ L v2 = 10) (ppc : π (v0 + 2) 0 = some (v0 + 1)) (ht : ∀ j, 0 ≤ j → j < n → vA h (v1 + 1) j = t j) (hn : vI h v1 1 = n) (n1 : n ≤ 240) (tp : ∀ j, t j ≠ -1) (D : v1 + 2 ≤ v0 ∧ v0 + 5 ≤ v2) (wl : 0 ≤ vI h v1 1 ∧ vI h v1 1 ≤ 240) (wc : ∀ j, 0 ≤ vA h (v1 + 1) j ∧ vA h (v1 + 1) j ≤ 65535) (kt : ∀ j, x_kc (t j)) : qi (f_Pa_read N v0 v1 v2 h) (fun r => ∃ π1, x_U L π1 r.2 ∧ (∀ a k, ¬ ((a = v0 ∧ k = 5) ∨ (a = (v0 + 1) ∧ k = 0) ∨ (a = v0 ∧ k = 6) ∨ (a = (v0 + 2) ∧ k = 1) ∨ (a = (v0 + 2) ∧ k = 2)) → π1 a k = π a k) ∧ ((r.1 = 1 ∧ (π1 v0 5 = some v2) ∧ (π1 (v0 + 1) 0 = some (v2 + 1)) ∧ (x_P1 (x_scr t n 0 0 0 (fun _ => 0) (fun _ => -1)) (vI r.2 v2 3)) ∧ (c_PRG r.2 v2 t n (x_sW t n x_S00)) ∧ (c_TX r.2 v2 t n)) ∨ (r.1 = 0 ∧ (x_P0 (x_scr t n 0 0 0 (fun _ => 0) (fun _ => -1)))))) := by
  have n2 : n ≤ 1000 := Int32.le_trans n1 (by decide)
  have kpc := e_Pa_0 T kv0
  have ktx9 := e_Prog_0 T kv2
  unfold f_Pa_read
  refine l_gO ?_
  refine jj_Pa_begin (v0 := v0) (v1 := v1) (v2 := v2) T kv0 kv1 kv2 D wl wc ?_
  intro πhr2_1 hr2_1 Thr2_1 zhr2_1 zhr2_1_0 zhr2_1_1 gr2_1_0 gr2_1_1 gr2_1_2 gr2_1_3 gr2_1_4 gr2_1_5 gr2_1_6 fr2_1_I fr2_1_A fr2_1_L
  have pp2 : πhr2_1 (v0 + 2) 0 = some (v0 + 1) := by rw [zhr2_1 (v0 + 2) 0 (by omega)]; exact ppc
  try dsimp only
  try simp only [Int32.add_zero, x_am1, x_s11, x_s12, x_s21, x_s13, x_s22, x_s31] at gr2_1_4
  refine qi_tailp ?_
  refine jj_Pa_read_8 (v0 := v0) (v3 := (0 : Int32)) (pg := v2) (t := t) (n := n) (lab := (fun _ => 0)) (use := (fun _ => -1)) (B := x_S00) Thr2_1 kv0 kv2 zhr2_1_0 zhr2_1_1 pp2 (by show ∀ j, 0 ≤ j → j < n → vA hr2_1 ((v2 + 1) + 1) j = t j; (try simp only [Int32.add_zero, x_am1, x_s11, x_s12, x_s21, x_s13, x_s22, x_s31]) <;> (intro j j0 j1; rw [gr2_1_4 j j0 (hn ▸ j1)]; exact ht j j0 j1)) (by show vI hr2_1 (v2 + 1) 1 = n; rw [show vI hr2_1 (v2 + 1) 1 = (vI h v1 1) from (by rw [gr2_1_3])] <;> (exact hn)) n1 tp (by show v0 + 5 ≤ v2; exact D.2) (by show 0 ≤ vI hr2_1 (v0 + 1) 1; rw [show vI hr2_1 (v0 + 1) 1 = 0 from (by rw [gr2_1_0])] <;> (decide)) (by show x_R1 x_abc (vA hr2_1 (v0 + 4)) (fun _ => 0); exact x_R10 gr2_1_5) (by show x_R2 hr2_1 v2 (vI hr2_1 v2 3) (fun _ => -1); rw [show vI hr2_1 v2 3 = 0 from (by rw [gr2_1_2])] <;> (exact fun k k0 k1 => absurd (Int32.lt_of_le_of_lt k0 k1) (by decide))) (by show 0 ≤ vI hr2_1 v2 3 ∧ vI hr2_1 v2 3 ≤ 40; rw [show vI hr2_1 v2 3 = 0 from (by rw [gr2_1_2])] <;> (decide)) (by show (0 : Int32) ≤ vI hr2_1 (v0 + 1) 1; rw [show vI hr2_1 (v0 + 1) 1 = 0 from (by rw [gr2_1_0])] <;> (decide)) kt (by show 0 ≤ vI hr2_1 (v2 + 3) 4 ∧ vI hr2_1 (v2 + 3) 4 ≤ vI hr2_1 (v0 + 1) 1; rw [show vI hr2_1 (v2 + 3) 4 = 0 from (by rw [gr2_1_6]), show vI hr2_1 (v0 + 1) 1 = 0 from (by rw [gr2_1_0])] <;> (exact ⟨by decide, by decide⟩)) (c_SC0 (by show vI hr2_1 (v0 + 1) 1 = 0; rw [show vI hr2_1 (v0 + 1) 1 = 0 from (by rw [gr2_1_0])] <;> (first | assumption | with_reducible rfl | grind)) (by show vI hr2_1 v0 4 = 0; rw [show vI hr2_1 v0 4 = 0 from (by rw [gr2_1_1])] <;> (first | assumption | with_reducible rfl | grind)) (by show vI hr2_1 v2 3 = 0; rw [show vI hr2_1 v2 3 = 0 from (by rw [gr2_1_2])] <;> (first | assumption | with_reducible rfl | grind)) gr2_1_5) ?_ ?_
  · intro πhrz3_4 hrz3_4 Thrz3_4 zhrz3_4 g1rz3_4_0 g1rz3_4_1 g1rz3_4_2
    have pp5 : πhrz3_4 (v0 + 2) 0 = some (v0 + 1) := by rw [zhrz3_4 (v0 + 2) 0 (by omega)]; exact pp2
    have pp6 : πhrz3_4 v0 5 = some v2 := by rw [zhrz3_4 v0 5 (by omega)]; exact zhr2_1_0
    have pp7 : πhrz3_4 (v0 + 1) 0 = some (v2 + 1) := by rw [zhrz3_4 (v0 + 1) 0 (by omega)]; exact zhr2_1_1
    try dsimp only
    rw [show vI hr2_1 (v0 + 1) 1 = 0 from (by rw [gr2_1_0]), show vI hr2_1 v0 4 = 0 from (by rw [gr2_1_1]), show vI hr2_1 v2 3 = 0 from (by rw [gr2_1_2])] at g1rz3_4_0
    refine qi_some ?_
    exact ⟨_, Thrz3_4, (fun a k na => by rw [zhrz3_4 a k (by omega), zhr2_1 a k (by omega)]), Or.inl ⟨rfl, pp6, pp7, g1rz3_4_0, g1rz3_4_1, g1rz3_4_2⟩⟩
  · intro πhrz3_4 hrz3_4 Thrz3_4 zhrz3_4 g0rz3_4_0
    have pp8 : πhrz3_4 (v0 + 2) 0 = some (v0 + 1) := by rw [zhrz3_4 (v0 + 2) 0 (by omega)]; exact pp2
    have pp9 : πhrz3_4 v0 5 = some v2 := by rw [zhrz3_4 v0 5 (by omega)]; exact zhr2_1_0
    have pp10 : πhrz3_4 (v0 + 1) 0 = some (v2 + 1) := by rw [zhrz3_4 (v0 + 1) 0 (by omega)]; exact zhr2_1_1
    try dsimp only
    rw [show vI hr2_1 (v0 + 1) 1 = 0 from (by rw [gr2_1_0]), show vI hr2_1 v0 4 = 0 from (by rw [gr2_1_1]), show vI hr2_1 v2 3 = 0 from (by rw [gr2_1_2])] at g0rz3_4_0
    refine qi_some ?_
    exact ⟨_, Thrz3_4, (fun a k na => by rw [zhrz3_4 a k (by omega), zhr2_1 a k (by omega)]), Or.inr ⟨rfl, g0rz3_4_0⟩⟩
theorem jj_Pa_read {L : q_L} {π : Nat → Nat → Option Nat} {N : Nat} {t : Int32 → Int32} {n : Int32} {h : z_H} {v0 : Nat} {v1 : Nat} {v2 : Nat} {β : Type} {f : Int32 × z_H → Option β} {Q : β → Prop} (T : x_U L π h) (kv0 : qκ L v0 = 7) (kv1 : qκ L v1 = 11) (kv2 : qκ L v2 = 10) (ppc : π (v0 + 2) 0 = some (v0 + 1)) (ht : ∀ j, 0 ≤ j → j < n → vA h (v1 + 1) j = t j) (hn : vI h v1 1 = n) (n1 : n ≤ 240) (tp : ∀ j, t j ≠ -1) (D : v1 + 2 ≤ v0 ∧ v0 + 5 ≤ v2) (wl : 0 ≤ vI h v1 1 ∧ vI h v1 1 ≤ 240) (wc : ∀ j, 0 ≤ vA h (v1 + 1) j ∧ vA h (v1 + 1) j ≤ 65535) (kt : ∀ j, x_kc (t j)) (H1 : ∀ π1 h', x_U L π1 h' → (∀ a k, ¬ ((a = v0 ∧ k = 5) ∨ (a = (v0 + 1) ∧ k = 0) ∨ (a = v0 ∧ k = 6) ∨ (a = (v0 + 2) ∧ k = 1) ∨ (a = (v0 + 2) ∧ k = 2)) → π1 a k = π a k) → (π1 v0 5 = some v2) → (π1 (v0 + 1) 0 = some (v2 + 1)) → (x_P1 (x_scr t n 0 0 0 (fun _ => 0) (fun _ => -1)) (vI h' v2 3)) → (c_PRG h' v2 t n (x_sW t n x_S00)) → (c_TX h' v2 t n) → qi (f (1, h')) Q) (H0 : ∀ π1 h', x_U L π1 h' → (∀ a k, ¬ ((a = v0 ∧ k = 5) ∨ (a = (v0 + 1) ∧ k = 0) ∨ (a = v0 ∧ k = 6) ∨ (a = (v0 + 2) ∧ k = 1) ∨ (a = (v0 + 2) ∧ k = 2)) → π1 a k = π a k) → (x_P0 (x_scr t n 0 0 0 (fun _ => 0) (fun _ => -1))) → qi (f (0, h')) Q) : qi (z_b (f_Pa_read N v0 v1 v2 h) f) Q := by
  refine qi_b (ii_Pa_read  T kv0 kv1 kv2 ppc ht hn n1 tp D wl wc kt) ?_
  rintro ⟨y, hz⟩ ⟨π1, Tz, q0, ⟨ey, g0, g1, g2, g3, g4⟩ | ⟨ey, g0⟩⟩
  · dsimp only at *; subst ey; exact H1 π1 hz Tz q0 g0 g1 g2 g3 g4
  · dsimp only at *; subst ey; exact H0 π1 hz Tz q0 g0
