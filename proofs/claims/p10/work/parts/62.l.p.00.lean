theorem x_R10 {l : Int32 → Int32} (g : ∀ j, 0 ≤ j → j < 26 → l j = -1) : x_R1 x_abc l (fun _ => 0) := by
  intro j j0 j1
  have e := g j j0 (Int32.lt_of_le_of_lt j1 (by decide))
  constructor
  · intro z; exact absurd (show (0 : Int32) = 1 from z) (by decide)
  · intro z; exact absurd e z
theorem x_nar {v : Int32} (h0 : 0 ≤ v) (h1 : v ≤ 65535) : vp_nar .char v = v := by
  have a0 := Int32.le_iff_toInt_le.mp h0
  have a1 := Int32.le_iff_toInt_le.mp h1
  have e0 : (0 : Int32).toInt = 0 := rfl
  have e6 : (65535 : Int32).toInt = 65535 := rfl
  rw [e0] at a0
  rw [e6] at a1
  have e : vp_nar .char v = v.toUInt32.toUInt16.toUInt32.toInt32 := rfl
  have hb := v.toUInt32.toUInt16.toNat_lt
  have e1 : (vp_nar .char v).toInt = (v.toUInt32.toUInt16.toNat : Int) := by
    rw [e]
    have hn : (v.toUInt32.toUInt16.toUInt32).toBitVec.toNat = v.toUInt32.toUInt16.toNat := UInt16.toNat_toUInt32 _
    show BitVec.toInt (v.toUInt32.toUInt16.toUInt32).toBitVec = _
    rw [BitVec.toInt_eq_toNat_of_lt (by rw [hn]; omega), hn]
  have e2 : v.toUInt32.toUInt16.toNat = v.toUInt32.toNat % 2 ^ 16 := UInt32.toNat_toUInt16 _
  have e3 : (v.toUInt32.toNat : Int) = v.toInt := by
    show (v.toBitVec.toNat : Int) = v.toBitVec.toInt
    have q : v.toInt = v.toBitVec.toInt := rfl
    rw [q] at a0
    have l := v.toBitVec.isLt
    rw [BitVec.toInt_eq_toNat_cond] at a0 ⊢
    split at a0
    · next w => rw [if_pos w]
    · omega
  refine Int32.toInt_inj.mp ?_
  rw [e1, e2]
  omega
theorem x_room {l v3 v4 q : Int32} (w0 : l = v4) (w1 : 0 ≤ v4 ∧ v4 ≤ v3) (w4 : v3 ≤ 240) (wq : q = 240) (c1 : ¬ v3 ≤ v4) (c2 : q ≤ l) : False := by
  subst w0
  subst wq
  exact c1 (Int32.le_trans w4 c2)
theorem x_l1 {v3 v4 : Int32} (w1 : 0 ≤ v4 ∧ v4 ≤ v3) (h : v4 < v3) (w4 : v3 ≤ 240) : v4 < v4 + 1 := by
  obtain ⟨w0, w1⟩ := w1
  lia
theorem x_l2 {v3 v4 j : Int32} (w1 : 0 ≤ v4 ∧ v4 ≤ v3) (w4 : v3 ≤ 240) (h : v4 ≤ j) (q : ¬ j = v4) : v4 + 1 ≤ j := by
  obtain ⟨w0, w1⟩ := w1
  lia
theorem x_l3 {v3 v4 j : Int32} (w1 : 0 ≤ v4 ∧ v4 ≤ v3) (w4 : v3 ≤ 240) (h : j < v4) : j < v4 + 1 := by
  obtain ⟨w0, w1⟩ := w1
  lia
theorem x_l4 {v3 v4 : Int32} (w1 : 0 ≤ v4 ∧ v4 ≤ v3) (w4 : v3 ≤ 240) (h : v4 < v3) : 0 ≤ v4 + 1 ∧ v4 + 1 ≤ v3 := by
  obtain ⟨w0, w1⟩ := w1
  constructor <;> lia
theorem x_l5 {v j : Int32} (w : 0 ≤ v) (h : v < 26) (j1 : j < v + 1) (q : ¬ j = v) : j < v := by lia
set_option maxHeartbeats 2000000 in
theorem i_Row_empty {L : q_L} {π : Nat → Nat → Option Nat} {N : Nat} {h : z_H} {v0 : Nat} (T : x_U L π h) (kv0 : qκ L v0 = 11)  : qi (f_Row_empty N v0 h) (fun r => x_U L π r ∧ (vI r v0 1 = 0) ∧ (∀ a k, ¬ ((a = v0 ∧ k = 1)) → vI r a k = vI h a k) ∧ (∀ a, ¬ (a < a) → vA r a = vA h a)) := by
  unfold f_Row_empty
  refine l_sI T kv0 (by decide) rfl ?_
  intro h1_1 Th1_1 ih1_1 ah1_1
  refine qi_some ?_
  exact ⟨Th1_1, (by show vI h1_1 v0 1 = 0; rw [show vI h1_1 v0 1 = 0 from (by rw [ih1_1 v0 1, if_pos ⟨rfl, rfl⟩])] <;> (first | assumption | with_reducible rfl | grind)), (fun a k na => by rw [ih1_1 a k, if_neg (fun z => na (z))]), (fun a na => by rw [ah1_1 a])⟩
theorem j_Row_empty {L : q_L} {π : Nat → Nat → Option Nat} {N : Nat} {h : z_H} {v0 : Nat} {β : Type} {f : z_H → Option β} {Q : β → Prop} (T : x_U L π h) (kv0 : qκ L v0 = 11)  (H : ∀ h', x_U L π h' → (vI h' v0 1 = 0) → (∀ a k, ¬ ((a = v0 ∧ k = 1)) → vI h' a k = vI h a k) → (∀ a, ¬ (a < a) → vA h' a = vA h a) → qi (f h') Q) : qi (z_b (f_Row_empty N v0 h) f) Q := by
  refine qi_b (i_Row_empty  T kv0 ) ?_
  rintro hz ⟨Tz, g0, g1, g2⟩
  exact H hz Tz g0 g1 g2

set_option maxHeartbeats 4000000 in
theorem i_Row_addPart_3 {L : q_L} {π : Nat → Nat → Option Nat} {N : Nat} : ∀ (m9 : Nat) (v0 : Nat) (v1 : Nat) (v3 : Int32) (v4 : Int32) (h : z_H), x_U L π h → qκ L v0 = 11 → qκ L v1 = 11 → (v0 + 2 ≤ v1 ∨ v1 + 2 ≤ v0) → (vI h v0 1 = v4) → (0 ≤ v4 ∧ v4 ≤ v3) → (vI h v1 1 = v3) → (v3 ≤ 240) → (qhi L v0 1 = 240) → (∀ j, 0 ≤ vA h (v1 + 1) j ∧ vA h (v1 + 1) j ≤ 65535) → qi (f_Row_addPart_3 N m9 v0 v1 v3 v4 h) (fun r => x_U L π r ∧ (vI r v0 1 = v3) ∧ (∀ j, v4 ≤ j → j < v3 → vA r (v0 + 1) j = vA h (v1 + 1) j) ∧ (∀ j, 0 ≤ j → j < v4 → vA r (v0 + 1) j = vA h (v0 + 1) j) ∧ (∀ a k, ¬ ((a = v0 ∧ k = 1)) → vI r a k = vI h a k) ∧ (∀ a, ¬ (a = (v0 + 1)) → vA r a = vA h a)) := by
  intro m9
  induction m9 with
  | zero => intro v0 v1 v3 v4 h T kv0 kv1 D w0 w1 w3 w4 wq wc r e; rw [f_Row_addPart_3] at e; cases e
  | succ m9 ih =>
    intro v0 v1 v3 v4 h T kv0 kv1 D w0 w1 w3 w4 wq wc
    rw [f_Row_addPart_3]
    refine qi_if (fun cc1 => ?_) (fun cc1 => ?_)
    · skip
      refine qi_some ?_
      exact ⟨T, (by show vI h v0 1 = v3; rw [w0]; exact Int32.le_antisymm w1.2 cc1), (fun j j1 j2 => absurd (Int32.lt_of_lt_of_le j2 (Int32.le_trans cc1 j1)) Int32.lt_irrefl), (fun j j0 j1 => rfl), (fun a k na => by rfl), (fun a na => by rfl)⟩
    · skip
      refine l_gI (e := (vI h v1 1)) rfl ?_
      refine qi_if (fun cc2 => ?_) (fun cc2 => ?_)
      · skip
        refine qi_some ?_
        exact ⟨T, (by show vI h v0 1 = v3; rw [w0]; exact Int32.le_antisymm w1.2 (w3 ▸ cc2)), (fun j j1 j2 => absurd (Int32.lt_of_lt_of_le j2 (Int32.le_trans (w3 ▸ cc2) j1)) Int32.lt_irrefl), (fun j j0 j1 => rfl), (fun a k na => by rfl), (fun a na => by rfl)⟩
      · skip
        refine l_gI (e := (vI h v0 1)) rfl ?_
        refine l_gR T (d_Row_0 T kv0) ?_
        refine l_aNr T kv0 ?_
        refine qi_if (fun cc3 => ?_) (fun cc3 => ?_)
        · skip
          refine qi_some ?_
          exact ⟨T, (by show vI h v0 1 = v3; exfalso; exact x_room w0 w1 w4 wq (by assumption) (by assumption)), (by show ∀ j, v4 ≤ j → j < v3 → vA h (v0 + 1) j = vA h (v1 + 1) j; exfalso; exact x_room w0 w1 w4 wq (by assumption) (by assumption)), (fun j j0 j1 => rfl), (fun a k na => by rfl), (fun a na => by rfl)⟩
        · skip
          refine l_gR T (d_Row_0 T kv0) ?_
          refine l_gI (e := (vI h v0 1)) rfl ?_
          refine l_gR T (d_Row_0 T kv1) ?_
          refine l_aI (e := (vA h (v1 + 1) v4)) (fun _ => rfl) (fun ix4 => ?_)
          refine l_uI T ?_
          intro h12_5 Th12_5 jh12_5 ih12_5 ah12_5 bh12_5
          refine l_gI (e := (vI h v0 1)) (by rw [ih12_5 v0 1]) ?_
          refine l_sI Th12_5 kv0 (by decide) rfl ?_
          intro h14_6 Th14_6 ih14_6 ah14_6
          refine qi_bs ?_
          refine qi_mono (ih v0 v1 v3 (v4 + 1) h14_6 Th14_6 kv0 kv1 D (by show vI h14_6 v0 1 = (v4 + 1); rw [show vI h14_6 v0 1 = ((vI h v0 1) + 1) from (by rw [ih14_6 v0 1, if_pos ⟨rfl, rfl⟩])] <;> (rw [w0])) (by show 0 ≤ (v4 + 1) ∧ (v4 + 1) ≤ v3; exact x_l4 w1 w4 (Int32.not_le.mp (by assumption))) (by show vI h14_6 v1 1 = v3; rw [show vI h14_6 v1 1 = (vI h v1 1) from (by rw [ih14_6 v1 1, if_neg (fun z => absurd z.1 (by omega)), ih12_5 v1 1])] <;> (first | assumption | with_reducible rfl | grind)) w4 wq (by show ∀ j, 0 ≤ vA h14_6 (v1 + 1) j ∧ vA h14_6 (v1 + 1) j ≤ 65535; rw [show vA h14_6 (v1 + 1) = vA h (v1 + 1) from (by rw [ah14_6 (v1 + 1), bh12_5 (v1 + 1) (by omega)])] <;> (first | assumption | with_reducible rfl | grind))) ?_
          rintro hrz7_8 ⟨Thrz7_8, grz7_8_0, grz7_8_1, grz7_8_2, frz7_8_I, frz7_8_A⟩
          try dsimp only at *
          rw [show vA h14_6 (v1 + 1) = vA h (v1 + 1) from (by rw [ah14_6 (v1 + 1), bh12_5 (v1 + 1) (by omega)])] at grz7_8_1
          rw [show vA h14_6 (v0 + 1) = vA h12_5 (v0 + 1) from (by rw [ah14_6 (v0 + 1)])] at grz7_8_2
          exact ⟨Thrz7_8, (by show vI hrz7_8 v0 1 = v3; rw [show vI hrz7_8 v0 1 = v3 from (by rw [grz7_8_0])] <;> (exfalso; exact x_room w0 w1 w4 wq (by assumption) (by assumption))), (fun j j1 j2 => by by_cases q : j = v4; (subst q; rw [grz7_8_2 _ w1.1 (x_l1 w1 j2 w4), ah12_5 (v0 + 1) _ w1.1, if_pos ⟨rfl, w0.symm⟩]; exact x_nar (wc _).1 (wc _).2); (exact grz7_8_1 j (x_l2 w1 w4 j1 q) j2)), (fun j j0 j1 => by rw [grz7_8_2 j j0 (x_l3 w1 w4 j1), ah12_5 (v0 + 1) j j0, if_neg (fun z => absurd (z.2.trans w0) (fun q => absurd (q ▸ j1) Int32.lt_irrefl))]), (fun a k na => by rw [frz7_8_I a k (fun z => na (z)), ih14_6 a k, if_neg (fun z => na (z)), ih12_5 a k]), (fun a na => by rw [frz7_8_A a (fun z => na (z)), ah14_6 a, bh12_5 a (fun z => na (z))])⟩
theorem j_Row_addPart_3 {L : q_L} {π : Nat → Nat → Option Nat} {N : Nat} {m9 : Nat} {h : z_H} {v0 : Nat} {v1 : Nat} {v3 : Int32} {v4 : Int32} {β : Type} {f : z_H → Option β} {Q : β → Prop} (T : x_U L π h) (kv0 : qκ L v0 = 11) (kv1 : qκ L v1 = 11) (D : v0 + 2 ≤ v1 ∨ v1 + 2 ≤ v0) (w0 : vI h v0 1 = v4) (w1 : 0 ≤ v4 ∧ v4 ≤ v3) (w3 : vI h v1 1 = v3) (w4 : v3 ≤ 240) (wq : qhi L v0 1 = 240) (wc : ∀ j, 0 ≤ vA h (v1 + 1) j ∧ vA h (v1 + 1) j ≤ 65535) (H : ∀ h', x_U L π h' → (vI h' v0 1 = v3) → (∀ j, v4 ≤ j → j < v3 → vA h' (v0 + 1) j = vA h (v1 + 1) j) → (∀ j, 0 ≤ j → j < v4 → vA h' (v0 + 1) j = vA h (v0 + 1) j) → (∀ a k, ¬ ((a = v0 ∧ k = 1)) → vI h' a k = vI h a k) → (∀ a, ¬ (a = (v0 + 1)) → vA h' a = vA h a) → qi (f h') Q) : qi (z_b (f_Row_addPart_3 N m9 v0 v1 v3 v4 h) f) Q := by
  refine qi_b (i_Row_addPart_3 m9 v0 v1 v3 v4 h  T kv0 kv1 D w0 w1 w3 w4 wq wc) ?_
  rintro hz ⟨Tz, g0, g1, g2, g3, g4⟩
  exact H hz Tz g0 g1 g2 g3 g4

set_option maxHeartbeats 2000000 in
theorem i_Row_addPart {L : q_L} {π : Nat → Nat → Option Nat} {N : Nat} {h : z_H} {v0 : Nat} {v1 : Nat} {v2 : Int32} {v3 : Int32} (T : x_U L π h) (kv0 : qκ L v0 = 11) (kv1 : qκ L v1 = 11) (D : v0 + 2 ≤ v1 ∨ v1 + 2 ≤ v0) (z2 : v2 = 0) (w0 : vI h v0 1 = 0) (w1 : 0 ≤ v3 ∧ v3 ≤ 240) (w3 : vI h v1 1 = v3) (wq : qhi L v0 1 = 240) (wc : ∀ j, 0 ≤ vA h (v1 + 1) j ∧ vA h (v1 + 1) j ≤ 65535) : qi (f_Row_addPart N v0 v1 v2 v3 h) (fun r => x_U L π r ∧ (vI r v0 1 = v3) ∧ (∀ j, 0 ≤ j → j < v3 → vA r (v0 + 1) j = vA h (v1 + 1) j) ∧ (∀ a k, ¬ ((a = v0 ∧ k = 1)) → vI r a k = vI h a k) ∧ (∀ a, ¬ (a = (v0 + 1)) → vA r a = vA h a)) := by
  unfold f_Row_addPart
  refine qi_tail ?_
  refine j_Row_addPart_3 (v0 := v0) (v1 := v1) (v3 := v3) (v4 := v2) T kv0 kv1 D (by show vI h v0 1 = v2; rw [w0, z2]) (by show 0 ≤ v2 ∧ v2 ≤ v3; rw [z2]; exact ⟨by decide, w1.1⟩) w3 (by show v3 ≤ 240; exact w1.2) wq wc ?_
  intro hrz1_2 Thrz1_2 grz1_2_0 grz1_2_1 grz1_2_2 frz1_2_I frz1_2_A
  try dsimp only
  refine qi_some ?_
  exact ⟨Thrz1_2, (by show vI hrz1_2 v0 1 = v3; rw [show vI hrz1_2 v0 1 = v3 from (by rw [grz1_2_0])] <;> (first | assumption | with_reducible rfl | grind)), (fun j j0 j1 => grz1_2_1 j (z2 ▸ j0) j1), (fun a k na => by rw [frz1_2_I a k (fun z => na (z))]), (fun a na => by rw [frz1_2_A a (fun z => na (z))])⟩
theorem j_Row_addPart {L : q_L} {π : Nat → Nat → Option Nat} {N : Nat} {h : z_H} {v0 : Nat} {v1 : Nat} {v2 : Int32} {v3 : Int32} {β : Type} {f : z_H → Option β} {Q : β → Prop} (T : x_U L π h) (kv0 : qκ L v0 = 11) (kv1 : qκ L v1 = 11) (D : v0 + 2 ≤ v1 ∨ v1 + 2 ≤ v0) (z2 : v2 = 0) (w0 : vI h v0 1 = 0) (w1 : 0 ≤ v3 ∧ v3 ≤ 240) (w3 : vI h v1 1 = v3) (wq : qhi L v0 1 = 240) (wc : ∀ j, 0 ≤ vA h (v1 + 1) j ∧ vA h (v1 + 1) j ≤ 65535) (H : ∀ h', x_U L π h' → (vI h' v0 1 = v3) → (∀ j, 0 ≤ j → j < v3 → vA h' (v0 + 1) j = vA h (v1 + 1) j) → (∀ a k, ¬ ((a = v0 ∧ k = 1)) → vI h' a k = vI h a k) → (∀ a, ¬ (a = (v0 + 1)) → vA h' a = vA h a) → qi (f h') Q) : qi (z_b (f_Row_addPart N v0 v1 v2 v3 h) f) Q := by
  refine qi_b (i_Row_addPart  T kv0 kv1 D z2 w0 w1 w3 wq wc) ?_
  rintro hz ⟨Tz, g0, g1, g2, g3⟩
  exact H hz Tz g0 g1 g2 g3

set_option maxHeartbeats 2000000 in
theorem i_Pa_begin_79 {L : q_L} {π : Nat → Nat → Option Nat} {N : Nat} : ∀ (m9 : Nat) (v0 : Nat) (v3 : Int32) (h : z_H), x_U L π h → qκ L v0 = 7 → (0 ≤ v3) → (∀ j, 0 ≤ j → j < v3 → vA h (v0 + 4) j = -1) → qi (f_Pa_begin_79 N m9 v0 v3 h) (fun r => x_U L π r ∧ (∀ j, 0 ≤ j → j < 26 → vA r (v0 + 4) j = -1) ∧ (∀ a k, ¬ (a < a) → vI r a k = vI h a k) ∧ (∀ a, ¬ (a = (v0 + 4)) → vA r a = vA h a)) := by
  intro m9
  induction m9 with
  | zero => intro v0 v3 h T kv0 w3 wl r e; rw [f_Pa_begin_79] at e; cases e
  | succ m9 ih =>
    intro v0 v3 h T kv0 w3 wl
    rw [f_Pa_begin_79]
    refine qi_if (fun cc1 => ?_) (fun cc1 => ?_)
    · skip
      refine qi_some ?_
      exact ⟨T, (fun j j0 j1 => wl j j0 (Int32.lt_of_lt_of_le j1 (by assumption))), (fun a k na => by rfl), (fun a na => by rfl)⟩
    · skip
      refine l_gR T (d_Pa_3 T kv0) ?_
      refine l_uI T ?_
      intro h3_2 Th3_2 jh3_2 ih3_2 ah3_2 bh3_2
      refine qi_bs ?_
      refine qi_mono (ih v0 (v3 + 1) h3_2 Th3_2 kv0 (by show 0 ≤ (v3 + 1); exact x_inc w3 (Int32.not_le.mp (by assumption)) (by decide)) (by show ∀ j, 0 ≤ j → j < (v3 + 1) → vA h3_2 (v0 + 4) j = -1; intro j j0 j1; by_cases q : j = v3; (rw [ah3_2 (v0 + 4) j j0, if_pos ⟨rfl, q⟩]); (rw [ah3_2 (v0 + 4) j j0, if_neg (fun z => q z.2)]; exact wl j j0 (x_l5 w3 (Int32.not_le.mp (by assumption)) j1 q)))) ?_
      rintro hrz3_4 ⟨Thrz3_4, grz3_4_0, frz3_4_I, frz3_4_A⟩
      try dsimp only at *
      exact ⟨Thrz3_4, grz3_4_0, (fun a k na => by rw [frz3_4_I a k (by omega), ih3_2 a k]), (fun a na => by rw [frz3_4_A a (fun z => na (z)), bh3_2 a (fun z => na (z))])⟩
theorem j_Pa_begin_79 {L : q_L} {π : Nat → Nat → Option Nat} {N : Nat} {m9 : Nat} {h : z_H} {v0 : Nat} {v3 : Int32} {β : Type} {f : z_H → Option β} {Q : β → Prop} (T : x_U L π h) (kv0 : qκ L v0 = 7) (w3 : 0 ≤ v3) (wl : ∀ j, 0 ≤ j → j < v3 → vA h (v0 + 4) j = -1) (H : ∀ h', x_U L π h' → (∀ j, 0 ≤ j → j < 26 → vA h' (v0 + 4) j = -1) → (∀ a k, ¬ (a < a) → vI h' a k = vI h a k) → (∀ a, ¬ (a = (v0 + 4)) → vA h' a = vA h a) → qi (f h') Q) : qi (z_b (f_Pa_begin_79 N m9 v0 v3 h) f) Q := by
  refine qi_b (i_Pa_begin_79 m9 v0 v3 h  T kv0 w3 wl) ?_
  rintro hz ⟨Tz, g0, g1, g2⟩
  exact H hz Tz g0 g1 g2

set_option maxHeartbeats 4000000 in
theorem i_Pa_begin {L : q_L} {π : Nat → Nat → Option Nat} {N : Nat} {h : z_H} {v0 : Nat} {v1 : Nat} {v2 : Nat} (T : x_U L π h) (kv0 : qκ L v0 = 7) (kv1 : qκ L v1 = 11) (kv2 : qκ L v2 = 10) (D : v1 + 2 ≤ v0 ∧ v0 + 5 ≤ v2) (wl : 0 ≤ vI h v1 1 ∧ vI h v1 1 ≤ 240) (wc : ∀ j, 0 ≤ vA h (v1 + 1) j ∧ vA h (v1 + 1) j ≤ 65535) : qi (f_Pa_begin N v0 v1 v2 h) (fun r => ∃ π1, x_U L π1 r ∧ (∀ a k, ¬ ((a = v0 ∧ k = 5) ∨ (a = (v0 + 1) ∧ k = 0)) → π1 a k = π a k) ∧ (π1 v0 5 = some v2) ∧ (π1 (v0 + 1) 0 = some (v2 + 1)) ∧ (vI r (v0 + 1) 1 = 0) ∧ (vI r v0 4 = 0) ∧ (vI r v2 3 = 0) ∧ (vI r (v2 + 1) 1 = vI h v1 1) ∧ (∀ j, 0 ≤ j → j < vI h v1 1 → vA r ((v2 + 1) + 1) j = vA h (v1 + 1) j) ∧ (∀ j, 0 ≤ j → j < 26 → vA r (v0 + 4) j = -1) ∧ (∀ a k, ¬ ((a = (v2 + 1) ∧ k = 1) ∨ (a = (v2 + 3) ∧ k = 4) ∨ (a = v2 ∧ k = 3) ∨ (a = (v0 + 1) ∧ k = 1) ∨ (a = v0 ∧ k = 4)) → vI r a k = vI h a k) ∧ (∀ a, ¬ (a = ((v2 + 1) + 1) ∨ a = (v0 + 4)) → vA r a = vA h a)) := by
  have wq9 := e_cap T kv2
  unfold f_Pa_begin
  refine l_Pa_5 (q := v2) T kv0 ?_
  intro πh1_1 h1_1 Th1_1 ph1_1 ih1_1 ah1_1
  have pp2 : πh1_1 v0 5 = some v2 := by rw [ph1_1, if_pos ⟨rfl, rfl⟩]
  refine l_gR Th1_1 pp2 ?_
  refine l_gR Th1_1 (d_Prog_0 Th1_1 kv2) ?_
  have kk3 := e_Prog_0 Th1_1 kv2
  refine l_gO ?_
  refine j_Row_empty (v0 := (v2 + 1)) Th1_1 kk3 ?_
  intro hr5_4 Thr5_4 gr5_4_0 fr5_4_I fr5_4_A
  try dsimp only
  refine l_gR Thr5_4 pp2 ?_
  refine l_gR Thr5_4 (d_Prog_0 Thr5_4 kv2) ?_
  refine l_gI (e := (vI h v1 1)) (by rw [fr5_4_I v1 1 (by omega), ih1_1 v1 1]) ?_
  refine l_gO ?_
  refine j_Row_addPart (v0 := (v2 + 1)) (v1 := v1) (v2 := (0 : Int32)) (v3 := (vI h v1 1)) Thr5_4 kk3 kv1 (by show (v2 + 1) + 2 ≤ v1 ∨ v1 + 2 ≤ (v2 + 1); omega) (by show (0 : Int32) = 0; rfl) (by show vI hr5_4 (v2 + 1) 1 = 0; rw [show vI hr5_4 (v2 + 1) 1 = 0 from (by rw [gr5_4_0])] <;> (first | assumption | with_reducible rfl | grind)) (by show 0 ≤ (vI h v1 1) ∧ (vI h v1 1) ≤ 240; first | assumption | with_reducible rfl | grind) (by show vI hr5_4 v1 1 = (vI h v1 1); rw [show vI hr5_4 v1 1 = (vI h v1 1) from (by rw [fr5_4_I v1 1 (by omega), ih1_1 v1 1])] <;> (first | assumption | with_reducible rfl | grind)) (by show qhi L (v2 + 1) 1 = 240; exact wq9) (by show ∀ j, 0 ≤ vA hr5_4 (v1 + 1) j ∧ vA hr5_4 (v1 + 1) j ≤ 65535; rw [show vA hr5_4 (v1 + 1) = vA h (v1 + 1) from (by rw [fr5_4_A (v1 + 1) (by omega), ah1_1 (v1 + 1)])] <;> (first | assumption | with_reducible rfl | grind)) ?_
  intro hr10_5 Thr10_5 gr10_5_0 gr10_5_1 fr10_5_I fr10_5_A
  try dsimp only
  rw [show vA hr5_4 (v1 + 1) = vA h (v1 + 1) from (by rw [fr5_4_A (v1 + 1) (by omega), ah1_1 (v1 + 1)])] at gr10_5_1
  try simp only [Int32.add_zero, x_s11, x_s12, x_s21, x_s13, x_s22, x_s31] at gr10_5_1
  refine l_gR Thr10_5 pp2 ?_
  refine l_gR Thr10_5 (d_Prog_1 Thr10_5 kv2) ?_
  have kk6 := e_Prog_1 Thr10_5 kv2
  refine l_sI Thr10_5 kk6 (by decide) rfl ?_
  intro h13_7 Th13_7 ih13_7 ah13_7
  refine l_gR Th13_7 pp2 ?_
  refine l_sI Th13_7 kv2 (by decide) rfl ?_
  intro h15_8 Th15_8 ih15_8 ah15_8
  refine l_gR Th15_8 (d_Pa_0 Th15_8 kv0) ?_
  have kk9 := e_Pa_0 Th15_8 kv0
  refine l_gR Th15_8 pp2 ?_
  refine l_gR Th15_8 (d_Prog_0 Th15_8 kv2) ?_
  refine l_Cur_0 (q := (v2 + 1)) Th15_8 kk9 ?_
  intro πh19_10 h19_10 Th19_10 ph19_10 ih19_10 ah19_10
  have pp11 : πh19_10 v0 5 = some v2 := by rw [ph19_10, if_neg (by omega)]; exact pp2
  have pp12 : πh19_10 (v0 + 1) 0 = some (v2 + 1) := by rw [ph19_10, if_pos ⟨rfl, rfl⟩]
  refine l_gR Th19_10 (d_Pa_0 Th19_10 kv0) ?_
  refine l_sI Th19_10 kk9 (by decide) rfl ?_
  intro h21_13 Th21_13 ih21_13 ah21_13
  refine l_sI Th21_13 kv0 (by decide) rfl ?_
  intro h22_14 Th22_14 ih22_14 ah22_14
  refine qi_tail ?_
  refine j_Pa_begin_79 (v0 := v0) (v3 := (0 : Int32)) Th22_14 kv0 (by show 0 ≤ (0 : Int32); decide) (by show ∀ j, 0 ≤ j → j < (0 : Int32) → vA h22_14 (v0 + 4) j = -1; rw [show vA h22_14 (v0 + 4) = vA h (v0 + 4) from (by rw [ah22_14 (v0 + 4), ah21_13 (v0 + 4), ah19_10 (v0 + 4), ah15_8 (v0 + 4), ah13_7 (v0 + 4), fr10_5_A (v0 + 4) (by omega), fr5_4_A (v0 + 4) (by omega), ah1_1 (v0 + 4)])] <;> (exact fun j j0 j1 => absurd (Int32.lt_of_le_of_lt j0 j1) (by decide))) ?_
  intro hrz15_16 Thrz15_16 grz15_16_0 frz15_16_I frz15_16_A
  try dsimp only
  refine qi_some ?_
  exact ⟨_, Thrz15_16, (fun a k na => by rw [ph19_10 a k, if_neg (by omega), ph1_1 a k, if_neg (by omega)]), pp11, pp12, (by show vI hrz15_16 (v0 + 1) 1 = 0; rw [show vI hrz15_16 (v0 + 1) 1 = 0 from (by rw [frz15_16_I (v0 + 1) 1 (by omega), ih22_14 (v0 + 1) 1, if_neg (fun z => absurd z.2 (by decide)), ih21_13 (v0 + 1) 1, if_pos ⟨rfl, rfl⟩])] <;> (first | assumption | with_reducible rfl | grind)), (by show vI hrz15_16 v0 4 = 0; rw [show vI hrz15_16 v0 4 = 0 from (by rw [frz15_16_I v0 4 (by omega), ih22_14 v0 4, if_pos ⟨rfl, rfl⟩])] <;> (first | assumption | with_reducible rfl | grind)), (by show vI hrz15_16 v2 3 = 0; rw [show vI hrz15_16 v2 3 = 0 from (by rw [frz15_16_I v2 3 (by omega), ih22_14 v2 3, if_neg (fun z => absurd z.2 (by decide)), ih21_13 v2 3, if_neg (fun z => absurd z.2 (by decide)), ih19_10 v2 3, ih15_8 v2 3, if_pos ⟨rfl, rfl⟩])] <;> (first | assumption | with_reducible rfl | grind)), (by show vI hrz15_16 (v2 + 1) 1 = vI h v1 1; rw [show vI hrz15_16 (v2 + 1) 1 = (vI h v1 1) from (by rw [frz15_16_I (v2 + 1) 1 (by omega), ih22_14 (v2 + 1) 1, if_neg (fun z => absurd z.2 (by decide)), ih21_13 (v2 + 1) 1, if_neg (fun z => absurd z.1 (by omega)), ih19_10 (v2 + 1) 1, ih15_8 (v2 + 1) 1, if_neg (fun z => absurd z.2 (by decide)), ih13_7 (v2 + 1) 1, if_neg (fun z => absurd z.2 (by decide)), gr10_5_0])] <;> (first | assumption | with_reducible rfl | grind)), (by show ∀ j, 0 ≤ j → j < vI h v1 1 → vA hrz15_16 ((v2 + 1) + 1) j = vA h (v1 + 1) j; rw [show vA hrz15_16 ((v2 + 1) + 1) = vA hr10_5 ((v2 + 1) + 1) from (by rw [frz15_16_A ((v2 + 1) + 1) (by omega), ah22_14 ((v2 + 1) + 1), ah21_13 ((v2 + 1) + 1), ah19_10 ((v2 + 1) + 1), ah15_8 ((v2 + 1) + 1), ah13_7 ((v2 + 1) + 1)])] <;> ((try simp only [Int32.add_zero, x_s11, x_s12, x_s21, x_s13, x_s22, x_s31]) <;> (first | assumption | with_reducible rfl | grind))), grz15_16_0, (fun a k na => by rw [frz15_16_I a k (by omega), ih22_14 a k, if_neg (fun z => na (Or.inr (Or.inr (Or.inr (Or.inr (z)))))), ih21_13 a k, if_neg (fun z => na (Or.inr (Or.inr (Or.inr (Or.inl z))))), ih19_10 a k, ih15_8 a k, if_neg (fun z => na (Or.inr (Or.inr (Or.inl z)))), ih13_7 a k, if_neg (fun z => na (Or.inr (Or.inl z))), fr10_5_I a k (fun z => na (Or.inl z)), fr5_4_I a k (fun z => na (Or.inl z)), ih1_1 a k]), (fun a na => by rw [frz15_16_A a (fun z => na (Or.inr (z))), ah22_14 a, ah21_13 a, ah19_10 a, ah15_8 a, ah13_7 a, fr10_5_A a (fun z => na (Or.inl z)), fr5_4_A a (by omega), ah1_1 a])⟩
theorem j_Pa_begin {L : q_L} {π : Nat → Nat → Option Nat} {N : Nat} {h : z_H} {v0 : Nat} {v1 : Nat} {v2 : Nat} {β : Type} {f : z_H → Option β} {Q : β → Prop} (T : x_U L π h) (kv0 : qκ L v0 = 7) (kv1 : qκ L v1 = 11) (kv2 : qκ L v2 = 10) (D : v1 + 2 ≤ v0 ∧ v0 + 5 ≤ v2) (wl : 0 ≤ vI h v1 1 ∧ vI h v1 1 ≤ 240) (wc : ∀ j, 0 ≤ vA h (v1 + 1) j ∧ vA h (v1 + 1) j ≤ 65535) (H : ∀ π1 h', x_U L π1 h' → (∀ a k, ¬ ((a = v0 ∧ k = 5) ∨ (a = (v0 + 1) ∧ k = 0)) → π1 a k = π a k) → (π1 v0 5 = some v2) → (π1 (v0 + 1) 0 = some (v2 + 1)) → (vI h' (v0 + 1) 1 = 0) → (vI h' v0 4 = 0) → (vI h' v2 3 = 0) → (vI h' (v2 + 1) 1 = vI h v1 1) → (∀ j, 0 ≤ j → j < vI h v1 1 → vA h' ((v2 + 1) + 1) j = vA h (v1 + 1) j) → (∀ j, 0 ≤ j → j < 26 → vA h' (v0 + 4) j = -1) → (∀ a k, ¬ ((a = (v2 + 1) ∧ k = 1) ∨ (a = (v2 + 3) ∧ k = 4) ∨ (a = v2 ∧ k = 3) ∨ (a = (v0 + 1) ∧ k = 1) ∨ (a = v0 ∧ k = 4)) → vI h' a k = vI h a k) → (∀ a, ¬ (a = ((v2 + 1) + 1) ∨ a = (v0 + 4)) → vA h' a = vA h a) → qi (f h') Q) : qi (z_b (f_Pa_begin N v0 v1 v2 h) f) Q := by
  refine qi_b (i_Pa_begin  T kv0 kv1 kv2 D wl wc) ?_
  rintro hz ⟨π1, Tz, q0, q1, q2, g0, g1, g2, g3, g4, g5, g6, g7⟩
  exact H π1 hz Tz q0 q1 q2 g0 g1 g2 g3 g4 g5 g6 g7

set_option maxHeartbeats 4000000 in
theorem i_Pa_read {L : q_L} {π : Nat → Nat → Option Nat} {N : Nat} {t : Int32 → Int32} {n : Int32} {h : z_H} {v0 : Nat} {v1 : Nat} {v2 : Nat} (T : x_U L π h) (kv0 : qκ L v0 = 7) (kv1 : qκ L v1 = 11) (kv2 : qκ L v2 = 10) (ppc : π (v0 + 2) 0 = some (v0 + 1)) (ht : ∀ j, 0 ≤ j → j < n → vA h (v1 + 1) j = t j) (hn : vI h v1 1 = n) (n1 : n ≤ 240) (tp : ∀ j, t j ≠ -1) (D : v1 + 2 ≤ v0 ∧ v0 + 5 ≤ v2) (wl : 0 ≤ vI h v1 1 ∧ vI h v1 1 ≤ 240) (wc : ∀ j, 0 ≤ vA h (v1 + 1) j ∧ vA h (v1 + 1) j ≤ 65535) : qi (f_Pa_read N v0 v1 v2 h) (fun r => ∃ π1, x_U L π1 r.2 ∧ (∀ a k, ¬ ((a = v0 ∧ k = 5) ∨ (a = (v0 + 1) ∧ k = 0) ∨ (a = v0 ∧ k = 6) ∨ (a = (v0 + 2) ∧ k = 1) ∨ (a = (v0 + 2) ∧ k = 2)) → π1 a k = π a k) ∧ ((r.1 = 1 ∧ (π1 v0 5 = some v2) ∧ (π1 (v0 + 1) 0 = some (v2 + 1)) ∧ (x_P1 (x_scr t n 0 0 0 (fun _ => 0) (fun _ => -1)) (vI r.2 v2 3))) ∨ (r.1 = 0 ∧ (x_P0 (x_scr t n 0 0 0 (fun _ => 0) (fun _ => -1)))))) := by
  have n2 : n ≤ 1000 := Int32.le_trans n1 (by decide)
  have kpc := e_Pa_0 T kv0
  have ktx9 := e_Prog_0 T kv2
  unfold f_Pa_read
  refine l_gO ?_
  refine j_Pa_begin (v0 := v0) (v1 := v1) (v2 := v2) T kv0 kv1 kv2 D wl wc ?_
  intro πhr2_1 hr2_1 Thr2_1 zhr2_1 zhr2_1_0 zhr2_1_1 gr2_1_0 gr2_1_1 gr2_1_2 gr2_1_3 gr2_1_4 gr2_1_5 fr2_1_I fr2_1_A
  have pp2 : πhr2_1 (v0 + 2) 0 = some (v0 + 1) := by rw [zhr2_1 (v0 + 2) 0 (by omega)]; exact ppc
  try dsimp only
  try simp only [Int32.add_zero, x_s11, x_s12, x_s21, x_s13, x_s22, x_s31] at gr2_1_4
  refine qi_tailp ?_
  refine j_Pa_read_8 (v0 := v0) (v3 := (0 : Int32)) (pg := v2) (t := t) (n := n) (lab := (fun _ => 0)) (use := (fun _ => -1)) Thr2_1 kv0 kv2 zhr2_1_0 zhr2_1_1 pp2 (by show ∀ j, 0 ≤ j → j < n → vA hr2_1 ((v2 + 1) + 1) j = t j; (try simp only [Int32.add_zero, x_s11, x_s12, x_s21, x_s13, x_s22, x_s31]) <;> (intro j j0 j1; rw [gr2_1_4 j j0 (hn ▸ j1)]; exact ht j j0 j1)) (by show vI hr2_1 (v2 + 1) 1 = n; rw [show vI hr2_1 (v2 + 1) 1 = (vI h v1 1) from (by rw [gr2_1_3])] <;> (exact hn)) n1 tp (by show v0 + 5 ≤ v2; exact D.2) (by show 0 ≤ vI hr2_1 (v0 + 1) 1; rw [show vI hr2_1 (v0 + 1) 1 = 0 from (by rw [gr2_1_0])] <;> (decide)) (by show x_R1 x_abc (vA hr2_1 (v0 + 4)) (fun _ => 0); exact x_R10 gr2_1_5) (by show x_R2 hr2_1 v2 (vI hr2_1 v2 3) (fun _ => -1); rw [show vI hr2_1 v2 3 = 0 from (by rw [gr2_1_2])] <;> (exact fun k k0 k1 => absurd (Int32.lt_of_le_of_lt k0 k1) (by decide))) (by show 0 ≤ vI hr2_1 v2 3 ∧ vI hr2_1 v2 3 ≤ 40; rw [show vI hr2_1 v2 3 = 0 from (by rw [gr2_1_2])] <;> (decide)) (by show (0 : Int32) ≤ vI hr2_1 (v0 + 1) 1; rw [show vI hr2_1 (v0 + 1) 1 = 0 from (by rw [gr2_1_0])] <;> (decide)) ?_ ?_
  · intro πhrz3_4 hrz3_4 Thrz3_4 zhrz3_4 g1rz3_4_0
    have pp5 : πhrz3_4 (v0 + 2) 0 = some (v0 + 1) := by rw [zhrz3_4 (v0 + 2) 0 (by omega)]; exact pp2
    have pp6 : πhrz3_4 v0 5 = some v2 := by rw [zhrz3_4 v0 5 (by omega)]; exact zhr2_1_0
    have pp7 : πhrz3_4 (v0 + 1) 0 = some (v2 + 1) := by rw [zhrz3_4 (v0 + 1) 0 (by omega)]; exact zhr2_1_1
    try dsimp only
    rw [show vI hr2_1 (v0 + 1) 1 = 0 from (by rw [gr2_1_0]), show vI hr2_1 v0 4 = 0 from (by rw [gr2_1_1]), show vI hr2_1 v2 3 = 0 from (by rw [gr2_1_2])] at g1rz3_4_0
    refine qi_some ?_
    exact ⟨_, Thrz3_4, (fun a k na => by rw [zhrz3_4 a k (by omega), zhr2_1 a k (by omega)]), Or.inl ⟨rfl, pp6, pp7, g1rz3_4_0⟩⟩
  · intro πhrz3_4 hrz3_4 Thrz3_4 zhrz3_4 g0rz3_4_0
    have pp8 : πhrz3_4 (v0 + 2) 0 = some (v0 + 1) := by rw [zhrz3_4 (v0 + 2) 0 (by omega)]; exact pp2
    have pp9 : πhrz3_4 v0 5 = some v2 := by rw [zhrz3_4 v0 5 (by omega)]; exact zhr2_1_0
    have pp10 : πhrz3_4 (v0 + 1) 0 = some (v2 + 1) := by rw [zhrz3_4 (v0 + 1) 0 (by omega)]; exact zhr2_1_1
    try dsimp only
    rw [show vI hr2_1 (v0 + 1) 1 = 0 from (by rw [gr2_1_0]), show vI hr2_1 v0 4 = 0 from (by rw [gr2_1_1]), show vI hr2_1 v2 3 = 0 from (by rw [gr2_1_2])] at g0rz3_4_0
    refine qi_some ?_
    exact ⟨_, Thrz3_4, (fun a k na => by rw [zhrz3_4 a k (by omega), zhr2_1 a k (by omega)]), Or.inr ⟨rfl, g0rz3_4_0⟩⟩
theorem j_Pa_read {L : q_L} {π : Nat → Nat → Option Nat} {N : Nat} {t : Int32 → Int32} {n : Int32} {h : z_H} {v0 : Nat} {v1 : Nat} {v2 : Nat} {β : Type} {f : Int32 × z_H → Option β} {Q : β → Prop} (T : x_U L π h) (kv0 : qκ L v0 = 7) (kv1 : qκ L v1 = 11) (kv2 : qκ L v2 = 10) (ppc : π (v0 + 2) 0 = some (v0 + 1)) (ht : ∀ j, 0 ≤ j → j < n → vA h (v1 + 1) j = t j) (hn : vI h v1 1 = n) (n1 : n ≤ 240) (tp : ∀ j, t j ≠ -1) (D : v1 + 2 ≤ v0 ∧ v0 + 5 ≤ v2) (wl : 0 ≤ vI h v1 1 ∧ vI h v1 1 ≤ 240) (wc : ∀ j, 0 ≤ vA h (v1 + 1) j ∧ vA h (v1 + 1) j ≤ 65535) (H1 : ∀ π1 h', x_U L π1 h' → (∀ a k, ¬ ((a = v0 ∧ k = 5) ∨ (a = (v0 + 1) ∧ k = 0) ∨ (a = v0 ∧ k = 6) ∨ (a = (v0 + 2) ∧ k = 1) ∨ (a = (v0 + 2) ∧ k = 2)) → π1 a k = π a k) → (π1 v0 5 = some v2) → (π1 (v0 + 1) 0 = some (v2 + 1)) → (x_P1 (x_scr t n 0 0 0 (fun _ => 0) (fun _ => -1)) (vI h' v2 3)) → qi (f (1, h')) Q) (H0 : ∀ π1 h', x_U L π1 h' → (∀ a k, ¬ ((a = v0 ∧ k = 5) ∨ (a = (v0 + 1) ∧ k = 0) ∨ (a = v0 ∧ k = 6) ∨ (a = (v0 + 2) ∧ k = 1) ∨ (a = (v0 + 2) ∧ k = 2)) → π1 a k = π a k) → (x_P0 (x_scr t n 0 0 0 (fun _ => 0) (fun _ => -1))) → qi (f (0, h')) Q) : qi (z_b (f_Pa_read N v0 v1 v2 h) f) Q := by
  refine qi_b (i_Pa_read  T kv0 kv1 kv2 ppc ht hn n1 tp D wl wc) ?_
  rintro ⟨y, hz⟩ ⟨π1, Tz, q0, ⟨ey, g0, g1, g2⟩ | ⟨ey, g0⟩⟩
  · dsimp only at *; subst ey; exact H1 π1 hz Tz q0 g0 g1 g2
  · dsimp only at *; subst ey; exact H0 π1 hz Tz q0 g0

set_option maxHeartbeats 2000000 in
theorem i_Pa_refusedAt {L : q_L} {π : Nat → Nat → Option Nat} {N : Nat} {h : z_H} {v0 : Nat} (T : x_U L π h) (kv0 : qκ L v0 = 7)  : qi (f_Pa_refusedAt N v0 h) (fun r => r.2 = h) := by
  unfold f_Pa_refusedAt
  refine l_gR T (d_Pa_0 T kv0) ?_
  have kk1 := e_Pa_0 T kv0
  refine l_gI (e := (vI h (v0 + 1) 2)) rfl ?_
  refine qi_some ?_
  exact rfl
theorem j_Pa_refusedAt {L : q_L} {π : Nat → Nat → Option Nat} {N : Nat} {h : z_H} {v0 : Nat} {β : Type} {f : Int32 × z_H → Option β} {Q : β → Prop} (T : x_U L π h) (kv0 : qκ L v0 = 7)  (H : ∀ y, qi (f (y, h)) Q) : qi (z_b (f_Pa_refusedAt N v0 h) f) Q := by
  refine qi_b (i_Pa_refusedAt  T kv0 ) ?_
  rintro ⟨y, hz⟩ e
  dsimp only at *; subst e; exact H y 

set_option maxHeartbeats 2000000 in
theorem i_SF_parse {L : q_L} {π : Nat → Nat → Option Nat} {N : Nat} {pg : Nat} {pq : Nat} {t : Int32 → Int32} {n : Int32} {h : z_H} {v0 : Nat} (T : x_U L π h) (kv0 : qκ L v0 = 12) (kpg : qκ L pg = 10) (ppg : π v0 7 = some pg) (kpq : qκ L pq = 10) (ppq : π v0 6 = some pq) (ppc : π ((v0 + 4) + 2) 0 = some ((v0 + 4) + 1)) (ht : ∀ j, 0 ≤ j → j < n → vA h ((v0 + 1) + 1) j = t j) (hn : vI h (v0 + 1) 1 = n) (n1 : n ≤ 240) (tp : ∀ j, t j ≠ -1) (D : v0 + 9 ≤ pg) (wl : 0 ≤ vI h (v0 + 1) 1 ∧ vI h (v0 + 1) 1 ≤ 240) (wc : ∀ j, 0 ≤ vA h ((v0 + 1) + 1) j ∧ vA h ((v0 + 1) + 1) j ≤ 65535) : qi (f_SF_parse N v0 h) (fun r => (∃ s, r.1 = .inl s ∧ x_P1 (x_scr t n 0 0 0 (fun _ => 0) (fun _ => -1)) s) ∨ (r.1 = .inr xE1 ∧ x_P0 (x_scr t n 0 0 0 (fun _ => 0) (fun _ => -1)))) := by
  unfold f_SF_parse
  refine l_gR T (d_SF_2 T kv0) ?_
  have kk1 := e_SF_2 T kv0
  refine l_gR T (d_SF_0 T kv0) ?_
  have kk2 := e_SF_0 T kv0
  refine l_gR T ppg ?_
  refine l_gO ?_
  refine j_Pa_read (v0 := (v0 + 4)) (v1 := (v0 + 1)) (v2 := pg) (t := t) (n := n) T kk1 kk2 kpg ppc ht hn n1 tp (by show (v0 + 1) + 2 ≤ (v0 + 4) ∧ (v0 + 4) + 5 ≤ pg; omega) wl wc ?_ ?_
  · intro πhr5_3 hr5_3 Thr5_3 zhr5_3 zhr5_3_0 zhr5_3_1 g1r5_3_0
    have pp4 : πhr5_3 v0 7 = some pg := by rw [zhr5_3 v0 7 (by omega)]; exact ppg
    have pp5 : πhr5_3 v0 6 = some pq := by rw [zhr5_3 v0 6 (by omega)]; exact ppq
    have pp6 : πhr5_3 ((v0 + 4) + 2) 0 = some ((v0 + 4) + 1) := by rw [zhr5_3 ((v0 + 4) + 2) 0 (by omega)]; exact ppc
    try dsimp only
    refine qi_if (fun cc7 => absurd cc7 (by decide)) (fun _ => ?_)
    refine l_sI Thr5_3 kv0 (by decide) rfl ?_
    intro h7_8 Th7_8 ih7_8 ah7_8
    refine l_gR Th7_8 pp5 ?_
    refine l_gR Th7_8 pp4 ?_
    refine l_SF_6 (q := pg) Th7_8 kv0 ?_
    intro πh10_9 h10_9 Th10_9 ph10_9 ih10_9 ah10_9
    have pp10 : πh10_9 v0 7 = some pg := by rw [ph10_9, if_neg (by omega)]; exact pp4
    have pp11 : πh10_9 ((v0 + 4) + 2) 0 = some ((v0 + 4) + 1) := by rw [ph10_9, if_neg (by omega)]; exact pp6
    have pp12 : πh10_9 (v0 + 4) 5 = some pg := by rw [ph10_9, if_neg (by omega)]; exact zhr5_3_0
    have pp13 : πh10_9 ((v0 + 4) + 1) 0 = some (pg + 1) := by rw [ph10_9, if_neg (by omega)]; exact zhr5_3_1
    have pp14 : πh10_9 v0 6 = some pg := by rw [ph10_9, if_pos ⟨rfl, rfl⟩]
    refine l_SF_7 (q := pq) Th10_9 kv0 ?_
    intro πh11_15 h11_15 Th11_15 ph11_15 ih11_15 ah11_15
    have pp16 : πh11_15 ((v0 + 4) + 2) 0 = some ((v0 + 4) + 1) := by rw [ph11_15, if_neg (by omega)]; exact pp11
    have pp17 : πh11_15 (v0 + 4) 5 = some pg := by rw [ph11_15, if_neg (by omega)]; exact pp12
    have pp18 : πh11_15 ((v0 + 4) + 1) 0 = some (pg + 1) := by rw [ph11_15, if_neg (by omega)]; exact pp13
    have pp19 : πh11_15 v0 6 = some pg := by rw [ph11_15, if_neg (by omega)]; exact pp14
    have pp20 : πh11_15 v0 7 = some pq := by rw [ph11_15, if_pos ⟨rfl, rfl⟩]
    refine l_sI Th11_15 kv0 (by decide) rfl ?_
    intro h12_21 Th12_21 ih12_21 ah12_21
    refine l_gR Th12_21 pp19 ?_
    refine l_gI (e := (vI hr5_3 pg 3)) (by rw [ih12_21 pg 3, if_neg (fun z => absurd z.2 (by decide)), ih11_15 pg 3, ih10_9 pg 3, ih7_8 pg 3, if_neg (fun z => absurd z.2 (by decide))]) ?_
    refine qi_some ?_
    exact Or.inl ⟨_, rfl, g1r5_3_0⟩
  · intro πhr5_3 hr5_3 Thr5_3 zhr5_3 g0r5_3_0
    have pp22 : πhr5_3 v0 7 = some pg := by rw [zhr5_3 v0 7 (by omega)]; exact ppg
    have pp23 : πhr5_3 v0 6 = some pq := by rw [zhr5_3 v0 6 (by omega)]; exact ppq
    have pp24 : πhr5_3 ((v0 + 4) + 2) 0 = some ((v0 + 4) + 1) := by rw [zhr5_3 ((v0 + 4) + 2) 0 (by omega)]; exact ppc
    try dsimp only
    refine qi_if (fun _ => ?_) (fun cc25 => absurd (by decide) cc25)
    refine l_gR Thr5_3 (d_SF_2 Thr5_3 kv0) ?_
    refine l_gO ?_
    refine j_Pa_refusedAt (v0 := (v0 + 4)) Thr5_3 kk1 ?_
    intro yr17_26 
    try dsimp only
    refine l_sI Thr5_3 kv0 (by decide) rfl ?_
    intro h18_27 Th18_27 ih18_27 ah18_27
    refine qi_some ?_
    exact Or.inr ⟨rfl, g0r5_3_0⟩
