set_option maxHeartbeats 2000000 in
theorem i_Cur_look {L : q_L} {π : Nat → Nat → Option Nat} {N : Nat} {tx : Nat} {t : Int32 → Int32} {n : Int32} {h : z_H} {v0 : Nat} {v1 : Int32} (T : x_U L π h) (kv0 : qκ L v0 = 3) (ktx : qκ L tx = 11) (ptx : π v0 0 = some tx) (ht : ∀ j, 0 ≤ j → j < n → vA h (tx + 1) j = t j) (hn : vI h tx 1 = n) : qi (f_Cur_look N v0 v1 h) (fun r => r = (x_lk t n (vI h v0 1 + v1), h)) := by
  unfold f_Cur_look
  refine l_gI (e := (vI h v0 1)) rfl ?_
  refine qi_bs ?_
  refine l_gR T ptx ?_
  refine l_gI (e := (vI h tx 1)) rfl ?_
  refine qi_if (fun cc1 => ?_) (fun cc1 => ?_)
  · skip
    refine qi_some ?_
    exact Prod.ext (by show (-1) = x_lk t n (vI h v0 1 + v1); rw [x_lk, if_neg (Int32.not_lt.mpr (hn ▸ cc1))]) rfl
  · skip
    refine l_gR T ptx ?_
    refine l_gR T (d_Row_0 T ktx) ?_
    refine l_aI (e := (vA h (tx + 1) ((vI h v0 1) + v1))) (fun _ => rfl) (fun ix2 => ?_)
    refine qi_some ?_
    exact Prod.ext (by show (vA h (tx + 1) ((vI h v0 1) + v1)) = x_lk t n (vI h v0 1 + v1); rw [x_lk, if_pos (hn ▸ Int32.not_le.mp cc1), ht _ ix2 (hn ▸ Int32.not_le.mp cc1)]) rfl
theorem j_Cur_look {L : q_L} {π : Nat → Nat → Option Nat} {N : Nat} {tx : Nat} {t : Int32 → Int32} {n : Int32} {h : z_H} {v0 : Nat} {v1 : Int32} {β : Type} {f : Int32 × z_H → Option β} {Q : β → Prop} {e : Int32} (T : x_U L π h) (kv0 : qκ L v0 = 3) (ktx : qκ L tx = 11) (ptx : π v0 0 = some tx) (ht : ∀ j, 0 ≤ j → j < n → vA h (tx + 1) j = t j) (hn : vI h tx 1 = n) (he : x_lk t n (vI h v0 1 + v1) = e) (H : qi (f (e, h)) Q) : qi (z_b (f_Cur_look N v0 v1 h) f) Q := by
  refine qi_b (i_Cur_look  T kv0 ktx ptx ht hn) ?_
  rintro r rfl
  rw [he]; exact H

set_option maxHeartbeats 2000000 in
theorem i_Cur_refuse {L : q_L} {π : Nat → Nat → Option Nat} {N : Nat} {h : z_H} {v0 : Nat} {v1 : Int32} (T : x_U L π h) (kv0 : qκ L v0 = 3)  : qi (f_Cur_refuse N v0 v1 h) (fun r => x_U L π r.2 ∧ r.1 = 0) := by
  unfold f_Cur_refuse
  refine l_gI (e := (vI h v0 1)) rfl ?_
  refine l_sI T kv0 (by decide) rfl ?_
  intro h2_1 Th2_1 ih2_1 ah2_1
  refine qi_some ?_
  exact ⟨Th2_1, rfl⟩
theorem j_Cur_refuse {L : q_L} {π : Nat → Nat → Option Nat} {N : Nat} {h : z_H} {v0 : Nat} {v1 : Int32} {β : Type} {f : Int32 × z_H → Option β} {Q : β → Prop} (T : x_U L π h) (kv0 : qκ L v0 = 3)  (H0 : ∀ h', x_U L π h' → qi (f (0, h')) Q) : qi (z_b (f_Cur_refuse N v0 v1 h) f) Q := by
  refine qi_b (i_Cur_refuse  T kv0 ) ?_
  rintro ⟨y, hz⟩ ⟨Tz, ey⟩
  · dsimp only at *; subst ey; exact H0 hz Tz 

set_option maxHeartbeats 2000000 in
theorem i_Cur_pass {L : q_L} {π : Nat → Nat → Option Nat} {N : Nat} {tx : Nat} {t : Int32 → Int32} {n : Int32} {h : z_H} {v0 : Nat} {v1 : Int32} (T : x_U L π h) (kv0 : qκ L v0 = 3) (ktx : qκ L tx = 11) (ptx : π v0 0 = some tx) (ht : ∀ j, 0 ≤ j → j < n → vA h (tx + 1) j = t j) (hn : vI h tx 1 = n) : qi (f_Cur_pass N v0 v1 h) (fun r => x_U L π r.2 ∧ ((r.1 = 1 ∧ (vI r.2 v0 1 = vI h v0 1 + 1) ∧ (x_lk t n (vI h v0 1) = v1) ∧ (∀ a k, ¬ ((a = v0 ∧ k = 1) ∨ (a = v0 ∧ k = 2)) → vI r.2 a k = vI h a k) ∧ (∀ a, ¬ (a < a) → vA r.2 a = vA h a)) ∨ (r.1 = 0 ∧ (¬ x_lk t n (vI h v0 1) = v1)))) := by
  unfold f_Cur_pass
  refine l_gO ?_
  refine j_Cur_look (v0 := v0) (v1 := (0 : Int32)) (tx := tx) (t := t) (n := n) (e := (x_lk t n (vI h v0 1))) T kv0 ktx ptx ht hn (by simp only [Int32.add_zero, x_s11, x_s12, x_s21, x_s13, x_s22, x_s31]) ?_
  try dsimp only
  refine qi_if (fun cc2 => ?_) (fun cc2 => ?_)
  · skip
    refine l_gI (e := (vI h v0 1)) rfl ?_
    refine l_sI T kv0 (by decide) rfl ?_
    intro h5_3 Th5_3 ih5_3 ah5_3
    refine qi_some ?_
    exact ⟨Th5_3, Or.inl ⟨rfl, (by show vI h5_3 v0 1 = vI h v0 1 + 1; rw [show vI h5_3 v0 1 = ((vI h v0 1) + 1) from (by rw [ih5_3 v0 1, if_pos ⟨rfl, rfl⟩])] <;> (first | assumption | with_reducible rfl | grind)), (by show x_lk t n (vI h v0 1) = v1; first | assumption | with_reducible rfl | grind), (fun a k na => by rw [ih5_3 a k, if_neg (fun z => na (Or.inl z))]), (fun a na => by rw [ah5_3 a])⟩⟩
  · skip
    refine l_gO ?_
    refine j_Cur_refuse (v0 := v0) (v1 := (0 : Int32)) T kv0 ?_
    · intro hr7_4 Thr7_4
      try dsimp only
      refine qi_zB (fun zb5 => ?_)
      refine qi_some ?_
      exact ⟨Thr7_4, Or.inr ⟨rfl, (by show ¬ x_lk t n (vI h v0 1) = v1; first | assumption | with_reducible rfl | grind)⟩⟩
theorem j_Cur_pass {L : q_L} {π : Nat → Nat → Option Nat} {N : Nat} {tx : Nat} {t : Int32 → Int32} {n : Int32} {h : z_H} {v0 : Nat} {v1 : Int32} {β : Type} {f : Int32 × z_H → Option β} {Q : β → Prop} (T : x_U L π h) (kv0 : qκ L v0 = 3) (ktx : qκ L tx = 11) (ptx : π v0 0 = some tx) (ht : ∀ j, 0 ≤ j → j < n → vA h (tx + 1) j = t j) (hn : vI h tx 1 = n) (H1 : ∀ h', x_U L π h' → (vI h' v0 1 = vI h v0 1 + 1) → (x_lk t n (vI h v0 1) = v1) → (∀ a k, ¬ ((a = v0 ∧ k = 1) ∨ (a = v0 ∧ k = 2)) → vI h' a k = vI h a k) → (∀ a, ¬ (a < a) → vA h' a = vA h a) → qi (f (1, h')) Q) (H0 : ∀ h', x_U L π h' → (¬ x_lk t n (vI h v0 1) = v1) → qi (f (0, h')) Q) : qi (z_b (f_Cur_pass N v0 v1 h) f) Q := by
  refine qi_b (i_Cur_pass  T kv0 ktx ptx ht hn) ?_
  rintro ⟨y, hz⟩ ⟨Tz, ⟨ey, g0, g1, g2, g3⟩ | ⟨ey, g0⟩⟩
  · dsimp only at *; subst ey; exact H1 hz Tz g0 g1 g2 g3
  · dsimp only at *; subst ey; exact H0 hz Tz g0

set_option maxHeartbeats 2000000 in
theorem i_It_add {L : q_L} {π : Nat → Nat → Option Nat} {N : Nat} {h : z_H} {v0 : Nat} {v1 : Int32} {v2 : Int32} (T : x_U L π h) (kv0 : qκ L v0 = 5)  : qi (f_It_add N v0 v1 v2 h) (fun r => x_U L π r ∧ (∀ a k, ¬ ((a = v0 ∧ k = 4)) → vI r a k = vI h a k) ∧ (∀ a, ¬ (a = (v0 + 1) ∨ a = (v0 + 2)) → vA r a = vA h a)) := by
  unfold f_It_add
  refine l_gI (e := (vI h v0 4)) rfl ?_
  refine qi_if (fun cc1 => ?_) (fun cc1 => ?_)
  · skip
    refine qi_some ?_
    exact ⟨T, (fun a k na => by rfl), (fun a na => by rfl)⟩
  · skip
    refine l_gR T (d_It_0 T kv0) ?_
    refine l_gI (e := (vI h v0 4)) rfl ?_
    refine l_uI T ?_
    intro h5_2 Th5_2 jh5_2 ih5_2 ah5_2 bh5_2
    refine l_gR Th5_2 (d_It_1 Th5_2 kv0) ?_
    refine l_gI (e := (vI h v0 4)) (by rw [ih5_2 v0 4]) ?_
    refine l_uI Th5_2 ?_
    intro h8_3 Th8_3 jh8_3 ih8_3 ah8_3 bh8_3
    refine l_gR Th8_3 (d_It_2 Th8_3 kv0) ?_
    refine l_gI (e := (vI h v0 4)) (by rw [ih8_3 v0 4, ih5_2 v0 4]) ?_
    refine l_uL Th8_3 ?_
    intro h11_4 Th11_4 ih11_4 ah11_4
    refine l_gR Th11_4 (d_It_3 Th11_4 kv0) ?_
    refine l_gI (e := (vI h v0 4)) (by rw [ih11_4 v0 4, ih8_3 v0 4, ih5_2 v0 4]) ?_
    refine l_uL Th11_4 ?_
    intro h14_5 Th14_5 ih14_5 ah14_5
    refine l_gI (e := (vI h v0 4)) (by rw [ih14_5 v0 4, ih11_4 v0 4, ih8_3 v0 4, ih5_2 v0 4]) ?_
    refine l_sI Th14_5 kv0 (by decide) rfl ?_
    intro h16_6 Th16_6 ih16_6 ah16_6
    refine qi_some ?_
    exact ⟨Th16_6, (fun a k na => by rw [ih16_6 a k, if_neg (fun z => na (z)), ih14_5 a k, ih11_4 a k, ih8_3 a k, ih5_2 a k]), (fun a na => by rw [ah16_6 a, ah14_5 a, ah11_4 a, bh8_3 a (fun z => na (Or.inr (z))), bh5_2 a (fun z => na (Or.inl z))])⟩
theorem j_It_add {L : q_L} {π : Nat → Nat → Option Nat} {N : Nat} {h : z_H} {v0 : Nat} {v1 : Int32} {v2 : Int32} {β : Type} {f : z_H → Option β} {Q : β → Prop} (T : x_U L π h) (kv0 : qκ L v0 = 5)  (H : ∀ h', x_U L π h' → (∀ a k, ¬ ((a = v0 ∧ k = 4)) → vI h' a k = vI h a k) → (∀ a, ¬ (a = (v0 + 1) ∨ a = (v0 + 2)) → vA h' a = vA h a) → qi (f h') Q) : qi (z_b (f_It_add N v0 v1 v2 h) f) Q := by
  refine qi_b (i_It_add  T kv0 ) ?_
  rintro hz ⟨Tz, g0, g1⟩
  exact H hz Tz g0 g1

set_option maxHeartbeats 2000000 in
theorem i_It_allow_10 {L : q_L} {π : Nat → Nat → Option Nat} {N : Nat} : ∀ (m9 : Nat) (v0 : Nat) (v2 : Int32) (v3 : Int32) (v4 : Int32) (h : z_H), x_U L π h → qκ L v0 = 5 → qi (f_It_allow_10 N m9 v0 v2 v3 v4 h) (fun r => x_U L π r ∧ (∀ a k, ¬ (a < a) → vI r a k = vI h a k) ∧ (∀ a, ¬ (a < a) → vA r a = vA h a)) := by
  intro m9
  induction m9 with
  | zero => intro v0 v2 v3 v4 h T kv0 r e; rw [f_It_allow_10] at e; cases e
  | succ m9 ih =>
    intro v0 v2 v3 v4 h T kv0
    rw [f_It_allow_10]
    refine qi_if (fun cc1 => ?_) (fun cc1 => ?_)
    · skip
      refine qi_some ?_
      exact ⟨T, (fun a k na => by rfl), (fun a na => by rfl)⟩
    · skip
      refine qi_if (fun cc2 => ?_) (fun cc2 => ?_)
      · skip
        refine qi_some ?_
        exact ⟨T, (fun a k na => by rfl), (fun a na => by rfl)⟩
      · skip
        refine qi_bs ?_
        refine qi_if (fun cc3 => ?_) (fun cc3 => ?_)
        · skip
          refine l_gR T (d_It_3 T kv0) ?_
          refine l_aL (fun lx4 => ?_)
          refine l_uL T ?_
          intro h7_5 Th7_5 ih7_5 ah7_5
          refine qi_bs ?_
          refine qi_mono (ih v0 v2 v3 (v4 + 1) h7_5 Th7_5 kv0) ?_
          rintro hrz6_7 ⟨Thrz6_7, frz6_7_I, frz6_7_A⟩
          try dsimp only at *
          exact ⟨Thrz6_7, (fun a k na => by rw [frz6_7_I a k (by omega), ih7_5 a k]), (fun a na => by rw [frz6_7_A a (by omega), ah7_5 a])⟩
        · skip
          refine l_gR T (d_It_2 T kv0) ?_
          refine l_aL (fun lx8 => ?_)
          refine l_uL T ?_
          intro h11_9 Th11_9 ih11_9 ah11_9
          refine qi_bs ?_
          refine qi_mono (ih v0 v2 v3 (v4 + 1) h11_9 Th11_9 kv0) ?_
          rintro hrz10_11 ⟨Thrz10_11, frz10_11_I, frz10_11_A⟩
          try dsimp only at *
          exact ⟨Thrz10_11, (fun a k na => by rw [frz10_11_I a k (by omega), ih11_9 a k]), (fun a na => by rw [frz10_11_A a (by omega), ah11_9 a])⟩
theorem j_It_allow_10 {L : q_L} {π : Nat → Nat → Option Nat} {N : Nat} {m9 : Nat} {h : z_H} {v0 : Nat} {v2 : Int32} {v3 : Int32} {v4 : Int32} {β : Type} {f : z_H → Option β} {Q : β → Prop} (T : x_U L π h) (kv0 : qκ L v0 = 5)  (H : ∀ h', x_U L π h' → (∀ a k, ¬ (a < a) → vI h' a k = vI h a k) → (∀ a, ¬ (a < a) → vA h' a = vA h a) → qi (f h') Q) : qi (z_b (f_It_allow_10 N m9 v0 v2 v3 v4 h) f) Q := by
  refine qi_b (i_It_allow_10 m9 v0 v2 v3 v4 h  T kv0 ) ?_
  rintro hz ⟨Tz, g0, g1⟩
  exact H hz Tz g0 g1

set_option maxHeartbeats 2000000 in
theorem i_It_allow {L : q_L} {π : Nat → Nat → Option Nat} {N : Nat} {h : z_H} {v0 : Nat} {v1 : Int32} {v2 : Int32} (T : x_U L π h) (kv0 : qκ L v0 = 5)  : qi (f_It_allow N v0 v1 v2 h) (fun r => x_U L π r ∧ (∀ a k, ¬ (a < a) → vI r a k = vI h a k) ∧ (∀ a, ¬ (a < a) → vA r a = vA h a)) := by
  unfold f_It_allow
  refine l_gI (e := (vI h v0 4)) rfl ?_
  refine qi_bs ?_
  refine qi_tail ?_
  refine j_It_allow_10 (v0 := v0) (v2 := v2) (v3 := ((vI h v0 4) - 1)) (v4 := v1) T kv0 ?_
  intro hrz1_2 Thrz1_2 frz1_2_I frz1_2_A
  try dsimp only
  refine qi_some ?_
  exact ⟨Thrz1_2, (fun a k na => by rw [frz1_2_I a k (by omega)]), (fun a na => by rw [frz1_2_A a (by omega)])⟩
theorem j_It_allow {L : q_L} {π : Nat → Nat → Option Nat} {N : Nat} {h : z_H} {v0 : Nat} {v1 : Int32} {v2 : Int32} {β : Type} {f : z_H → Option β} {Q : β → Prop} (T : x_U L π h) (kv0 : qκ L v0 = 5)  (H : ∀ h', x_U L π h' → (∀ a k, ¬ (a < a) → vI h' a k = vI h a k) → (∀ a, ¬ (a < a) → vA h' a = vA h a) → qi (f h') Q) : qi (z_b (f_It_allow N v0 v1 v2 h) f) Q := by
  refine qi_b (i_It_allow  T kv0 ) ?_
  rintro hz ⟨Tz, g0, g1⟩
  exact H hz Tz g0 g1

set_option maxHeartbeats 2000000 in
theorem i_It_turn {L : q_L} {π : Nat → Nat → Option Nat} {N : Nat} {h : z_H} {v0 : Nat} (T : x_U L π h) (kv0 : qκ L v0 = 5)  : qi (f_It_turn N v0 h) (fun r => x_U L π r ∧ (∀ a k, ¬ (a < a) → vI r a k = vI h a k) ∧ (∀ a, ¬ (a < a) → vA r a = vA h a)) := by
  unfold f_It_turn
  refine l_gI (e := (vI h v0 4)) rfl ?_
  refine qi_bs ?_
  refine qi_if (fun cc1 => ?_) (fun cc1 => ?_)
  · skip
    refine qi_some ?_
    exact ⟨T, (fun a k na => by rfl), (fun a na => by rfl)⟩
  · skip
    refine l_gR T (d_It_2 T kv0) ?_
    refine l_gR T (d_It_2 T kv0) ?_
    refine l_aL (fun lx2 => ?_)
    refine l_uL T ?_
    intro h7_3 Th7_3 ih7_3 ah7_3
    refine l_gR Th7_3 (d_It_3 Th7_3 kv0) ?_
    refine l_gR Th7_3 (d_It_3 Th7_3 kv0) ?_
    refine l_aL (fun lx4 => ?_)
    refine l_uL Th7_3 ?_
    intro h11_5 Th11_5 ih11_5 ah11_5
    refine qi_some ?_
    exact ⟨Th11_5, (fun a k na => by rw [ih11_5 a k, ih7_3 a k]), (fun a na => by rw [ah11_5 a, ah7_3 a])⟩
theorem j_It_turn {L : q_L} {π : Nat → Nat → Option Nat} {N : Nat} {h : z_H} {v0 : Nat} {β : Type} {f : z_H → Option β} {Q : β → Prop} (T : x_U L π h) (kv0 : qκ L v0 = 5)  (H : ∀ h', x_U L π h' → (∀ a k, ¬ (a < a) → vI h' a k = vI h a k) → (∀ a, ¬ (a < a) → vA h' a = vA h a) → qi (f h') Q) : qi (z_b (f_It_turn N v0 h) f) Q := by
  refine qi_b (i_It_turn  T kv0 ) ?_
  rintro hz ⟨Tz, g0, g1⟩
  exact H hz Tz g0 g1
