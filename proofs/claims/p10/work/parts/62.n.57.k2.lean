set_option maxHeartbeats 2000000 in
theorem ii_Cur_look {L : q_L} {π : Nat → Nat → Option Nat} {N : Nat} {tx : Nat} {t : Int32 → Int32} {n : Int32} {h : z_H} {v0 : Nat} {v1 : Int32} (T : x_U L π h) (kv0 : qκ L v0 = 3) (ktx : qκ L tx = 11) (ptx : π v0 0 = some tx) (ht : ∀ j, 0 ≤ j → j < n → vA h (tx + 1) j = t j) (hn : vI h tx 1 = n) : qi (f_Cur_look N v0 v1 h) (fun r => r = (x_lk t n (vI h v0 1 + v1), h)) := by
  unfold f_Cur_look
  refine l_gI (e := (vI h v0 1)) rfl ?_
  refine qi_bs ?_
  refine l_gR T ptx ?_
  refine l_gI (e := (vI h tx 1)) rfl ?_
  refine qi_if (fun cc1 => ?_) (fun cc1 => ?_)
  · skip
    refine qi_some ?_
    exact Prod.ext (by show (-1) = x_lk t n (vI h v0 1 + v1); rw [x_lk, if_neg (Int32.not_lt.mpr (hn ▸ cc1))]) rfl
  · skip
    refine l_gR T ptx ?_
    refine l_gR T (d_Row_0 T ktx) ?_
    refine l_aI (e := (vA h (tx + 1) ((vI h v0 1) + v1))) (fun _ => rfl) (fun ix2 => ?_)
    refine qi_some ?_
    exact Prod.ext (by show (vA h (tx + 1) ((vI h v0 1) + v1)) = x_lk t n (vI h v0 1 + v1); rw [x_lk, if_pos (hn ▸ Int32.not_le.mp cc1), ht _ ix2 (hn ▸ Int32.not_le.mp cc1)]) rfl
theorem jj_Cur_look {L : q_L} {π : Nat → Nat → Option Nat} {N : Nat} {tx : Nat} {t : Int32 → Int32} {n : Int32} {h : z_H} {v0 : Nat} {v1 : Int32} {β : Type} {f : Int32 × z_H → Option β} {Q : β → Prop} {e : Int32} (T : x_U L π h) (kv0 : qκ L v0 = 3) (ktx : qκ L tx = 11) (ptx : π v0 0 = some tx) (ht : ∀ j, 0 ≤ j → j < n → vA h (tx + 1) j = t j) (hn : vI h tx 1 = n) (he : x_lk t n (vI h v0 1 + v1) = e) (H : qi (f (e, h)) Q) : qi (z_b (f_Cur_look N v0 v1 h) f) Q := by
  refine qi_b (ii_Cur_look  T kv0 ktx ptx ht hn) ?_
  rintro r rfl
  rw [he]; exact H

set_option maxHeartbeats 2000000 in
theorem ii_Cur_refuse {L : q_L} {π : Nat → Nat → Option Nat} {N : Nat} {h : z_H} {v0 : Nat} {v1 : Int32} (T : x_U L π h) (kv0 : qκ L v0 = 3)  : qi (f_Cur_refuse N v0 v1 h) (fun r => x_U L π r.2 ∧ r.1 = 0) := by
  unfold f_Cur_refuse
  refine l_gI (e := (vI h v0 1)) rfl ?_
  refine o_sI T kv0 (by decide) rfl ?_
  intro h2_1 Th2_1 ih2_1 ah2_1 lh2_1
  refine qi_some ?_
  exact ⟨Th2_1, rfl⟩
theorem jj_Cur_refuse {L : q_L} {π : Nat → Nat → Option Nat} {N : Nat} {h : z_H} {v0 : Nat} {v1 : Int32} {β : Type} {f : Int32 × z_H → Option β} {Q : β → Prop} (T : x_U L π h) (kv0 : qκ L v0 = 3)  (H0 : ∀ h', x_U L π h' → qi (f (0, h')) Q) : qi (z_b (f_Cur_refuse N v0 v1 h) f) Q := by
  refine qi_b (ii_Cur_refuse  T kv0 ) ?_
  rintro ⟨y, hz⟩ ⟨Tz, ey⟩
  · dsimp only at *; subst ey; exact H0 hz Tz 

set_option maxHeartbeats 2000000 in
theorem ii_Cur_pass {L : q_L} {π : Nat → Nat → Option Nat} {N : Nat} {tx : Nat} {t : Int32 → Int32} {n : Int32} {h : z_H} {v0 : Nat} {v1 : Int32} (T : x_U L π h) (kv0 : qκ L v0 = 3) (ktx : qκ L tx = 11) (ptx : π v0 0 = some tx) (ht : ∀ j, 0 ≤ j → j < n → vA h (tx + 1) j = t j) (hn : vI h tx 1 = n) : qi (f_Cur_pass N v0 v1 h) (fun r => x_U L π r.2 ∧ ((r.1 = 1 ∧ (vI r.2 v0 1 = vI h v0 1 + 1) ∧ (x_lk t n (vI h v0 1) = v1) ∧ (∀ a k, ¬ ((a = v0 ∧ k = 1) ∨ (a = v0 ∧ k = 2)) → vI r.2 a k = vI h a k) ∧ (∀ a, ¬ (a < a) → vA r.2 a = vA h a) ∧ (∀ a, ¬ (a < a) → vL r.2 a = vL h a)) ∨ (r.1 = 0 ∧ (¬ x_lk t n (vI h v0 1) = v1)))) := by
  unfold f_Cur_pass
  refine l_gO ?_
  refine jj_Cur_look (v0 := v0) (v1 := (0 : Int32)) (tx := tx) (t := t) (n := n) (e := (x_lk t n (vI h v0 1))) T kv0 ktx ptx ht hn (by simp only [Int32.add_zero, x_am1, x_s11, x_s12, x_s21, x_s13, x_s22, x_s31]) ?_
  try dsimp only
  refine qi_if (fun cc2 => ?_) (fun cc2 => ?_)
  · skip
    refine l_gI (e := (vI h v0 1)) rfl ?_
    refine o_sI T kv0 (by decide) rfl ?_
    intro h5_3 Th5_3 ih5_3 ah5_3 lh5_3
    refine qi_some ?_
    exact ⟨Th5_3, Or.inl ⟨rfl, (by show vI h5_3 v0 1 = vI h v0 1 + 1; rw [show vI h5_3 v0 1 = ((vI h v0 1) + 1) from (by rw [ih5_3 v0 1, if_pos ⟨rfl, rfl⟩])] <;> (first | assumption | with_reducible rfl | grind)), (by show x_lk t n (vI h v0 1) = v1; first | assumption | with_reducible rfl | grind), (fun a k na => by rw [ih5_3 a k, if_neg (fun z => na (Or.inl z))]), (fun a na => by rw [ah5_3 a]), (fun a na => by rw [lh5_3 a])⟩⟩
  · skip
    refine l_gO ?_
    refine jj_Cur_refuse (v0 := v0) (v1 := (0 : Int32)) T kv0 ?_
    · intro hr7_4 Thr7_4
      try dsimp only
      refine qi_zB (fun zb5 => ?_)
      refine qi_some ?_
      exact ⟨Thr7_4, Or.inr ⟨rfl, (by show ¬ x_lk t n (vI h v0 1) = v1; first | assumption | with_reducible rfl | grind)⟩⟩
theorem jj_Cur_pass {L : q_L} {π : Nat → Nat → Option Nat} {N : Nat} {tx : Nat} {t : Int32 → Int32} {n : Int32} {h : z_H} {v0 : Nat} {v1 : Int32} {β : Type} {f : Int32 × z_H → Option β} {Q : β → Prop} (T : x_U L π h) (kv0 : qκ L v0 = 3) (ktx : qκ L tx = 11) (ptx : π v0 0 = some tx) (ht : ∀ j, 0 ≤ j → j < n → vA h (tx + 1) j = t j) (hn : vI h tx 1 = n) (H1 : ∀ h', x_U L π h' → (vI h' v0 1 = vI h v0 1 + 1) → (x_lk t n (vI h v0 1) = v1) → (∀ a k, ¬ ((a = v0 ∧ k = 1) ∨ (a = v0 ∧ k = 2)) → vI h' a k = vI h a k) → (∀ a, ¬ (a < a) → vA h' a = vA h a) → (∀ a, ¬ (a < a) → vL h' a = vL h a) → qi (f (1, h')) Q) (H0 : ∀ h', x_U L π h' → (¬ x_lk t n (vI h v0 1) = v1) → qi (f (0, h')) Q) : qi (z_b (f_Cur_pass N v0 v1 h) f) Q := by
  refine qi_b (ii_Cur_pass  T kv0 ktx ptx ht hn) ?_
  rintro ⟨y, hz⟩ ⟨Tz, ⟨ey, g0, g1, g2, g3, g4⟩ | ⟨ey, g0⟩⟩
  · dsimp only at *; subst ey; exact H1 hz Tz g0 g1 g2 g3 g4
  · dsimp only at *; subst ey; exact H0 hz Tz g0

set_option maxHeartbeats 2000000 in
theorem ii_It_add {L : q_L} {π : Nat → Nat → Option Nat} {N : Nat} {h : z_H} {v0 : Nat} {v1 : Int32} {v2 : Int32} (T : x_U L π h) (kv0 : qκ L v0 = 5) (sz : ¬ 240 ≤ vI h v0 4) : qi (f_It_add N v0 v1 v2 h) (fun r => x_U L π r ∧ (vA r (v0 + 1) (vI h v0 4) = v1) ∧ (vA r (v0 + 2) (vI h v0 4) = v2) ∧ (vL r (v0 + 3) (vI h v0 4) = 0) ∧ (vL r (v0 + 4) (vI h v0 4) = 0) ∧ (vI r v0 4 = vI h v0 4 + 1) ∧ (∀ j, 0 ≤ j → ¬ j = (vI h v0 4) → vA r (v0 + 1) j = vA h (v0 + 1) j) ∧ (∀ j, 0 ≤ j → ¬ j = (vI h v0 4) → vA r (v0 + 2) j = vA h (v0 + 2) j) ∧ (∀ j, 0 ≤ j → ¬ j = (vI h v0 4) → vL r (v0 + 3) j = vL h (v0 + 3) j) ∧ (∀ j, 0 ≤ j → ¬ j = (vI h v0 4) → vL r (v0 + 4) j = vL h (v0 + 4) j) ∧ (∀ a k, ¬ ((a = v0 ∧ k = 4)) → vI r a k = vI h a k) ∧ (∀ a, ¬ (a = (v0 + 1) ∨ a = (v0 + 2)) → vA r a = vA h a) ∧ (∀ a, ¬ (a = (v0 + 3) ∨ a = (v0 + 4)) → vL r a = vL h a)) := by
  unfold f_It_add
  refine l_gI (e := (vI h v0 4)) rfl ?_
  refine qi_if (fun cc1 => absurd cc1 sz) (fun _ => ?_)
  refine l_gR T (d_It_0 T kv0) ?_
  refine l_gI (e := (vI h v0 4)) rfl ?_
  refine o_uI T ?_
  intro h5_2 Th5_2 jh5_2 ih5_2 ah5_2 bh5_2 lh5_2
  refine l_gR Th5_2 (d_It_1 Th5_2 kv0) ?_
  refine l_gI (e := (vI h v0 4)) (by rw [ih5_2 v0 4]) ?_
  refine o_uI Th5_2 ?_
  intro h8_3 Th8_3 jh8_3 ih8_3 ah8_3 bh8_3 lh8_3
  refine l_gR Th8_3 (d_It_2 Th8_3 kv0) ?_
  refine l_gI (e := (vI h v0 4)) (by rw [ih8_3 v0 4, ih5_2 v0 4]) ?_
  refine o_uL Th8_3 ?_
  intro h11_4 Th11_4 jh11_4 ih11_4 ah11_4 lh11_4 mh11_4
  refine l_gR Th11_4 (d_It_3 Th11_4 kv0) ?_
  refine l_gI (e := (vI h v0 4)) (by rw [ih11_4 v0 4, ih8_3 v0 4, ih5_2 v0 4]) ?_
  refine o_uL Th11_4 ?_
  intro h14_5 Th14_5 jh14_5 ih14_5 ah14_5 lh14_5 mh14_5
  refine l_gI (e := (vI h v0 4)) (by rw [ih14_5 v0 4, ih11_4 v0 4, ih8_3 v0 4, ih5_2 v0 4]) ?_
  refine o_sI Th14_5 kv0 (by decide) rfl ?_
  intro h16_6 Th16_6 ih16_6 ah16_6 lh16_6
  refine qi_some ?_
  exact ⟨Th16_6, (by show vA h16_6 (v0 + 1) (vI h v0 4) = v1; rw [show vA h16_6 (v0 + 1) = vA h5_2 (v0 + 1) from (by rw [ah16_6 (v0 + 1), ah14_5 (v0 + 1), ah11_4 (v0 + 1), bh8_3 (v0 + 1) (by omega)]), show vA h5_2 (v0 + 1) (vI h v0 4) = v1 from (by rw [ah5_2 (v0 + 1) (vI h v0 4) jh14_5, if_pos ⟨rfl, rfl⟩])] <;> (first | assumption | with_reducible rfl | grind)), (by show vA h16_6 (v0 + 2) (vI h v0 4) = v2; rw [show vA h16_6 (v0 + 2) = vA h8_3 (v0 + 2) from (by rw [ah16_6 (v0 + 2), ah14_5 (v0 + 2), ah11_4 (v0 + 2)]), show vA h8_3 (v0 + 2) (vI h v0 4) = v2 from (by rw [ah8_3 (v0 + 2) (vI h v0 4) jh14_5, if_pos ⟨rfl, rfl⟩])] <;> (first | assumption | with_reducible rfl | grind)), (by show vL h16_6 (v0 + 3) (vI h v0 4) = 0; rw [show vL h16_6 (v0 + 3) = vL h11_4 (v0 + 3) from (by rw [lh16_6 (v0 + 3), mh14_5 (v0 + 3) (by omega)]), show vL h11_4 (v0 + 3) (vI h v0 4) = 0 from (by rw [lh11_4 (v0 + 3) (vI h v0 4) jh14_5, if_pos ⟨rfl, rfl⟩])] <;> (first | assumption | with_reducible rfl | grind)), (by show vL h16_6 (v0 + 4) (vI h v0 4) = 0; rw [show vL h16_6 (v0 + 4) = vL h14_5 (v0 + 4) from (by rw [lh16_6 (v0 + 4)]), show vL h14_5 (v0 + 4) (vI h v0 4) = 0 from (by rw [lh14_5 (v0 + 4) (vI h v0 4) jh14_5, if_pos ⟨rfl, rfl⟩])] <;> (first | assumption | with_reducible rfl | grind)), (by show vI h16_6 v0 4 = vI h v0 4 + 1; rw [show vI h16_6 v0 4 = ((vI h v0 4) + 1) from (by rw [ih16_6 v0 4, if_pos ⟨rfl, rfl⟩])] <;> (first | assumption | with_reducible rfl | grind)), (fun j j0 n1 => by rw [ah16_6 (v0 + 1), ah14_5 (v0 + 1), ah11_4 (v0 + 1), bh8_3 (v0 + 1) (by omega), ah5_2 (v0 + 1) j j0, if_neg (fun z => n1 z.2)]), (fun j j0 n1 => by rw [ah16_6 (v0 + 2), ah14_5 (v0 + 2), ah11_4 (v0 + 2), ah8_3 (v0 + 2) j j0, if_neg (fun z => n1 z.2), bh5_2 (v0 + 2) (by omega)]), (fun j j0 n1 => by rw [lh16_6 (v0 + 3), mh14_5 (v0 + 3) (by omega), lh11_4 (v0 + 3) j j0, if_neg (fun z => n1 z.2), lh8_3 (v0 + 3), lh5_2 (v0 + 3)]), (fun j j0 n1 => by rw [lh16_6 (v0 + 4), lh14_5 (v0 + 4) j j0, if_neg (fun z => n1 z.2), mh11_4 (v0 + 4) (by omega), lh8_3 (v0 + 4), lh5_2 (v0 + 4)]), (fun a k na => by rw [ih16_6 a k, if_neg (fun z => na (z)), ih14_5 a k, ih11_4 a k, ih8_3 a k, ih5_2 a k]), (fun a na => by rw [ah16_6 a, ah14_5 a, ah11_4 a, bh8_3 a (fun z => na (Or.inr (z))), bh5_2 a (fun z => na (Or.inl z))]), (fun a na => by rw [lh16_6 a, mh14_5 a (fun z => na (Or.inr (z))), mh11_4 a (fun z => na (Or.inl z)), lh8_3 a, lh5_2 a])⟩
theorem jj_It_add {L : q_L} {π : Nat → Nat → Option Nat} {N : Nat} {h : z_H} {v0 : Nat} {v1 : Int32} {v2 : Int32} {β : Type} {f : z_H → Option β} {Q : β → Prop} (T : x_U L π h) (kv0 : qκ L v0 = 5) (sz : ¬ 240 ≤ vI h v0 4) (H : ∀ h', x_U L π h' → (vA h' (v0 + 1) (vI h v0 4) = v1) → (vA h' (v0 + 2) (vI h v0 4) = v2) → (vL h' (v0 + 3) (vI h v0 4) = 0) → (vL h' (v0 + 4) (vI h v0 4) = 0) → (vI h' v0 4 = vI h v0 4 + 1) → (∀ j, 0 ≤ j → ¬ j = (vI h v0 4) → vA h' (v0 + 1) j = vA h (v0 + 1) j) → (∀ j, 0 ≤ j → ¬ j = (vI h v0 4) → vA h' (v0 + 2) j = vA h (v0 + 2) j) → (∀ j, 0 ≤ j → ¬ j = (vI h v0 4) → vL h' (v0 + 3) j = vL h (v0 + 3) j) → (∀ j, 0 ≤ j → ¬ j = (vI h v0 4) → vL h' (v0 + 4) j = vL h (v0 + 4) j) → (∀ a k, ¬ ((a = v0 ∧ k = 4)) → vI h' a k = vI h a k) → (∀ a, ¬ (a = (v0 + 1) ∨ a = (v0 + 2)) → vA h' a = vA h a) → (∀ a, ¬ (a = (v0 + 3) ∨ a = (v0 + 4)) → vL h' a = vL h a) → qi (f h') Q) : qi (z_b (f_It_add N v0 v1 v2 h) f) Q := by
  refine qi_b (ii_It_add  T kv0 sz) ?_
  rintro hz ⟨Tz, g0, g1, g2, g3, g4, g5, g6, g7, g8, g9, g10, g11⟩
  exact H hz Tz g0 g1 g2 g3 g4 g5 g6 g7 g8 g9 g10 g11

set_option maxHeartbeats 2000000 in
theorem ii_It_allow_10 {L : q_L} {π : Nat → Nat → Option Nat} {N : Nat} : ∀ (m9 : Nat) (v0 : Nat) (v2 : Int32) (v3 : Int32) (v4 : Int32) (h : z_H), x_U L π h → qκ L v0 = 5 → (32 ≤ v4) → (v2 ≤ 126) → (0 ≤ v3) → qi (f_It_allow_10 N m9 v0 v2 v3 v4 h) (fun r => x_U L π r ∧ (∀ c, x_kc c → x_mb (vL r (v0 + 3) v3) (vL r (v0 + 4) v3) c = (x_mb (vL h (v0 + 3) v3) (vL h (v0 + 4) v3) c || decide (v4 ≤ c ∧ c ≤ v2))) ∧ (∀ j, 0 ≤ j → ¬ j = v3 → vL r (v0 + 3) j = vL h (v0 + 3) j) ∧ (∀ j, 0 ≤ j → ¬ j = v3 → vL r (v0 + 4) j = vL h (v0 + 4) j) ∧ (∀ a k, ¬ (a < a) → vI r a k = vI h a k) ∧ (∀ a, ¬ (a < a) → vA r a = vA h a) ∧ (∀ a, ¬ (a = (v0 + 3) ∨ a = (v0 + 4)) → vL r a = vL h a)) := by
  intro m9
  induction m9 with
  | zero => intro v0 v2 v3 v4 h T kv0 a0 b1 c0 r e; rw [f_It_allow_10] at e; cases e
  | succ m9 ih =>
    intro v0 v2 v3 v4 h T kv0 a0 b1 c0
    rw [f_It_allow_10]
    refine qi_if (fun q => ?_) (fun q => ?_)
    · refine qi_some ⟨T, fun c kc => ?_, fun _ _ _ => rfl, fun _ _ _ => rfl, fun _ _ _ => rfl, fun _ _ => rfl, fun _ _ => rfl⟩
      have z : ¬ (v4 ≤ c ∧ c ≤ v2) := fun z => absurd (Int32.le_trans z.1 z.2) (Int32.not_le.mpr q)
      simp [z]
    refine qi_if (fun q2 => absurd c0 (Int32.not_le.mpr q2)) (fun _ => ?_)
    have le := Int32.not_lt.mp q
    have a1 : v4 ≤ 126 := Int32.le_trans le b1
    refine qi_bs ?_
    refine qi_if (fun q3 => ?_) (fun q3 => ?_)
    · refine l_gR T (d_It_3 T kv0) ?_
      refine l_aLc (e := vL h (v0 + 4) v3) rfl (fun _ => ?_)
      refine o_uL T ?_
      intro h7 T7 j7 i7 a7 l7 m7
      refine qi_bs ?_
      refine qi_mono (ih v0 v2 v3 (v4 + 1) h7 T7 kv0 (by lia) b1 c0) ?_
      rintro r ⟨Tr, g0, g1, g2, g3, g4, g5⟩
      refine ⟨Tr, fun c kc => ?_, fun j j0 n1 => ?_, fun j j0 n1 => ?_, fun a k na => ?_, fun a na => ?_, fun a na => ?_⟩
      · rw [g0 c kc, m7 (v0 + 3) (by omega), l7 (v0 + 4) v3 c0, if_pos ⟨rfl, rfl⟩]
        have z := x_mb_or (lo := vL h (v0 + 3) v3) (hi := vL h (v0 + 4) v3) a0 a1 kc
        rw [if_pos q3, if_pos q3] at z
        rw [z]; exact x_mb_st le b1 kc
      · rw [g1 j j0 n1, m7 (v0 + 3) (by omega)]
      · rw [g2 j j0 n1, l7 (v0 + 4) j j0, if_neg (fun z => n1 z.2)]
      · rw [g3 a k na, i7 a k]
      · rw [g4 a na, a7 a]
      · rw [g5 a na, m7 a (fun z => na (Or.inr z))]
    · refine l_gR T (d_It_2 T kv0) ?_
      refine l_aLc (e := vL h (v0 + 3) v3) rfl (fun _ => ?_)
      refine o_uL T ?_
      intro h7 T7 j7 i7 a7 l7 m7
      refine qi_bs ?_
      refine qi_mono (ih v0 v2 v3 (v4 + 1) h7 T7 kv0 (by lia) b1 c0) ?_
      rintro r ⟨Tr, g0, g1, g2, g3, g4, g5⟩
      refine ⟨Tr, fun c kc => ?_, fun j j0 n1 => ?_, fun j j0 n1 => ?_, fun a k na => ?_, fun a na => ?_, fun a na => ?_⟩
      · rw [g0 c kc, m7 (v0 + 4) (by omega), l7 (v0 + 3) v3 c0, if_pos ⟨rfl, rfl⟩]
        have z := x_mb_or (lo := vL h (v0 + 3) v3) (hi := vL h (v0 + 4) v3) a0 a1 kc
        rw [if_neg q3, if_neg q3] at z
        rw [z]; exact x_mb_st le b1 kc
      · rw [g1 j j0 n1, l7 (v0 + 3) j j0, if_neg (fun z => n1 z.2)]
      · rw [g2 j j0 n1, m7 (v0 + 4) (by omega)]
      · rw [g3 a k na, i7 a k]
      · rw [g4 a na, a7 a]
      · rw [g5 a na, m7 a (fun z => na (Or.inl z))]
theorem jj_It_allow_10 {L : q_L} {π : Nat → Nat → Option Nat} {N : Nat} {m9 : Nat} {h : z_H} {v0 : Nat} {v2 : Int32} {v3 : Int32} {v4 : Int32} {β : Type} {f : z_H → Option β} {Q : β → Prop} (T : x_U L π h) (kv0 : qκ L v0 = 5) (a0 : 32 ≤ v4) (b1 : v2 ≤ 126) (c0 : 0 ≤ v3) (H : ∀ h', x_U L π h' → (∀ c, x_kc c → x_mb (vL h' (v0 + 3) v3) (vL h' (v0 + 4) v3) c = (x_mb (vL h (v0 + 3) v3) (vL h (v0 + 4) v3) c || decide (v4 ≤ c ∧ c ≤ v2))) → (∀ j, 0 ≤ j → ¬ j = v3 → vL h' (v0 + 3) j = vL h (v0 + 3) j) → (∀ j, 0 ≤ j → ¬ j = v3 → vL h' (v0 + 4) j = vL h (v0 + 4) j) → (∀ a k, ¬ (a < a) → vI h' a k = vI h a k) → (∀ a, ¬ (a < a) → vA h' a = vA h a) → (∀ a, ¬ (a = (v0 + 3) ∨ a = (v0 + 4)) → vL h' a = vL h a) → qi (f h') Q) : qi (z_b (f_It_allow_10 N m9 v0 v2 v3 v4 h) f) Q := by
  refine qi_b (ii_It_allow_10 m9 v0 v2 v3 v4 h  T kv0 a0 b1 c0) ?_
  rintro hz ⟨Tz, g0, g1, g2, g3, g4, g5⟩
  exact H hz Tz g0 g1 g2 g3 g4 g5

set_option maxHeartbeats 2000000 in
theorem ii_It_allow {L : q_L} {π : Nat → Nat → Option Nat} {N : Nat} {h : z_H} {v0 : Nat} {v1 : Int32} {v2 : Int32} (T : x_U L π h) (kv0 : qκ L v0 = 5) (a0 : 32 ≤ v1) (b1 : v2 ≤ 126) (z1 : 0 ≤ vI h v0 4 - 1) : qi (f_It_allow N v0 v1 v2 h) (fun r => x_U L π r ∧ (∀ c, x_kc c → x_mb (vL r (v0 + 3) (vI h v0 4 - 1)) (vL r (v0 + 4) (vI h v0 4 - 1)) c = (x_mb (vL h (v0 + 3) (vI h v0 4 - 1)) (vL h (v0 + 4) (vI h v0 4 - 1)) c || decide (v1 ≤ c ∧ c ≤ v2))) ∧ (∀ j, 0 ≤ j → ¬ j = (vI h v0 4 - 1) → vL r (v0 + 3) j = vL h (v0 + 3) j) ∧ (∀ j, 0 ≤ j → ¬ j = (vI h v0 4 - 1) → vL r (v0 + 4) j = vL h (v0 + 4) j) ∧ (∀ a k, ¬ (a < a) → vI r a k = vI h a k) ∧ (∀ a, ¬ (a < a) → vA r a = vA h a) ∧ (∀ a, ¬ (a = (v0 + 3) ∨ a = (v0 + 4)) → vL r a = vL h a)) := by
  unfold f_It_allow
  refine l_gI (e := (vI h v0 4)) rfl ?_
  refine qi_bs ?_
  refine qi_tail ?_
  refine jj_It_allow_10 (v0 := v0) (v2 := v2) (v3 := ((vI h v0 4) - 1)) (v4 := v1) T kv0 a0 b1 (by show 0 ≤ ((vI h v0 4) - 1); first | assumption | with_reducible rfl | grind) ?_
  intro hrz1_2 Thrz1_2 grz1_2_0 grz1_2_1 grz1_2_2 frz1_2_I frz1_2_A frz1_2_L
  try dsimp only
  refine qi_some ?_
  exact ⟨Thrz1_2, (by show ∀ c, x_kc c → x_mb (vL hrz1_2 (v0 + 3) (vI h v0 4 - 1)) (vL hrz1_2 (v0 + 4) (vI h v0 4 - 1)) c = (x_mb (vL h (v0 + 3) (vI h v0 4 - 1)) (vL h (v0 + 4) (vI h v0 4 - 1)) c || decide (v1 ≤ c ∧ c ≤ v2)); first | assumption | with_reducible rfl | grind), (fun j j0 n1 => by rw [grz1_2_1 j j0 n1]), (fun j j0 n1 => by rw [grz1_2_2 j j0 n1]), (fun a k na => by rw [frz1_2_I a k (by omega)]), (fun a na => by rw [frz1_2_A a (by omega)]), (fun a na => by rw [frz1_2_L a (fun z => na (z.elim (fun z => Or.inl z) (fun z => Or.inr (z))))])⟩
theorem jj_It_allow {L : q_L} {π : Nat → Nat → Option Nat} {N : Nat} {h : z_H} {v0 : Nat} {v1 : Int32} {v2 : Int32} {β : Type} {f : z_H → Option β} {Q : β → Prop} (T : x_U L π h) (kv0 : qκ L v0 = 5) (a0 : 32 ≤ v1) (b1 : v2 ≤ 126) (z1 : 0 ≤ vI h v0 4 - 1) (H : ∀ h', x_U L π h' → (∀ c, x_kc c → x_mb (vL h' (v0 + 3) (vI h v0 4 - 1)) (vL h' (v0 + 4) (vI h v0 4 - 1)) c = (x_mb (vL h (v0 + 3) (vI h v0 4 - 1)) (vL h (v0 + 4) (vI h v0 4 - 1)) c || decide (v1 ≤ c ∧ c ≤ v2))) → (∀ j, 0 ≤ j → ¬ j = (vI h v0 4 - 1) → vL h' (v0 + 3) j = vL h (v0 + 3) j) → (∀ j, 0 ≤ j → ¬ j = (vI h v0 4 - 1) → vL h' (v0 + 4) j = vL h (v0 + 4) j) → (∀ a k, ¬ (a < a) → vI h' a k = vI h a k) → (∀ a, ¬ (a < a) → vA h' a = vA h a) → (∀ a, ¬ (a = (v0 + 3) ∨ a = (v0 + 4)) → vL h' a = vL h a) → qi (f h') Q) : qi (z_b (f_It_allow N v0 v1 v2 h) f) Q := by
  refine qi_b (ii_It_allow  T kv0 a0 b1 z1) ?_
  rintro hz ⟨Tz, g0, g1, g2, g3, g4, g5⟩
  exact H hz Tz g0 g1 g2 g3 g4 g5

set_option maxHeartbeats 2000000 in
theorem ii_It_turn {L : q_L} {π : Nat → Nat → Option Nat} {N : Nat} {h : z_H} {v0 : Nat} (T : x_U L π h) (kv0 : qκ L v0 = 5) (tz : ¬ vI h v0 4 - 1 < 0) : qi (f_It_turn N v0 h) (fun r => x_U L π r ∧ (vL r (v0 + 3) (vI h v0 4 - 1) = vL h (v0 + 3) (vI h v0 4 - 1) ^^^ (-1)) ∧ (vL r (v0 + 4) (vI h v0 4 - 1) = vL h (v0 + 4) (vI h v0 4 - 1) ^^^ (-1)) ∧ (∀ j, 0 ≤ j → ¬ j = (vI h v0 4 - 1) → vL r (v0 + 3) j = vL h (v0 + 3) j) ∧ (∀ j, 0 ≤ j → ¬ j = (vI h v0 4 - 1) → vL r (v0 + 4) j = vL h (v0 + 4) j) ∧ (∀ a k, ¬ (a < a) → vI r a k = vI h a k) ∧ (∀ a, ¬ (a < a) → vA r a = vA h a) ∧ (∀ a, ¬ (a = (v0 + 3) ∨ a = (v0 + 4)) → vL r a = vL h a)) := by
  unfold f_It_turn
  refine l_gI (e := (vI h v0 4)) rfl ?_
  refine qi_bs ?_
  refine qi_if (fun cc1 => absurd cc1 tz) (fun _ => ?_)
  refine l_gR T (d_It_2 T kv0) ?_
  refine l_gR T (d_It_2 T kv0) ?_
  refine l_aLc (e := (vL h (v0 + 3) ((vI h v0 4) - 1))) rfl (fun ix2 => ?_)
  refine o_uL T ?_
  intro h7_3 Th7_3 jh7_3 ih7_3 ah7_3 lh7_3 mh7_3
  refine l_gR Th7_3 (d_It_3 Th7_3 kv0) ?_
  refine l_gR Th7_3 (d_It_3 Th7_3 kv0) ?_
  refine l_aLc (e := (vL h (v0 + 4) ((vI h v0 4) - 1))) (by rw [mh7_3 (v0 + 4) (by omega)]) (fun ix4 => ?_)
  refine o_uL Th7_3 ?_
  intro h11_5 Th11_5 jh11_5 ih11_5 ah11_5 lh11_5 mh11_5
  refine qi_some ?_
  exact ⟨Th11_5, (by show vL h11_5 (v0 + 3) (vI h v0 4 - 1) = vL h (v0 + 3) (vI h v0 4 - 1) ^^^ (-1); rw [show vL h11_5 (v0 + 3) = vL h7_3 (v0 + 3) from (by rw [mh11_5 (v0 + 3) (by omega)]), show vL h7_3 (v0 + 3) (vI h v0 4 - 1) = ((vL h (v0 + 3) ((vI h v0 4) - 1)) ^^^ (-1)) from (by rw [lh7_3 (v0 + 3) (vI h v0 4 - 1) jh11_5, if_pos ⟨rfl, rfl⟩])] <;> (first | assumption | with_reducible rfl | grind)), (by show vL h11_5 (v0 + 4) (vI h v0 4 - 1) = vL h (v0 + 4) (vI h v0 4 - 1) ^^^ (-1); rw [show vL h11_5 (v0 + 4) (vI h v0 4 - 1) = ((vL h (v0 + 4) ((vI h v0 4) - 1)) ^^^ (-1)) from (by rw [lh11_5 (v0 + 4) (vI h v0 4 - 1) jh11_5, if_pos ⟨rfl, rfl⟩])] <;> (first | assumption | with_reducible rfl | grind)), (fun j j0 n1 => by rw [mh11_5 (v0 + 3) (by omega), lh7_3 (v0 + 3) j j0, if_neg (fun z => n1 z.2)]), (fun j j0 n1 => by rw [lh11_5 (v0 + 4) j j0, if_neg (fun z => n1 z.2), mh7_3 (v0 + 4) (by omega)]), (fun a k na => by rw [ih11_5 a k, ih7_3 a k]), (fun a na => by rw [ah11_5 a, ah7_3 a]), (fun a na => by rw [mh11_5 a (fun z => na (Or.inr (z))), mh7_3 a (fun z => na (Or.inl z))])⟩
theorem jj_It_turn {L : q_L} {π : Nat → Nat → Option Nat} {N : Nat} {h : z_H} {v0 : Nat} {β : Type} {f : z_H → Option β} {Q : β → Prop} (T : x_U L π h) (kv0 : qκ L v0 = 5) (tz : ¬ vI h v0 4 - 1 < 0) (H : ∀ h', x_U L π h' → (vL h' (v0 + 3) (vI h v0 4 - 1) = vL h (v0 + 3) (vI h v0 4 - 1) ^^^ (-1)) → (vL h' (v0 + 4) (vI h v0 4 - 1) = vL h (v0 + 4) (vI h v0 4 - 1) ^^^ (-1)) → (∀ j, 0 ≤ j → ¬ j = (vI h v0 4 - 1) → vL h' (v0 + 3) j = vL h (v0 + 3) j) → (∀ j, 0 ≤ j → ¬ j = (vI h v0 4 - 1) → vL h' (v0 + 4) j = vL h (v0 + 4) j) → (∀ a k, ¬ (a < a) → vI h' a k = vI h a k) → (∀ a, ¬ (a < a) → vA h' a = vA h a) → (∀ a, ¬ (a = (v0 + 3) ∨ a = (v0 + 4)) → vL h' a = vL h a) → qi (f h') Q) : qi (z_b (f_It_turn N v0 h) f) Q := by
  refine qi_b (ii_It_turn  T kv0 tz) ?_
  rintro hz ⟨Tz, g0, g1, g2, g3, g4, g5, g6⟩
  exact H hz Tz g0 g1 g2 g3 g4 g5 g6
