set_option maxHeartbeats 2000000 in
theorem i_Mod_in {L : q_L} {π : Nat → Nat → Option Nat} {N : Nat} {h : z_H} {v0 : Int32} {v1 : Int32} {v2 : Int32} (T : x_U L π h)   : qi (f_Mod_in N v0 v1 v2 h) (fun r => r.2 = h ∧ (r.1 = 1 ∧ (v1 ≤ v0 ∧ v0 ≤ v2) ∨ r.1 = 0 ∧ (¬ (v1 ≤ v0 ∧ v0 ≤ v2)))) := by
  unfold f_Mod_in
  refine qi_if (fun cc1 => ?_) (fun cc1 => ?_)
  · skip
    refine qi_some ?_
    exact ⟨rfl, Or.inr ⟨rfl, (by show ¬ (v1 ≤ v0 ∧ v0 ≤ v2); first | assumption | with_reducible rfl | grind)⟩⟩
  · skip
    refine qi_if (fun cc2 => ?_) (fun cc2 => ?_)
    · skip
      refine qi_some ?_
      exact ⟨rfl, Or.inr ⟨rfl, (by show ¬ (v1 ≤ v0 ∧ v0 ≤ v2); first | assumption | with_reducible rfl | grind)⟩⟩
    · skip
      refine qi_some ?_
      exact ⟨rfl, Or.inl ⟨rfl, (by show v1 ≤ v0 ∧ v0 ≤ v2; first | assumption | with_reducible rfl | grind)⟩⟩
theorem j_Mod_in {L : q_L} {π : Nat → Nat → Option Nat} {N : Nat} {h : z_H} {v0 : Int32} {v1 : Int32} {v2 : Int32} {β : Type} {f : Int32 × z_H → Option β} {Q : β → Prop} (T : x_U L π h)   (H1 : ∀ _u : Unit, (v1 ≤ v0 ∧ v0 ≤ v2) → qi (f (1, h)) Q) (H0 : ∀ _u : Unit, (¬ (v1 ≤ v0 ∧ v0 ≤ v2)) → qi (f (0, h)) Q) : qi (z_b (f_Mod_in N v0 v1 v2 h) f) Q := by
  refine qi_b (i_Mod_in  T  ) ?_
  rintro ⟨y, hz⟩ ⟨e, ⟨ey, g0⟩ | ⟨ey, g0⟩⟩
  · dsimp only at *; subst ey; subst e; exact H1 () g0
  · dsimp only at *; subst ey; subst e; exact H0 () g0

set_option maxHeartbeats 2000000 in
theorem i_Mod_here {L : q_L} {π : Nat → Nat → Option Nat} {N : Nat} {t : Int32 → Int32} {n : Int32} {h : z_H} {v0 : Nat} (T : x_U L π h) (kv0 : q_M L π v0) (ht : ∀ j, 0 ≤ j → j < n → vA h (v0 + 1) j = t j) (hn : vI h v0 3 = n) : qi (f_Mod_here N v0 h) (fun r => r = (x_lk t n (vI h v0 41), h)) := by
  unfold f_Mod_here
  refine l_gI (e := (vI h v0 41)) rfl ?_
  refine l_gI (e := (vI h v0 3)) rfl ?_
  refine qi_if (fun cc1 => ?_) (fun cc1 => ?_)
  · skip
    refine qi_some ?_
    exact Prod.ext (by show (-1) = x_lk t n (vI h v0 41); rw [x_lk, if_neg (Int32.not_lt.mpr (hn ▸ cc1))]) rfl
  · skip
    refine l_gR T (d_Mo_0 kv0) ?_
    refine l_gI (e := (vI h v0 41)) rfl ?_
    refine l_aI (e := (vA h (v0 + 1) (vI h v0 41))) (fun _ => rfl) (fun ix2 => ?_)
    refine qi_some ?_
    exact Prod.ext (by show (vA h (v0 + 1) (vI h v0 41)) = x_lk t n (vI h v0 41); rw [x_lk, if_pos (hn ▸ Int32.not_le.mp cc1), ht _ ix2 (hn ▸ Int32.not_le.mp cc1)]) rfl
theorem j_Mod_here {L : q_L} {π : Nat → Nat → Option Nat} {N : Nat} {t : Int32 → Int32} {n : Int32} {h : z_H} {v0 : Nat} {β : Type} {f : Int32 × z_H → Option β} {Q : β → Prop} {e : Int32} (T : x_U L π h) (kv0 : q_M L π v0) (ht : ∀ j, 0 ≤ j → j < n → vA h (v0 + 1) j = t j) (hn : vI h v0 3 = n) (he : x_lk t n (vI h v0 41) = e) (H : qi (f (e, h)) Q) : qi (z_b (f_Mod_here N v0 h) f) Q := by
  refine qi_b (i_Mod_here  T kv0 ht hn) ?_
  rintro r rfl
  rw [he]; exact H

set_option maxHeartbeats 2000000 in
theorem i_Mod_behind {L : q_L} {π : Nat → Nat → Option Nat} {N : Nat} {t : Int32 → Int32} {n : Int32} {h : z_H} {v0 : Nat} (T : x_U L π h) (kv0 : q_M L π v0) (ht : ∀ j, 0 ≤ j → j < n → vA h (v0 + 1) j = t j) (hn : vI h v0 3 = n) : qi (f_Mod_behind N v0 h) (fun r => r = (x_lk t n (vI h v0 41 + 1), h)) := by
  unfold f_Mod_behind
  refine l_gI (e := (vI h v0 41)) rfl ?_
  refine l_gI (e := (vI h v0 3)) rfl ?_
  refine qi_if (fun cc1 => ?_) (fun cc1 => ?_)
  · skip
    refine qi_some ?_
    exact Prod.ext (by show (-1) = x_lk t n (vI h v0 41 + 1); rw [x_lk, if_neg (Int32.not_lt.mpr (hn ▸ cc1))]) rfl
  · skip
    refine l_gR T (d_Mo_0 kv0) ?_
    refine l_gI (e := (vI h v0 41)) rfl ?_
    refine l_aI (e := (vA h (v0 + 1) ((vI h v0 41) + 1))) (fun _ => rfl) (fun ix2 => ?_)
    refine qi_some ?_
    exact Prod.ext (by show (vA h (v0 + 1) ((vI h v0 41) + 1)) = x_lk t n (vI h v0 41 + 1); rw [x_lk, if_pos (hn ▸ Int32.not_le.mp cc1), ht _ ix2 (hn ▸ Int32.not_le.mp cc1)]) rfl
theorem j_Mod_behind {L : q_L} {π : Nat → Nat → Option Nat} {N : Nat} {t : Int32 → Int32} {n : Int32} {h : z_H} {v0 : Nat} {β : Type} {f : Int32 × z_H → Option β} {Q : β → Prop} {e : Int32} (T : x_U L π h) (kv0 : q_M L π v0) (ht : ∀ j, 0 ≤ j → j < n → vA h (v0 + 1) j = t j) (hn : vI h v0 3 = n) (he : x_lk t n (vI h v0 41 + 1) = e) (H : qi (f (e, h)) Q) : qi (z_b (f_Mod_behind N v0 h) f) Q := by
  refine qi_b (i_Mod_behind  T kv0 ht hn) ?_
  rintro r rfl
  rw [he]; exact H

set_option maxHeartbeats 2000000 in
theorem i_Mod_wrong {L : q_L} {π : Nat → Nat → Option Nat} {N : Nat} {h : z_H} {v0 : Nat} {v1 : Int32} (T : x_U L π h) (kv0 : q_M L π v0)  : qi (f_Mod_wrong N v0 v1 h) (fun r => x_U L π r ∧ (vI r v0 48 = 1) ∧ (∀ a k, ¬ ((a = v0 ∧ k = 5) ∨ (a = v0 ∧ k = 48)) → vI r a k = vI h a k) ∧ (∀ a, ¬ (a < a) → vA r a = vA h a)) := by
  unfold f_Mod_wrong
  refine l_gI (e := (vI h v0 48)) rfl ?_
  refine qi_if (fun cc1 => ?_) (fun cc1 => ?_)
  · skip
    refine l_sI T (q_Mk kv0) (by decide) rfl ?_
    intro h3_2 Th3_2 ih3_2 ah3_2
    unfold f_Mod_wrong_12
    refine l_sI Th3_2 (q_Mk kv0) (by decide) rfl ?_
    intro h1i3_4 Th1i3_4 ih1i3_4 ah1i3_4
    refine qi_some ?_
    exact ⟨Th1i3_4, (by show vI h1i3_4 v0 48 = 1; rw [show vI h1i3_4 v0 48 = 1 from (by rw [ih1i3_4 v0 48, if_pos ⟨rfl, rfl⟩])] <;> (first | assumption | with_reducible rfl | grind)), (fun a k na => by rw [ih1i3_4 a k, if_neg (fun z => na (Or.inr (z))), ih3_2 a k, if_neg (fun z => na (Or.inl z))]), (fun a na => by rw [ah1i3_4 a, ah3_2 a])⟩
  · skip
    unfold f_Mod_wrong_12
    refine l_sI T (q_Mk kv0) (by decide) rfl ?_
    intro h1i5_6 Th1i5_6 ih1i5_6 ah1i5_6
    refine qi_some ?_
    exact ⟨Th1i5_6, (by show vI h1i5_6 v0 48 = 1; rw [show vI h1i5_6 v0 48 = 1 from (by rw [ih1i5_6 v0 48, if_pos ⟨rfl, rfl⟩])] <;> (first | assumption | with_reducible rfl | grind)), (fun a k na => by rw [ih1i5_6 a k, if_neg (fun z => na (Or.inr (z)))]), (fun a na => by rw [ah1i5_6 a])⟩
theorem j_Mod_wrong {L : q_L} {π : Nat → Nat → Option Nat} {N : Nat} {h : z_H} {v0 : Nat} {v1 : Int32} {β : Type} {f : z_H → Option β} {Q : β → Prop} (T : x_U L π h) (kv0 : q_M L π v0)  (H : ∀ h', x_U L π h' → (vI h' v0 48 = 1) → (∀ a k, ¬ ((a = v0 ∧ k = 5) ∨ (a = v0 ∧ k = 48)) → vI h' a k = vI h a k) → (∀ a, ¬ (a < a) → vA h' a = vA h a) → qi (f h') Q) : qi (z_b (f_Mod_wrong N v0 v1 h) f) Q := by
  refine qi_b (i_Mod_wrong  T kv0 ) ?_
  rintro hz ⟨Tz, g0, g1, g2⟩
  exact H hz Tz g0 g1 g2

set_option maxHeartbeats 2000000 in
theorem i_Mod_addItem {L : q_L} {π : Nat → Nat → Option Nat} {N : Nat} {h : z_H} {v0 : Nat} {v1 : Int32} {v2 : Int32} {v3 : Int32} (T : x_U L π h) (kv0 : q_M L π v0) (bd : vI h v0 48 = 0) : qi (f_Mod_addItem N v0 v1 v2 v3 h) (fun r => x_U L π r ∧ (((vI r v0 48 = 0) ∧ (vI r v0 46 = (if 4 ≤ v1 then vI h v0 46 else vI h v0 46 + 1)) ∧ (vI r v0 50 = (if 3 ≤ v1 then 0 else 1)) ∧ (4 ≤ v1 ∨ ¬ vI h v0 46 = 14) ∧ (∀ a k, ¬ ((a = v0 ∧ k = 50) ∨ (a = v0 ∧ k = 5) ∨ (a = v0 ∧ k = 48) ∨ (a = v0 ∧ k = 46)) → vI r a k = vI h a k) ∧ (∀ a, ¬ (a = (v0 + 26) ∨ a = (v0 + 27) ∨ a = (v0 + 29) ∨ a = (v0 + 21)) → vA r a = vA h a)) ∨ ((¬ vI r v0 48 = 0) ∧ (¬ 4 ≤ v1) ∧ (vI h v0 46 = 14) ∧ (∀ a k, ¬ ((a = v0 ∧ k = 50) ∨ (a = v0 ∧ k = 5) ∨ (a = v0 ∧ k = 48) ∨ (a = v0 ∧ k = 46)) → vI r a k = vI h a k) ∧ (∀ a, ¬ (a = (v0 + 26) ∨ a = (v0 + 27) ∨ a = (v0 + 29) ∨ a = (v0 + 21)) → vA r a = vA h a)))) := by
  unfold f_Mod_addItem
  refine qi_if (fun cc1 => ?_) (fun cc1 => ?_)
  · skip
    unfold f_Mod_addItem_10
    refine qi_if (fun _ => ?_) (fun cc3 => absurd (by decide) cc3)
    unfold f_Mod_addItem_32
    refine qi_if (fun _ => ?_) (fun cc5 => absurd (by decide) cc5)
    unfold f_Mod_addItem_47
    refine l_gI (e := (vI h v0 42)) rfl ?_
    refine l_gR T (d_Mo_26 kv0) ?_
    refine l_gI (e := (vI h v0 42)) rfl ?_
    refine l_aI (e := (vA h (v0 + 21) (vI h v0 42))) (fun _ => rfl) (fun ix7 => ?_)
    refine qi_bs ?_
    refine l_gR T (d_Mo_31 kv0) ?_
    refine l_uI T ?_
    intro h7i6_8 Th7i6_8 jh7i6_8 ih7i6_8 ah7i6_8 bh7i6_8
    refine l_gR Th7i6_8 (d_Mo_32 kv0) ?_
    refine l_uI Th7i6_8 ?_
    intro h9i6_9 Th9i6_9 jh9i6_9 ih9i6_9 ah9i6_9 bh9i6_9
    refine l_gR Th9i6_9 (d_Mo_34 kv0) ?_
    refine l_uI Th9i6_9 ?_
    intro h11i6_10 Th11i6_10 jh11i6_10 ih11i6_10 ah11i6_10 bh11i6_10
    refine l_gR Th11i6_10 (d_Mo_37 kv0) ?_
    refine l_uL Th11i6_10 ?_
    intro h13i6_11 Th13i6_11 ih13i6_11 ah13i6_11
    refine l_gR Th13i6_11 (d_Mo_38 kv0) ?_
    refine l_uL Th13i6_11 ?_
    intro h15i6_12 Th15i6_12 ih15i6_12 ah15i6_12
    refine l_gR Th15i6_12 (d_Mo_26 kv0) ?_
    refine l_gI (e := (vI h v0 42)) (by rw [ih15i6_12 v0 42, ih13i6_11 v0 42, ih11i6_10 v0 42, ih9i6_9 v0 42, ih7i6_8 v0 42]) ?_
    refine l_aI (e := (vA h (v0 + 21) (vI h v0 42))) (fun ix13 => (by rw [ah15i6_12 (v0 + 21), ah13i6_11 (v0 + 21), bh11i6_10 (v0 + 21) (by omega), bh9i6_9 (v0 + 21) (by omega), bh7i6_8 (v0 + 21) (by omega)])) (fun ix13 => ?_)
    refine l_uI Th15i6_12 ?_
    intro h19i6_14 Th19i6_14 jh19i6_14 ih19i6_14 ah19i6_14 bh19i6_14
    refine qi_if (fun cc15 => ?_) (fun cc15 => ?_)
    · skip
      refine l_sI Th19i6_14 (q_Mk kv0) (by decide) rfl ?_
      intro h21i6_16 Th21i6_16 ih21i6_16 ah21i6_16
      refine qi_some ?_
      exact ⟨Th21i6_16, Or.inl ⟨(by show vI h21i6_16 v0 48 = 0; rw [show vI h21i6_16 v0 48 = (vI h v0 48) from (by rw [ih21i6_16 v0 48, if_neg (fun z => absurd z.2 (by decide)), ih19i6_14 v0 48, ih15i6_12 v0 48, ih13i6_11 v0 48, ih11i6_10 v0 48, ih9i6_9 v0 48, ih7i6_8 v0 48])] <;> (first | assumption | with_reducible rfl | grind)), (by show vI h21i6_16 v0 46 = (if 4 ≤ v1 then vI h v0 46 else vI h v0 46 + 1); rw [show vI h21i6_16 v0 46 = (vI h v0 46) from (by rw [ih21i6_16 v0 46, if_neg (fun z => absurd z.2 (by decide)), ih19i6_14 v0 46, ih15i6_12 v0 46, ih13i6_11 v0 46, ih11i6_10 v0 46, ih9i6_9 v0 46, ih7i6_8 v0 46])] <;> (first | (rw [if_pos (by assumption)]) | (rw [if_neg (by assumption)]))), (by show vI h21i6_16 v0 50 = (if 3 ≤ v1 then 0 else 1); rw [show vI h21i6_16 v0 50 = 0 from (by rw [ih21i6_16 v0 50, if_pos ⟨rfl, rfl⟩])] <;> (first | (rw [if_pos (by assumption)]) | (rw [if_neg (by assumption)]))), (by show 4 ≤ v1 ∨ ¬ vI h v0 46 = 14; first | exact Or.inl (by assumption) | exact Or.inr (by assumption)), (fun a k na => by rw [ih21i6_16 a k, if_neg (fun z => na (Or.inl z)), ih19i6_14 a k, ih15i6_12 a k, ih13i6_11 a k, ih11i6_10 a k, ih9i6_9 a k, ih7i6_8 a k]), (fun a na => by rw [ah21i6_16 a, bh19i6_14 a (fun z => na (Or.inr (Or.inr (Or.inr (z))))), ah15i6_12 a, ah13i6_11 a, bh11i6_10 a (fun z => na (Or.inr (Or.inr (Or.inl z)))), bh9i6_9 a (fun z => na (Or.inr (Or.inl z))), bh7i6_8 a (fun z => na (Or.inl z))])⟩⟩
    · skip
      refine l_sI Th19i6_14 (q_Mk kv0) (by decide) rfl ?_
      intro h22i6_17 Th22i6_17 ih22i6_17 ah22i6_17
      refine qi_some ?_
      exact ⟨Th22i6_17, Or.inl ⟨(by show vI h22i6_17 v0 48 = 0; rw [show vI h22i6_17 v0 48 = (vI h v0 48) from (by rw [ih22i6_17 v0 48, if_neg (fun z => absurd z.2 (by decide)), ih19i6_14 v0 48, ih15i6_12 v0 48, ih13i6_11 v0 48, ih11i6_10 v0 48, ih9i6_9 v0 48, ih7i6_8 v0 48])] <;> (first | assumption | with_reducible rfl | grind)), (by show vI h22i6_17 v0 46 = (if 4 ≤ v1 then vI h v0 46 else vI h v0 46 + 1); rw [show vI h22i6_17 v0 46 = (vI h v0 46) from (by rw [ih22i6_17 v0 46, if_neg (fun z => absurd z.2 (by decide)), ih19i6_14 v0 46, ih15i6_12 v0 46, ih13i6_11 v0 46, ih11i6_10 v0 46, ih9i6_9 v0 46, ih7i6_8 v0 46])] <;> (first | (rw [if_pos (by assumption)]) | (rw [if_neg (by assumption)]))), (by show vI h22i6_17 v0 50 = (if 3 ≤ v1 then 0 else 1); rw [show vI h22i6_17 v0 50 = 1 from (by rw [ih22i6_17 v0 50, if_pos ⟨rfl, rfl⟩])] <;> (first | (rw [if_pos (by assumption)]) | (rw [if_neg (by assumption)]))), (by show 4 ≤ v1 ∨ ¬ vI h v0 46 = 14; first | exact Or.inl (by assumption) | exact Or.inr (by assumption)), (fun a k na => by rw [ih22i6_17 a k, if_neg (fun z => na (Or.inl z)), ih19i6_14 a k, ih15i6_12 a k, ih13i6_11 a k, ih11i6_10 a k, ih9i6_9 a k, ih7i6_8 a k]), (fun a na => by rw [ah22i6_17 a, bh19i6_14 a (fun z => na (Or.inr (Or.inr (Or.inr (z))))), ah15i6_12 a, ah13i6_11 a, bh11i6_10 a (fun z => na (Or.inr (Or.inr (Or.inl z)))), bh9i6_9 a (fun z => na (Or.inr (Or.inl z))), bh7i6_8 a (fun z => na (Or.inl z))])⟩⟩
  · skip
    unfold f_Mod_addItem_10
    refine qi_if (fun cc19 => absurd cc19 (by decide)) (fun _ => ?_)
    refine l_gI (e := (vI h v0 46)) rfl ?_
    refine qi_if (fun cc20 => ?_) (fun cc20 => ?_)
    · skip
      refine l_gO ?_
      refine j_Mod_wrong (v0 := v0) (v1 := v3) T kv0 ?_
      intro hr5i18_21 Thr5i18_21 gr5i18_21_0 fr5i18_21_I fr5i18_21_A
      try dsimp only
      refine qi_some ?_
      exact ⟨Thr5i18_21, Or.inr ⟨(by show ¬ vI hr5i18_21 v0 48 = 0; rw [show vI hr5i18_21 v0 48 = 1 from (by rw [gr5i18_21_0])] <;> (first | assumption | decide)), (by show ¬ 4 ≤ v1; first | assumption | with_reducible rfl | grind), (by show vI h v0 46 = 14; first | assumption | with_reducible rfl | grind), (fun a k na => by rw [fr5i18_21_I a k (fun z => na (z.elim (fun z => Or.inr (Or.inl z)) (fun z => Or.inr (Or.inr (Or.inl z)))))]), (fun a na => by rw [fr5i18_21_A a (by omega)])⟩⟩
    · skip
      unfold f_Mod_addItem_32
      refine qi_if (fun cc23 => absurd cc23 (by decide)) (fun _ => ?_)
      refine l_gI (e := (vI h v0 46)) rfl ?_
      refine l_sI T (q_Mk kv0) (by decide) rfl ?_
      intro h3i22_24 Th3i22_24 ih3i22_24 ah3i22_24
      unfold f_Mod_addItem_47
      refine l_gI (e := (vI h v0 42)) (by rw [ih3i22_24 v0 42, if_neg (fun z => absurd z.2 (by decide))]) ?_
      refine l_gR Th3i22_24 (d_Mo_26 kv0) ?_
      refine l_gI (e := (vI h v0 42)) (by rw [ih3i22_24 v0 42, if_neg (fun z => absurd z.2 (by decide))]) ?_
      refine l_aI (e := (vA h (v0 + 21) (vI h v0 42))) (fun ix26 => (by rw [ah3i22_24 (v0 + 21)])) (fun ix26 => ?_)
      refine qi_bs ?_
      refine l_gR Th3i22_24 (d_Mo_31 kv0) ?_
      refine l_uI Th3i22_24 ?_
      intro h7i25_27 Th7i25_27 jh7i25_27 ih7i25_27 ah7i25_27 bh7i25_27
      refine l_gR Th7i25_27 (d_Mo_32 kv0) ?_
      refine l_uI Th7i25_27 ?_
      intro h9i25_28 Th9i25_28 jh9i25_28 ih9i25_28 ah9i25_28 bh9i25_28
      refine l_gR Th9i25_28 (d_Mo_34 kv0) ?_
      refine l_uI Th9i25_28 ?_
      intro h11i25_29 Th11i25_29 jh11i25_29 ih11i25_29 ah11i25_29 bh11i25_29
      refine l_gR Th11i25_29 (d_Mo_37 kv0) ?_
      refine l_uL Th11i25_29 ?_
      intro h13i25_30 Th13i25_30 ih13i25_30 ah13i25_30
      refine l_gR Th13i25_30 (d_Mo_38 kv0) ?_
      refine l_uL Th13i25_30 ?_
      intro h15i25_31 Th15i25_31 ih15i25_31 ah15i25_31
      refine l_gR Th15i25_31 (d_Mo_26 kv0) ?_
      refine l_gI (e := (vI h v0 42)) (by rw [ih15i25_31 v0 42, ih13i25_30 v0 42, ih11i25_29 v0 42, ih9i25_28 v0 42, ih7i25_27 v0 42, ih3i22_24 v0 42, if_neg (fun z => absurd z.2 (by decide))]) ?_
      refine l_aI (e := (vA h (v0 + 21) (vI h v0 42))) (fun ix32 => (by rw [ah15i25_31 (v0 + 21), ah13i25_30 (v0 + 21), bh11i25_29 (v0 + 21) (by omega), bh9i25_28 (v0 + 21) (by omega), bh7i25_27 (v0 + 21) (by omega), ah3i22_24 (v0 + 21)])) (fun ix32 => ?_)
      refine l_uI Th15i25_31 ?_
      intro h19i25_33 Th19i25_33 jh19i25_33 ih19i25_33 ah19i25_33 bh19i25_33
      refine qi_if (fun cc34 => ?_) (fun cc34 => ?_)
      · skip
        refine l_sI Th19i25_33 (q_Mk kv0) (by decide) rfl ?_
        intro h21i25_35 Th21i25_35 ih21i25_35 ah21i25_35
        refine qi_some ?_
        exact ⟨Th21i25_35, Or.inl ⟨(by show vI h21i25_35 v0 48 = 0; rw [show vI h21i25_35 v0 48 = (vI h v0 48) from (by rw [ih21i25_35 v0 48, if_neg (fun z => absurd z.2 (by decide)), ih19i25_33 v0 48, ih15i25_31 v0 48, ih13i25_30 v0 48, ih11i25_29 v0 48, ih9i25_28 v0 48, ih7i25_27 v0 48, ih3i22_24 v0 48, if_neg (fun z => absurd z.2 (by decide))])] <;> (first | assumption | with_reducible rfl | grind)), (by show vI h21i25_35 v0 46 = (if 4 ≤ v1 then vI h v0 46 else vI h v0 46 + 1); rw [show vI h21i25_35 v0 46 = ((vI h v0 46) + 1) from (by rw [ih21i25_35 v0 46, if_neg (fun z => absurd z.2 (by decide)), ih19i25_33 v0 46, ih15i25_31 v0 46, ih13i25_30 v0 46, ih11i25_29 v0 46, ih9i25_28 v0 46, ih7i25_27 v0 46, ih3i22_24 v0 46, if_pos ⟨rfl, rfl⟩])] <;> (first | (rw [if_pos (by assumption)]) | (rw [if_neg (by assumption)]))), (by show vI h21i25_35 v0 50 = (if 3 ≤ v1 then 0 else 1); rw [show vI h21i25_35 v0 50 = 0 from (by rw [ih21i25_35 v0 50, if_pos ⟨rfl, rfl⟩])] <;> (first | (rw [if_pos (by assumption)]) | (rw [if_neg (by assumption)]))), (by show 4 ≤ v1 ∨ ¬ vI h v0 46 = 14; first | exact Or.inl (by assumption) | exact Or.inr (by assumption)), (fun a k na => by rw [ih21i25_35 a k, if_neg (fun z => na (Or.inl z)), ih19i25_33 a k, ih15i25_31 a k, ih13i25_30 a k, ih11i25_29 a k, ih9i25_28 a k, ih7i25_27 a k, ih3i22_24 a k, if_neg (fun z => na (Or.inr (Or.inr (Or.inr (z)))))]), (fun a na => by rw [ah21i25_35 a, bh19i25_33 a (fun z => na (Or.inr (Or.inr (Or.inr (z))))), ah15i25_31 a, ah13i25_30 a, bh11i25_29 a (fun z => na (Or.inr (Or.inr (Or.inl z)))), bh9i25_28 a (fun z => na (Or.inr (Or.inl z))), bh7i25_27 a (fun z => na (Or.inl z)), ah3i22_24 a])⟩⟩
      · skip
        refine l_sI Th19i25_33 (q_Mk kv0) (by decide) rfl ?_
        intro h22i25_36 Th22i25_36 ih22i25_36 ah22i25_36
        refine qi_some ?_
        exact ⟨Th22i25_36, Or.inl ⟨(by show vI h22i25_36 v0 48 = 0; rw [show vI h22i25_36 v0 48 = (vI h v0 48) from (by rw [ih22i25_36 v0 48, if_neg (fun z => absurd z.2 (by decide)), ih19i25_33 v0 48, ih15i25_31 v0 48, ih13i25_30 v0 48, ih11i25_29 v0 48, ih9i25_28 v0 48, ih7i25_27 v0 48, ih3i22_24 v0 48, if_neg (fun z => absurd z.2 (by decide))])] <;> (first | assumption | with_reducible rfl | grind)), (by show vI h22i25_36 v0 46 = (if 4 ≤ v1 then vI h v0 46 else vI h v0 46 + 1); rw [show vI h22i25_36 v0 46 = ((vI h v0 46) + 1) from (by rw [ih22i25_36 v0 46, if_neg (fun z => absurd z.2 (by decide)), ih19i25_33 v0 46, ih15i25_31 v0 46, ih13i25_30 v0 46, ih11i25_29 v0 46, ih9i25_28 v0 46, ih7i25_27 v0 46, ih3i22_24 v0 46, if_pos ⟨rfl, rfl⟩])] <;> (first | (rw [if_pos (by assumption)]) | (rw [if_neg (by assumption)]))), (by show vI h22i25_36 v0 50 = (if 3 ≤ v1 then 0 else 1); rw [show vI h22i25_36 v0 50 = 1 from (by rw [ih22i25_36 v0 50, if_pos ⟨rfl, rfl⟩])] <;> (first | (rw [if_pos (by assumption)]) | (rw [if_neg (by assumption)]))), (by show 4 ≤ v1 ∨ ¬ vI h v0 46 = 14; first | exact Or.inl (by assumption) | exact Or.inr (by assumption)), (fun a k na => by rw [ih22i25_36 a k, if_neg (fun z => na (Or.inl z)), ih19i25_33 a k, ih15i25_31 a k, ih13i25_30 a k, ih11i25_29 a k, ih9i25_28 a k, ih7i25_27 a k, ih3i22_24 a k, if_neg (fun z => na (Or.inr (Or.inr (Or.inr (z)))))]), (fun a na => by rw [ah22i25_36 a, bh19i25_33 a (fun z => na (Or.inr (Or.inr (Or.inr (z))))), ah15i25_31 a, ah13i25_30 a, bh11i25_29 a (fun z => na (Or.inr (Or.inr (Or.inl z)))), bh9i25_28 a (fun z => na (Or.inr (Or.inl z))), bh7i25_27 a (fun z => na (Or.inl z)), ah3i22_24 a])⟩⟩
theorem j_Mod_addItem {L : q_L} {π : Nat → Nat → Option Nat} {N : Nat} {h : z_H} {v0 : Nat} {v1 : Int32} {v2 : Int32} {v3 : Int32} {β : Type} {f : z_H → Option β} {Q : β → Prop} (T : x_U L π h) (kv0 : q_M L π v0) (bd : vI h v0 48 = 0) (H1 : ∀ h', x_U L π h' → (vI h' v0 48 = 0) → (vI h' v0 46 = (if 4 ≤ v1 then vI h v0 46 else vI h v0 46 + 1)) → (vI h' v0 50 = (if 3 ≤ v1 then 0 else 1)) → (4 ≤ v1 ∨ ¬ vI h v0 46 = 14) → (∀ a k, ¬ ((a = v0 ∧ k = 50) ∨ (a = v0 ∧ k = 5) ∨ (a = v0 ∧ k = 48) ∨ (a = v0 ∧ k = 46)) → vI h' a k = vI h a k) → (∀ a, ¬ (a = (v0 + 26) ∨ a = (v0 + 27) ∨ a = (v0 + 29) ∨ a = (v0 + 21)) → vA h' a = vA h a) → qi (f h') Q) (H0 : ∀ h', x_U L π h' → (¬ vI h' v0 48 = 0) → (¬ 4 ≤ v1) → (vI h v0 46 = 14) → (∀ a k, ¬ ((a = v0 ∧ k = 50) ∨ (a = v0 ∧ k = 5) ∨ (a = v0 ∧ k = 48) ∨ (a = v0 ∧ k = 46)) → vI h' a k = vI h a k) → (∀ a, ¬ (a = (v0 + 26) ∨ a = (v0 + 27) ∨ a = (v0 + 29) ∨ a = (v0 + 21)) → vA h' a = vA h a) → qi (f h') Q) : qi (z_b (f_Mod_addItem N v0 v1 v2 v3 h) f) Q := by
  refine qi_b (i_Mod_addItem  T kv0 bd) ?_
  rintro hz ⟨Tz, ⟨g0, g1, g2, g3, g4, g5⟩ | ⟨g0, g1, g2, g3, g4⟩⟩
  · exact H1 hz Tz g0 g1 g2 g3 g4 g5
  · exact H0 hz Tz g0 g1 g2 g3 g4

set_option maxHeartbeats 2000000 in
theorem i_Mod_star {L : q_L} {π : Nat → Nat → Option Nat} {N : Nat} {t : Int32 → Int32} {n : Int32} {h : z_H} {v0 : Nat} (T : x_U L π h) (kv0 : q_M L π v0) (ht : ∀ j, 0 ≤ j → j < n → vA h (v0 + 1) j = t j) (hn : vI h v0 3 = n) (n1 : n ≤ 240) (tp : ∀ j, t j ≠ -1) (bd : vI h v0 48 = 0) (gb : 0 ≤ vI h v0 44 ∧ vI h v0 44 ≤ 3) (a0 : 0 ≤ vI h v0 41) (c : x_lk t n (vI h v0 41) = 42) : qi (f_Mod_star N v0 h) (fun r => x_U L π r ∧ (((vI r v0 48 = 0) ∧ (x_pat t n (vI h v0 41) (vI h v0 46) (vI h v0 45) (vI h v0 44) (vI h v0 49) (vI h v0 50) = x_pat t n (vI r v0 41) (vI r v0 46) (vI r v0 45) (vI r v0 44) (vI r v0 49) (vI r v0 50)) ∧ (vI h v0 41 < vI r v0 41) ∧ (0 ≤ vI r v0 44 ∧ vI r v0 44 ≤ 3) ∧ (∀ a k, ¬ ((a = v0 ∧ k = 5) ∨ (a = v0 ∧ k = 48) ∨ (a = v0 ∧ k = 45) ∨ (a = v0 ∧ k = 50) ∨ (a = v0 ∧ k = 41)) → vI r a k = vI h a k) ∧ (∀ a, ¬ (a = (v0 + 29)) → vA r a = vA h a)) ∨ ((¬ vI r v0 48 = 0) ∧ (x_pat t n (vI h v0 41) (vI h v0 46) (vI h v0 45) (vI h v0 44) (vI h v0 49) (vI h v0 50) = none) ∧ (∀ a k, ¬ ((a = v0 ∧ k = 5) ∨ (a = v0 ∧ k = 48) ∨ (a = v0 ∧ k = 45) ∨ (a = v0 ∧ k = 50) ∨ (a = v0 ∧ k = 41)) → vI r a k = vI h a k) ∧ (∀ a, ¬ (a = (v0 + 29)) → vA r a = vA h a)))) := by
  have n2 : n ≤ 1000 := Int32.le_trans n1 (by decide)
  unfold f_Mod_star
  refine l_gI (e := (vI h v0 50)) rfl ?_
  refine qi_if (fun cc1 => ?_) (fun cc1 => ?_)
  · skip
    unfold f_Mod_star_15
    refine l_gI (e := (vI h v0 41)) rfl ?_
    refine l_gO ?_
    refine j_Mod_wrong (v0 := v0) (v1 := (vI h v0 41)) T kv0 ?_
    intro hr3i2_3 Thr3i2_3 gr3i2_3_0 fr3i2_3_I fr3i2_3_A
    try dsimp only
    refine qi_some ?_
    exact ⟨Thr3i2_3, Or.inr ⟨(by show ¬ vI hr3i2_3 v0 48 = 0; rw [show vI hr3i2_3 v0 48 = 1 from (by rw [gr3i2_3_0])] <;> (first | assumption | decide)), (by show x_pat t n (vI h v0 41) (vI h v0 46) (vI h v0 45) (vI h v0 44) (vI h v0 49) (vI h v0 50) = none; rw [x_q42 n2 c, if_pos (by (first | grind (ematch := 0) | grind))]), (fun a k na => by rw [fr3i2_3_I a k (fun z => na (z.elim (fun z => Or.inl z) (fun z => Or.inr (Or.inl z))))]), (fun a na => by rw [fr3i2_3_A a (by omega)])⟩⟩
  · skip
    refine l_gI (e := (vI h v0 45)) rfl ?_
    refine qi_if (fun cc4 => ?_) (fun cc4 => ?_)
    · skip
      unfold f_Mod_star_15
      refine l_gI (e := (vI h v0 41)) rfl ?_
      refine l_gO ?_
      refine j_Mod_wrong (v0 := v0) (v1 := (vI h v0 41)) T kv0 ?_
      intro hr3i5_6 Thr3i5_6 gr3i5_6_0 fr3i5_6_I fr3i5_6_A
      try dsimp only
      refine qi_some ?_
      exact ⟨Thr3i5_6, Or.inr ⟨(by show ¬ vI hr3i5_6 v0 48 = 0; rw [show vI hr3i5_6 v0 48 = 1 from (by rw [gr3i5_6_0])] <;> (first | assumption | decide)), (by show x_pat t n (vI h v0 41) (vI h v0 46) (vI h v0 45) (vI h v0 44) (vI h v0 49) (vI h v0 50) = none; rw [x_q42 n2 c, if_pos (by (first | grind (ematch := 0) | grind))]), (fun a k na => by rw [fr3i5_6_I a k (fun z => na (z.elim (fun z => Or.inl z) (fun z => Or.inr (Or.inl z))))]), (fun a na => by rw [fr3i5_6_A a (by omega)])⟩⟩
    · skip
      refine l_gI (e := (vI h v0 45)) rfl ?_
      refine l_sI T (q_Mk kv0) (by decide) rfl ?_
      intro h6_7 Th6_7 ih6_7 ah6_7
      refine l_sI Th6_7 (q_Mk kv0) (by decide) rfl ?_
      intro h7_8 Th7_8 ih7_8 ah7_8
      refine l_gR Th7_8 (d_Mo_34 kv0) ?_
      refine l_gI (e := (vI h v0 42)) (by rw [ih7_8 v0 42, if_neg (fun z => absurd z.2 (by decide)), ih6_7 v0 42, if_neg (fun z => absurd z.2 (by decide))]) ?_
      refine l_gR Th7_8 (d_Mo_26 kv0) ?_
      refine l_gI (e := (vI h v0 42)) (by rw [ih7_8 v0 42, if_neg (fun z => absurd z.2 (by decide)), ih6_7 v0 42, if_neg (fun z => absurd z.2 (by decide))]) ?_
      refine l_aI (e := (vA h (v0 + 21) (vI h v0 42))) (fun ix9 => (by rw [ah7_8 (v0 + 21), ah6_7 (v0 + 21)])) (fun ix9 => ?_)
      refine l_uI Th7_8 ?_
      intro h13_10 Th13_10 jh13_10 ih13_10 ah13_10 bh13_10
      refine l_gI (e := (vI h v0 41)) (by rw [ih13_10 v0 41, ih7_8 v0 41, if_neg (fun z => absurd z.2 (by decide)), ih6_7 v0 41, if_neg (fun z => absurd z.2 (by decide))]) ?_
      refine l_sI Th13_10 (q_Mk kv0) (by decide) rfl ?_
      intro h15_11 Th15_11 ih15_11 ah15_11
      refine qi_some ?_
      exact ⟨Th15_11, Or.inl ⟨(by show vI h15_11 v0 48 = 0; rw [show vI h15_11 v0 48 = (vI h v0 48) from (by rw [ih15_11 v0 48, if_neg (fun z => absurd z.2 (by decide)), ih13_10 v0 48, ih7_8 v0 48, if_neg (fun z => absurd z.2 (by decide)), ih6_7 v0 48, if_neg (fun z => absurd z.2 (by decide))])] <;> (first | assumption | with_reducible rfl | grind)), (by show x_pat t n (vI h v0 41) (vI h v0 46) (vI h v0 45) (vI h v0 44) (vI h v0 49) (vI h v0 50) = x_pat t n (vI h15_11 v0 41) (vI h15_11 v0 46) (vI h15_11 v0 45) (vI h15_11 v0 44) (vI h15_11 v0 49) (vI h15_11 v0 50); rw [show vI h15_11 v0 41 = ((vI h v0 41) + 1) from (by rw [ih15_11 v0 41, if_pos ⟨rfl, rfl⟩]), show vI h15_11 v0 46 = (vI h v0 46) from (by rw [ih15_11 v0 46, if_neg (fun z => absurd z.2 (by decide)), ih13_10 v0 46, ih7_8 v0 46, if_neg (fun z => absurd z.2 (by decide)), ih6_7 v0 46, if_neg (fun z => absurd z.2 (by decide))]), show vI h15_11 v0 45 = ((vI h v0 45) + 1) from (by rw [ih15_11 v0 45, if_neg (fun z => absurd z.2 (by decide)), ih13_10 v0 45, ih7_8 v0 45, if_neg (fun z => absurd z.2 (by decide)), ih6_7 v0 45, if_pos ⟨rfl, rfl⟩]), show vI h15_11 v0 44 = (vI h v0 44) from (by rw [ih15_11 v0 44, if_neg (fun z => absurd z.2 (by decide)), ih13_10 v0 44, ih7_8 v0 44, if_neg (fun z => absurd z.2 (by decide)), ih6_7 v0 44, if_neg (fun z => absurd z.2 (by decide))]), show vI h15_11 v0 49 = (vI h v0 49) from (by rw [ih15_11 v0 49, if_neg (fun z => absurd z.2 (by decide)), ih13_10 v0 49, ih7_8 v0 49, if_neg (fun z => absurd z.2 (by decide)), ih6_7 v0 49, if_neg (fun z => absurd z.2 (by decide))]), show vI h15_11 v0 50 = 0 from (by rw [ih15_11 v0 50, if_neg (fun z => absurd z.2 (by decide)), ih13_10 v0 50, ih7_8 v0 50, if_pos ⟨rfl, rfl⟩])] <;> (rw [x_q42 n2 c, if_neg (by (first | grind (ematch := 0) | grind))])), (by show vI h v0 41 < vI h15_11 v0 41; rw [show vI h15_11 v0 41 = ((vI h v0 41) + 1) from (by rw [ih15_11 v0 41, if_pos ⟨rfl, rfl⟩])] <;> (exact x_lp1 n2 (by rw [c]; decide))), (by show 0 ≤ vI h15_11 v0 44 ∧ vI h15_11 v0 44 ≤ 3; rw [show vI h15_11 v0 44 = (vI h v0 44) from (by rw [ih15_11 v0 44, if_neg (fun z => absurd z.2 (by decide)), ih13_10 v0 44, ih7_8 v0 44, if_neg (fun z => absurd z.2 (by decide)), ih6_7 v0 44, if_neg (fun z => absurd z.2 (by decide))])] <;> (first | assumption | with_reducible rfl | grind)), (fun a k na => by rw [ih15_11 a k, if_neg (fun z => na (Or.inr (Or.inr (Or.inr (Or.inr (z)))))), ih13_10 a k, ih7_8 a k, if_neg (fun z => na (Or.inr (Or.inr (Or.inr (Or.inl z))))), ih6_7 a k, if_neg (fun z => na (Or.inr (Or.inr (Or.inl z))))]), (fun a na => by rw [ah15_11 a, bh13_10 a (fun z => na (z)), ah7_8 a, ah6_7 a])⟩⟩
theorem j_Mod_star {L : q_L} {π : Nat → Nat → Option Nat} {N : Nat} {t : Int32 → Int32} {n : Int32} {h : z_H} {v0 : Nat} {β : Type} {f : z_H → Option β} {Q : β → Prop} (T : x_U L π h) (kv0 : q_M L π v0) (ht : ∀ j, 0 ≤ j → j < n → vA h (v0 + 1) j = t j) (hn : vI h v0 3 = n) (n1 : n ≤ 240) (tp : ∀ j, t j ≠ -1) (bd : vI h v0 48 = 0) (gb : 0 ≤ vI h v0 44 ∧ vI h v0 44 ≤ 3) (a0 : 0 ≤ vI h v0 41) (c : x_lk t n (vI h v0 41) = 42) (H1 : ∀ h', x_U L π h' → (vI h' v0 48 = 0) → (x_pat t n (vI h v0 41) (vI h v0 46) (vI h v0 45) (vI h v0 44) (vI h v0 49) (vI h v0 50) = x_pat t n (vI h' v0 41) (vI h' v0 46) (vI h' v0 45) (vI h' v0 44) (vI h' v0 49) (vI h' v0 50)) → (vI h v0 41 < vI h' v0 41) → (0 ≤ vI h' v0 44 ∧ vI h' v0 44 ≤ 3) → (∀ a k, ¬ ((a = v0 ∧ k = 5) ∨ (a = v0 ∧ k = 48) ∨ (a = v0 ∧ k = 45) ∨ (a = v0 ∧ k = 50) ∨ (a = v0 ∧ k = 41)) → vI h' a k = vI h a k) → (∀ a, ¬ (a = (v0 + 29)) → vA h' a = vA h a) → qi (f h') Q) (H0 : ∀ h', x_U L π h' → (¬ vI h' v0 48 = 0) → (x_pat t n (vI h v0 41) (vI h v0 46) (vI h v0 45) (vI h v0 44) (vI h v0 49) (vI h v0 50) = none) → (∀ a k, ¬ ((a = v0 ∧ k = 5) ∨ (a = v0 ∧ k = 48) ∨ (a = v0 ∧ k = 45) ∨ (a = v0 ∧ k = 50) ∨ (a = v0 ∧ k = 41)) → vI h' a k = vI h a k) → (∀ a, ¬ (a = (v0 + 29)) → vA h' a = vA h a) → qi (f h') Q) : qi (z_b (f_Mod_star N v0 h) f) Q := by
  refine qi_b (i_Mod_star  T kv0 ht hn n1 tp bd gb a0 c) ?_
  rintro hz ⟨Tz, ⟨g0, g1, g2, g3, g4, g5⟩ | ⟨g0, g1, g2, g3⟩⟩
  · exact H1 hz Tz g0 g1 g2 g3 g4 g5
  · exact H0 hz Tz g0 g1 g2 g3

