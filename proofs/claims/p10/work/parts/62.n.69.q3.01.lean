set_option maxHeartbeats 2000000 in
theorem ii_Mod_put_3 {L : q_L} {π : Nat → Nat → Option Nat} {N : Nat} : ∀ (m9 : Nat) (v0 : Nat) (v1 : Int32) (v3 : Int32) (v4 : Int32) (h : z_H), x_U L π h → q_M L π v0 → (0 ≤ v4) → (v3 ≤ 126) → qi (f_Mod_put_3 N m9 v0 v1 v3 v4 h) (fun r => x_U L π r ∧ (∀ c, x_kc c → x_mr (vL r (v0 + 32) (v1)) (vL r (v0 + 33) (v1)) c = (x_mr (vL h (v0 + 32) (v1)) (vL h (v0 + 33) (v1)) c || decide (v4 ≤ c ∧ c ≤ v3))) ∧ (∀ j, 0 ≤ j → ¬ j = v1 → vL r (v0 + 32) j = vL h (v0 + 32) j) ∧ (∀ j, 0 ≤ j → ¬ j = v1 → vL r (v0 + 33) j = vL h (v0 + 33) j) ∧ (∀ a k, ¬ (a < a) → vI r a k = vI h a k) ∧ (∀ a, ¬ (a < a) → vA r a = vA h a) ∧ (∀ a, ¬ (a = (v0 + 32) ∨ a = (v0 + 33)) → vL r a = vL h a)) := by
  intro m9
  induction m9 with
  | zero => intro v0 v1 v3 v4 h T kv0 a0 b1 r e; rw [f_Mod_put_3] at e; cases e
  | succ m9 ih =>
    intro v0 v1 v3 v4 h T kv0 a0 b1
    rw [f_Mod_put_3]
    refine qi_if (fun q => ?_) (fun q => ?_)
    · refine qi_some ⟨T, fun c kc => ?_, fun _ _ _ => rfl, fun _ _ _ => rfl, fun _ _ _ => rfl, fun _ _ => rfl, fun _ _ => rfl⟩
      have z : ¬ (v4 ≤ c ∧ c ≤ v3) := fun z => absurd (Int32.le_trans z.1 z.2) (Int32.not_le.mpr q)
      simp [z]
    have le := Int32.not_lt.mp q
    have a1 : v4 ≤ 126 := Int32.le_trans le b1
    refine qi_if (fun q3 => ?_) (fun q3 => ?_)
    · refine l_gR T (d_Mo_38 kv0) ?_
      refine l_aLc (e := vL h (v0 + 33) v1) rfl (fun _ => ?_)
      refine o_uL T ?_
      intro h7 T7 c0 i7 a7 l7 m7
      refine qi_bs ?_
      refine qi_mono (ih v0 v1 v3 (v4 + 1) h7 T7 kv0 (by lia) b1) ?_
      rintro r ⟨Tr, g0, g1, g2, g3, g4, g5⟩
      refine ⟨Tr, fun c kc => ?_, fun j j0 n1 => ?_, fun j j0 n1 => ?_, fun a k na => ?_, fun a na => ?_, fun a na => ?_⟩
      · rw [g0 c kc, m7 (v0 + 32) (by omega), l7 (v0 + 33) v1 c0, if_pos ⟨rfl, rfl⟩]
        have z := x_mr_or (lo := vL h (v0 + 32) v1) (hi := vL h (v0 + 33) v1) a0 a1 kc
        rw [if_pos q3, if_pos q3] at z
        rw [z]; exact x_mr_st le b1 kc
      · rw [g1 j j0 n1, m7 (v0 + 32) (by omega)]
      · rw [g2 j j0 n1, l7 (v0 + 33) j j0, if_neg (fun z => n1 z.2)]
      · rw [g3 a k na, i7 a k]
      · rw [g4 a na, a7 a]
      · rw [g5 a na, m7 a (fun z => na (Or.inr z))]
    · refine l_gR T (d_Mo_37 kv0) ?_
      refine l_aLc (e := vL h (v0 + 32) v1) rfl (fun _ => ?_)
      refine o_uL T ?_
      intro h7 T7 c0 i7 a7 l7 m7
      refine qi_bs ?_
      refine qi_mono (ih v0 v1 v3 (v4 + 1) h7 T7 kv0 (by lia) b1) ?_
      rintro r ⟨Tr, g0, g1, g2, g3, g4, g5⟩
      refine ⟨Tr, fun c kc => ?_, fun j j0 n1 => ?_, fun j j0 n1 => ?_, fun a k na => ?_, fun a na => ?_, fun a na => ?_⟩
      · rw [g0 c kc, m7 (v0 + 33) (by omega), l7 (v0 + 32) v1 c0, if_pos ⟨rfl, rfl⟩]
        have z := x_mr_or (lo := vL h (v0 + 32) v1) (hi := vL h (v0 + 33) v1) a0 a1 kc
        rw [if_neg q3, if_neg q3] at z
        rw [z]; exact x_mr_st le b1 kc
      · rw [g1 j j0 n1, l7 (v0 + 32) j j0, if_neg (fun z => n1 z.2)]
      · rw [g2 j j0 n1, m7 (v0 + 33) (by omega)]
      · rw [g3 a k na, i7 a k]
      · rw [g4 a na, a7 a]
      · rw [g5 a na, m7 a (fun z => na (Or.inl z))]
theorem jj_Mod_put_3 {L : q_L} {π : Nat → Nat → Option Nat} {N : Nat} {m9 : Nat} {h : z_H} {v0 : Nat} {v1 : Int32} {v3 : Int32} {v4 : Int32} {β : Type} {f : z_H → Option β} {Q : β → Prop} (T : x_U L π h) (kv0 : q_M L π v0) (a0 : 0 ≤ v4) (b1 : v3 ≤ 126) (H : ∀ h', x_U L π h' → (∀ c, x_kc c → x_mr (vL h' (v0 + 32) (v1)) (vL h' (v0 + 33) (v1)) c = (x_mr (vL h (v0 + 32) (v1)) (vL h (v0 + 33) (v1)) c || decide (v4 ≤ c ∧ c ≤ v3))) → (∀ j, 0 ≤ j → ¬ j = v1 → vL h' (v0 + 32) j = vL h (v0 + 32) j) → (∀ j, 0 ≤ j → ¬ j = v1 → vL h' (v0 + 33) j = vL h (v0 + 33) j) → (∀ a k, ¬ (a < a) → vI h' a k = vI h a k) → (∀ a, ¬ (a < a) → vA h' a = vA h a) → (∀ a, ¬ (a = (v0 + 32) ∨ a = (v0 + 33)) → vL h' a = vL h a) → qi (f h') Q) : qi (z_b (f_Mod_put_3 N m9 v0 v1 v3 v4 h) f) Q := by
  refine qi_b (ii_Mod_put_3 m9 v0 v1 v3 v4 h  T kv0 a0 b1) ?_
  rintro hz ⟨Tz, g0, g1, g2, g3, g4, g5⟩
  exact H hz Tz g0 g1 g2 g3 g4 g5

set_option maxHeartbeats 2000000 in
theorem ii_Mod_put {L : q_L} {π : Nat → Nat → Option Nat} {N : Nat} {h : z_H} {v0 : Nat} {v1 : Int32} {v2 : Int32} {v3 : Int32} (T : x_U L π h) (kv0 : q_M L π v0) (a0 : 0 ≤ v2) (b1 : v3 ≤ 126) : qi (f_Mod_put N v0 v1 v2 v3 h) (fun r => x_U L π r ∧ (∀ c, x_kc c → x_mr (vL r (v0 + 32) (v1)) (vL r (v0 + 33) (v1)) c = (x_mr (vL h (v0 + 32) (v1)) (vL h (v0 + 33) (v1)) c || decide (v2 ≤ c ∧ c ≤ v3))) ∧ (∀ j, 0 ≤ j → ¬ j = v1 → vL r (v0 + 32) j = vL h (v0 + 32) j) ∧ (∀ j, 0 ≤ j → ¬ j = v1 → vL r (v0 + 33) j = vL h (v0 + 33) j) ∧ (∀ a k, ¬ (a < a) → vI r a k = vI h a k) ∧ (∀ a, ¬ (a < a) → vA r a = vA h a) ∧ (∀ a, ¬ (a = (v0 + 32) ∨ a = (v0 + 33)) → vL r a = vL h a)) := by
  unfold f_Mod_put
  refine qi_tail ?_
  refine jj_Mod_put_3 (v0 := v0) (v1 := v1) (v3 := v3) (v4 := v2) T kv0 a0 b1 ?_
  intro hrz1_2 Thrz1_2 grz1_2_0 grz1_2_1 grz1_2_2 frz1_2_I frz1_2_A frz1_2_L
  try dsimp only
  refine qi_some ?_
  exact ⟨Thrz1_2, grz1_2_0, grz1_2_1, grz1_2_2, (fun a k na => by rw [frz1_2_I a k (by omega)]), (fun a na => by rw [frz1_2_A a (by omega)]), (fun a na => by rw [frz1_2_L a (fun z => na (z.elim (fun z => Or.inl z) (fun z => Or.inr (z))))])⟩
theorem jj_Mod_put {L : q_L} {π : Nat → Nat → Option Nat} {N : Nat} {h : z_H} {v0 : Nat} {v1 : Int32} {v2 : Int32} {v3 : Int32} {β : Type} {f : z_H → Option β} {Q : β → Prop} (T : x_U L π h) (kv0 : q_M L π v0) (a0 : 0 ≤ v2) (b1 : v3 ≤ 126) (H : ∀ h', x_U L π h' → (∀ c, x_kc c → x_mr (vL h' (v0 + 32) (v1)) (vL h' (v0 + 33) (v1)) c = (x_mr (vL h (v0 + 32) (v1)) (vL h (v0 + 33) (v1)) c || decide (v2 ≤ c ∧ c ≤ v3))) → (∀ j, 0 ≤ j → ¬ j = v1 → vL h' (v0 + 32) j = vL h (v0 + 32) j) → (∀ j, 0 ≤ j → ¬ j = v1 → vL h' (v0 + 33) j = vL h (v0 + 33) j) → (∀ a k, ¬ (a < a) → vI h' a k = vI h a k) → (∀ a, ¬ (a < a) → vA h' a = vA h a) → (∀ a, ¬ (a = (v0 + 32) ∨ a = (v0 + 33)) → vL h' a = vL h a) → qi (f h') Q) : qi (z_b (f_Mod_put N v0 v1 v2 v3 h) f) Q := by
  refine qi_b (ii_Mod_put  T kv0 a0 b1) ?_
  rintro hz ⟨Tz, g0, g1, g2, g3, g4, g5⟩
  exact H hz Tz g0 g1 g2 g3 g4 g5

set_option maxHeartbeats 2000000 in
theorem ii_Mod_isMember {L : q_L} {π : Nat → Nat → Option Nat} {N : Nat} {t : Int32 → Int32} {n : Int32} {h : z_H} {v0 : Nat} (T : x_U L π h) (kv0 : q_M L π v0) (ht : ∀ j, 0 ≤ j → j < n → vA h (v0 + 1) j = t j) (hn : vI h v0 3 = n) : qi (f_Mod_isMember N v0 h) (fun r => x_U L π r.2 ∧ ((r.1 = 1 ∧ (vI r.2 v0 48 = vI h v0 48) ∧ (¬ x_lk t n (vI h v0 41) = -1) ∧ (¬ x_lk t n (vI h v0 41) = 10) ∧ (¬ x_lk t n (vI h v0 41) = 47) ∧ (¬ x_lk t n (vI h v0 41) = 93) ∧ (∀ a k, ¬ ((a = v0 ∧ k = 5) ∨ (a = v0 ∧ k = 48)) → vI r.2 a k = vI h a k) ∧ (∀ a, ¬ (a < a) → vA r.2 a = vA h a) ∧ (∀ a, ¬ (a < a) → vL r.2 a = vL h a)) ∨ (r.1 = 0 ∧ (vI r.2 v0 48 = 1) ∧ (x_lk t n (vI h v0 41) = -1 ∨ x_lk t n (vI h v0 41) = 10 ∨ x_lk t n (vI h v0 41) = 47 ∨ x_lk t n (vI h v0 41) = 93) ∧ (∀ a k, ¬ ((a = v0 ∧ k = 5) ∨ (a = v0 ∧ k = 48)) → vI r.2 a k = vI h a k) ∧ (∀ a, ¬ (a < a) → vA r.2 a = vA h a) ∧ (∀ a, ¬ (a < a) → vL r.2 a = vL h a)))) := by
  unfold f_Mod_isMember
  refine l_gO ?_
  refine jj_Mod_here (v0 := v0) (t := t) (n := n) (e := (x_lk t n (vI h v0 41))) T kv0 ht hn rfl ?_
  try dsimp only
  refine qi_bs ?_
  refine qi_if (fun cc2 => ?_) (fun cc2 => ?_)
  · skip
    unfold f_Mod_isMember_30
    refine qi_if (fun _ => ?_) (fun cc4 => absurd cc2 cc4)
    refine l_gI (e := (vI h v0 3)) rfl ?_
    unfold f_Mod_isMember_47
    refine l_gO ?_
    refine jj_Mod_wrong (v0 := v0) (v1 := (vI h v0 3)) T kv0 ?_
    intro hr2i5_6 Thr2i5_6 gr2i5_6_0 fr2i5_6_I fr2i5_6_A fr2i5_6_L
    try dsimp only
    refine qi_some ?_
    exact ⟨Thr2i5_6, Or.inr ⟨rfl, (by show vI hr2i5_6 v0 48 = 1; rw [show vI hr2i5_6 v0 48 = 1 from (by rw [gr2i5_6_0])] <;> (first | assumption | with_reducible rfl | grind)), (by show x_lk t n (vI h v0 41) = -1 ∨ x_lk t n (vI h v0 41) = 10 ∨ x_lk t n (vI h v0 41) = 47 ∨ x_lk t n (vI h v0 41) = 93; grind), (fun a k na => by rw [fr2i5_6_I a k (fun z => na (z.elim (fun z => Or.inl z) (fun z => Or.inr (z))))]), (fun a na => by rw [fr2i5_6_A a (by omega)]), (fun a na => by rw [fr2i5_6_L a (by omega)])⟩⟩
  · skip
    refine qi_if (fun cc7 => ?_) (fun cc7 => ?_)
    · skip
      unfold f_Mod_isMember_30
      refine qi_if (fun cc9 => absurd cc9 cc2) (fun _ => ?_)
      refine l_gI (e := (vI h v0 41)) rfl ?_
      unfold f_Mod_isMember_47
      refine l_gO ?_
      refine jj_Mod_wrong (v0 := v0) (v1 := (vI h v0 41)) T kv0 ?_
      intro hr2i10_11 Thr2i10_11 gr2i10_11_0 fr2i10_11_I fr2i10_11_A fr2i10_11_L
      try dsimp only
      refine qi_some ?_
      exact ⟨Thr2i10_11, Or.inr ⟨rfl, (by show vI hr2i10_11 v0 48 = 1; rw [show vI hr2i10_11 v0 48 = 1 from (by rw [gr2i10_11_0])] <;> (first | assumption | with_reducible rfl | grind)), (by show x_lk t n (vI h v0 41) = -1 ∨ x_lk t n (vI h v0 41) = 10 ∨ x_lk t n (vI h v0 41) = 47 ∨ x_lk t n (vI h v0 41) = 93; grind), (fun a k na => by rw [fr2i10_11_I a k (fun z => na (z.elim (fun z => Or.inl z) (fun z => Or.inr (z))))]), (fun a na => by rw [fr2i10_11_A a (by omega)]), (fun a na => by rw [fr2i10_11_L a (by omega)])⟩⟩
    · skip
      refine qi_if (fun cc12 => ?_) (fun cc12 => ?_)
      · skip
        unfold f_Mod_isMember_30
        refine qi_if (fun cc14 => absurd cc14 cc2) (fun _ => ?_)
        refine l_gI (e := (vI h v0 41)) rfl ?_
        unfold f_Mod_isMember_47
        refine l_gO ?_
        refine jj_Mod_wrong (v0 := v0) (v1 := (vI h v0 41)) T kv0 ?_
        intro hr2i15_16 Thr2i15_16 gr2i15_16_0 fr2i15_16_I fr2i15_16_A fr2i15_16_L
        try dsimp only
        refine qi_some ?_
        exact ⟨Thr2i15_16, Or.inr ⟨rfl, (by show vI hr2i15_16 v0 48 = 1; rw [show vI hr2i15_16 v0 48 = 1 from (by rw [gr2i15_16_0])] <;> (first | assumption | with_reducible rfl | grind)), (by show x_lk t n (vI h v0 41) = -1 ∨ x_lk t n (vI h v0 41) = 10 ∨ x_lk t n (vI h v0 41) = 47 ∨ x_lk t n (vI h v0 41) = 93; grind), (fun a k na => by rw [fr2i15_16_I a k (fun z => na (z.elim (fun z => Or.inl z) (fun z => Or.inr (z))))]), (fun a na => by rw [fr2i15_16_A a (by omega)]), (fun a na => by rw [fr2i15_16_L a (by omega)])⟩⟩
      · skip
        refine qi_if (fun cc17 => ?_) (fun cc17 => ?_)
        · skip
          unfold f_Mod_isMember_30
          refine qi_if (fun cc19 => absurd cc19 cc2) (fun _ => ?_)
          refine l_gI (e := (vI h v0 41)) rfl ?_
          unfold f_Mod_isMember_47
          refine l_gO ?_
          refine jj_Mod_wrong (v0 := v0) (v1 := (vI h v0 41)) T kv0 ?_
          intro hr2i20_21 Thr2i20_21 gr2i20_21_0 fr2i20_21_I fr2i20_21_A fr2i20_21_L
          try dsimp only
          refine qi_some ?_
          exact ⟨Thr2i20_21, Or.inr ⟨rfl, (by show vI hr2i20_21 v0 48 = 1; rw [show vI hr2i20_21 v0 48 = 1 from (by rw [gr2i20_21_0])] <;> (first | assumption | with_reducible rfl | grind)), (by show x_lk t n (vI h v0 41) = -1 ∨ x_lk t n (vI h v0 41) = 10 ∨ x_lk t n (vI h v0 41) = 47 ∨ x_lk t n (vI h v0 41) = 93; grind), (fun a k na => by rw [fr2i20_21_I a k (fun z => na (z.elim (fun z => Or.inl z) (fun z => Or.inr (z))))]), (fun a na => by rw [fr2i20_21_A a (by omega)]), (fun a na => by rw [fr2i20_21_L a (by omega)])⟩⟩
        · skip
          refine qi_some ?_
          exact ⟨T, Or.inl ⟨rfl, (by show vI h v0 48 = vI h v0 48; first | assumption | with_reducible rfl | grind), (by show ¬ x_lk t n (vI h v0 41) = -1; first | assumption | with_reducible rfl | grind), (by show ¬ x_lk t n (vI h v0 41) = 10; first | assumption | with_reducible rfl | grind), (by show ¬ x_lk t n (vI h v0 41) = 47; first | assumption | with_reducible rfl | grind), (by show ¬ x_lk t n (vI h v0 41) = 93; first | assumption | with_reducible rfl | grind), (fun a k na => by rfl), (fun a na => by rfl), (fun a na => by rfl)⟩⟩
theorem jj_Mod_isMember {L : q_L} {π : Nat → Nat → Option Nat} {N : Nat} {t : Int32 → Int32} {n : Int32} {h : z_H} {v0 : Nat} {β : Type} {f : Int32 × z_H → Option β} {Q : β → Prop} (T : x_U L π h) (kv0 : q_M L π v0) (ht : ∀ j, 0 ≤ j → j < n → vA h (v0 + 1) j = t j) (hn : vI h v0 3 = n) (H1 : ∀ h', x_U L π h' → (vI h' v0 48 = vI h v0 48) → (¬ x_lk t n (vI h v0 41) = -1) → (¬ x_lk t n (vI h v0 41) = 10) → (¬ x_lk t n (vI h v0 41) = 47) → (¬ x_lk t n (vI h v0 41) = 93) → (∀ a k, ¬ ((a = v0 ∧ k = 5) ∨ (a = v0 ∧ k = 48)) → vI h' a k = vI h a k) → (∀ a, ¬ (a < a) → vA h' a = vA h a) → (∀ a, ¬ (a < a) → vL h' a = vL h a) → qi (f (1, h')) Q) (H0 : ∀ h', x_U L π h' → (vI h' v0 48 = 1) → (x_lk t n (vI h v0 41) = -1 ∨ x_lk t n (vI h v0 41) = 10 ∨ x_lk t n (vI h v0 41) = 47 ∨ x_lk t n (vI h v0 41) = 93) → (∀ a k, ¬ ((a = v0 ∧ k = 5) ∨ (a = v0 ∧ k = 48)) → vI h' a k = vI h a k) → (∀ a, ¬ (a < a) → vA h' a = vA h a) → (∀ a, ¬ (a < a) → vL h' a = vL h a) → qi (f (0, h')) Q) : qi (z_b (f_Mod_isMember N v0 h) f) Q := by
  refine qi_b (ii_Mod_isMember  T kv0 ht hn) ?_
  rintro ⟨y, hz⟩ ⟨Tz, ⟨ey, g0, g1, g2, g3, g4, g5, g6, g7⟩ | ⟨ey, g0, g1, g2, g3, g4⟩⟩
  · dsimp only at *; subst ey; exact H1 hz Tz g0 g1 g2 g3 g4 g5 g6 g7
  · dsimp only at *; subst ey; exact H0 hz Tz g0 g1 g2 g3 g4

