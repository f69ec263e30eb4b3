set_option maxHeartbeats 2000000 in
theorem i_Mod_put_3 {L : q_L} {π : Nat → Nat → Option Nat} {N : Nat} : ∀ (m9 : Nat) (v0 : Nat) (v1 : Int32) (v3 : Int32) (v4 : Int32) (h : z_H), x_U L π h → q_M L π v0 → qi (f_Mod_put_3 N m9 v0 v1 v3 v4 h) (fun r => x_U L π r ∧ (∀ a k, ¬ (a < a) → vI r a k = vI h a k) ∧ (∀ a, ¬ (a < a) → vA r a = vA h a)) := by
  intro m9
  induction m9 with
  | zero => intro v0 v1 v3 v4 h T kv0 r e; rw [f_Mod_put_3] at e; cases e
  | succ m9 ih =>
    intro v0 v1 v3 v4 h T kv0
    rw [f_Mod_put_3]
    refine qi_if (fun cc1 => ?_) (fun cc1 => ?_)
    · skip
      refine qi_some ?_
      exact ⟨T, (fun a k na => by rfl), (fun a na => by rfl)⟩
    · skip
      refine qi_if (fun cc2 => ?_) (fun cc2 => ?_)
      · skip
        refine l_gR T (d_Mo_38 kv0) ?_
        refine l_aL (fun lx3 => ?_)
        refine l_uL T ?_
        intro h5_4 Th5_4 ih5_4 ah5_4
        refine qi_bs ?_
        refine qi_mono (ih v0 v1 v3 (v4 + 1) h5_4 Th5_4 kv0) ?_
        rintro hrz5_6 ⟨Thrz5_6, frz5_6_I, frz5_6_A⟩
        try dsimp only at *
        exact ⟨Thrz5_6, (fun a k na => by rw [frz5_6_I a k (by omega), ih5_4 a k]), (fun a na => by rw [frz5_6_A a (by omega), ah5_4 a])⟩
      · skip
        refine l_gR T (d_Mo_37 kv0) ?_
        refine l_aL (fun lx7 => ?_)
        refine l_uL T ?_
        intro h9_8 Th9_8 ih9_8 ah9_8
        refine qi_bs ?_
        refine qi_mono (ih v0 v1 v3 (v4 + 1) h9_8 Th9_8 kv0) ?_
        rintro hrz9_10 ⟨Thrz9_10, frz9_10_I, frz9_10_A⟩
        try dsimp only at *
        exact ⟨Thrz9_10, (fun a k na => by rw [frz9_10_I a k (by omega), ih9_8 a k]), (fun a na => by rw [frz9_10_A a (by omega), ah9_8 a])⟩
theorem j_Mod_put_3 {L : q_L} {π : Nat → Nat → Option Nat} {N : Nat} {m9 : Nat} {h : z_H} {v0 : Nat} {v1 : Int32} {v3 : Int32} {v4 : Int32} {β : Type} {f : z_H → Option β} {Q : β → Prop} (T : x_U L π h) (kv0 : q_M L π v0)  (H : ∀ h', x_U L π h' → (∀ a k, ¬ (a < a) → vI h' a k = vI h a k) → (∀ a, ¬ (a < a) → vA h' a = vA h a) → qi (f h') Q) : qi (z_b (f_Mod_put_3 N m9 v0 v1 v3 v4 h) f) Q := by
  refine qi_b (i_Mod_put_3 m9 v0 v1 v3 v4 h  T kv0 ) ?_
  rintro hz ⟨Tz, g0, g1⟩
  exact H hz Tz g0 g1

set_option maxHeartbeats 2000000 in
theorem i_Mod_put {L : q_L} {π : Nat → Nat → Option Nat} {N : Nat} {h : z_H} {v0 : Nat} {v1 : Int32} {v2 : Int32} {v3 : Int32} (T : x_U L π h) (kv0 : q_M L π v0)  : qi (f_Mod_put N v0 v1 v2 v3 h) (fun r => x_U L π r ∧ (∀ a k, ¬ (a < a) → vI r a k = vI h a k) ∧ (∀ a, ¬ (a < a) → vA r a = vA h a)) := by
  unfold f_Mod_put
  refine qi_tail ?_
  refine j_Mod_put_3 (v0 := v0) (v1 := v1) (v3 := v3) (v4 := v2) T kv0 ?_
  intro hrz1_2 Thrz1_2 frz1_2_I frz1_2_A
  try dsimp only
  refine qi_some ?_
  exact ⟨Thrz1_2, (fun a k na => by rw [frz1_2_I a k (by omega)]), (fun a na => by rw [frz1_2_A a (by omega)])⟩
theorem j_Mod_put {L : q_L} {π : Nat → Nat → Option Nat} {N : Nat} {h : z_H} {v0 : Nat} {v1 : Int32} {v2 : Int32} {v3 : Int32} {β : Type} {f : z_H → Option β} {Q : β → Prop} (T : x_U L π h) (kv0 : q_M L π v0)  (H : ∀ h', x_U L π h' → (∀ a k, ¬ (a < a) → vI h' a k = vI h a k) → (∀ a, ¬ (a < a) → vA h' a = vA h a) → qi (f h') Q) : qi (z_b (f_Mod_put N v0 v1 v2 v3 h) f) Q := by
  refine qi_b (i_Mod_put  T kv0 ) ?_
  rintro hz ⟨Tz, g0, g1⟩
  exact H hz Tz g0 g1

set_option maxHeartbeats 2000000 in
theorem i_Mod_isMember {L : q_L} {π : Nat → Nat → Option Nat} {N : Nat} {t : Int32 → Int32} {n : Int32} {h : z_H} {v0 : Nat} (T : x_U L π h) (kv0 : q_M L π v0) (ht : ∀ j, 0 ≤ j → j < n → vA h (v0 + 1) j = t j) (hn : vI h v0 3 = n) : qi (f_Mod_isMember N v0 h) (fun r => x_U L π r.2 ∧ ((r.1 = 1 ∧ (vI r.2 v0 48 = vI h v0 48) ∧ (¬ x_lk t n (vI h v0 41) = -1) ∧ (¬ x_lk t n (vI h v0 41) = 10) ∧ (¬ x_lk t n (vI h v0 41) = 47) ∧ (¬ x_lk t n (vI h v0 41) = 93) ∧ (∀ a k, ¬ ((a = v0 ∧ k = 5) ∨ (a = v0 ∧ k = 48)) → vI r.2 a k = vI h a k) ∧ (∀ a, ¬ (a < a) → vA r.2 a = vA h a)) ∨ (r.1 = 0 ∧ (vI r.2 v0 48 = 1) ∧ (x_lk t n (vI h v0 41) = -1 ∨ x_lk t n (vI h v0 41) = 10 ∨ x_lk t n (vI h v0 41) = 47 ∨ x_lk t n (vI h v0 41) = 93) ∧ (∀ a k, ¬ ((a = v0 ∧ k = 5) ∨ (a = v0 ∧ k = 48)) → vI r.2 a k = vI h a k) ∧ (∀ a, ¬ (a < a) → vA r.2 a = vA h a)))) := by
  unfold f_Mod_isMember
  refine l_gO ?_
  refine j_Mod_here (v0 := v0) (t := t) (n := n) (e := (x_lk t n (vI h v0 41))) T kv0 ht hn rfl ?_
  try dsimp only
  refine qi_bs ?_
  refine qi_if (fun cc2 => ?_) (fun cc2 => ?_)
  · skip
    unfold f_Mod_isMember_30
    refine qi_if (fun _ => ?_) (fun cc4 => absurd cc2 cc4)
    refine l_gI (e := (vI h v0 3)) rfl ?_
    unfold f_Mod_isMember_47
    refine l_gO ?_
    refine j_Mod_wrong (v0 := v0) (v1 := (vI h v0 3)) T kv0 ?_
    intro hr2i5_6 Thr2i5_6 gr2i5_6_0 fr2i5_6_I fr2i5_6_A
    try dsimp only
    refine qi_some ?_
    exact ⟨Thr2i5_6, Or.inr ⟨rfl, (by show vI hr2i5_6 v0 48 = 1; rw [show vI hr2i5_6 v0 48 = 1 from (by rw [gr2i5_6_0])] <;> (first | assumption | with_reducible rfl | grind)), (by show x_lk t n (vI h v0 41) = -1 ∨ x_lk t n (vI h v0 41) = 10 ∨ x_lk t n (vI h v0 41) = 47 ∨ x_lk t n (vI h v0 41) = 93; grind), (fun a k na => by rw [fr2i5_6_I a k (fun z => na (z.elim (fun z => Or.inl z) (fun z => Or.inr (z))))]), (fun a na => by rw [fr2i5_6_A a (by omega)])⟩⟩
  · skip
    refine qi_if (fun cc7 => ?_) (fun cc7 => ?_)
    · skip
      unfold f_Mod_isMember_30
      refine qi_if (fun cc9 => absurd cc9 cc2) (fun _ => ?_)
      refine l_gI (e := (vI h v0 41)) rfl ?_
      unfold f_Mod_isMember_47
      refine l_gO ?_
      refine j_Mod_wrong (v0 := v0) (v1 := (vI h v0 41)) T kv0 ?_
      intro hr2i10_11 Thr2i10_11 gr2i10_11_0 fr2i10_11_I fr2i10_11_A
      try dsimp only
      refine qi_some ?_
      exact ⟨Thr2i10_11, Or.inr ⟨rfl, (by show vI hr2i10_11 v0 48 = 1; rw [show vI hr2i10_11 v0 48 = 1 from (by rw [gr2i10_11_0])] <;> (first | assumption | with_reducible rfl | grind)), (by show x_lk t n (vI h v0 41) = -1 ∨ x_lk t n (vI h v0 41) = 10 ∨ x_lk t n (vI h v0 41) = 47 ∨ x_lk t n (vI h v0 41) = 93; grind), (fun a k na => by rw [fr2i10_11_I a k (fun z => na (z.elim (fun z => Or.inl z) (fun z => Or.inr (z))))]), (fun a na => by rw [fr2i10_11_A a (by omega)])⟩⟩
    · skip
      refine qi_if (fun cc12 => ?_) (fun cc12 => ?_)
      · skip
        unfold f_Mod_isMember_30
        refine qi_if (fun cc14 => absurd cc14 cc2) (fun _ => ?_)
        refine l_gI (e := (vI h v0 41)) rfl ?_
        unfold f_Mod_isMember_47
        refine l_gO ?_
        refine j_Mod_wrong (v0 := v0) (v1 := (vI h v0 41)) T kv0 ?_
        intro hr2i15_16 Thr2i15_16 gr2i15_16_0 fr2i15_16_I fr2i15_16_A
        try dsimp only
        refine qi_some ?_
        exact ⟨Thr2i15_16, Or.inr ⟨rfl, (by show vI hr2i15_16 v0 48 = 1; rw [show vI hr2i15_16 v0 48 = 1 from (by rw [gr2i15_16_0])] <;> (first | assumption | with_reducible rfl | grind)), (by show x_lk t n (vI h v0 41) = -1 ∨ x_lk t n (vI h v0 41) = 10 ∨ x_lk t n (vI h v0 41) = 47 ∨ x_lk t n (vI h v0 41) = 93; grind), (fun a k na => by rw [fr2i15_16_I a k (fun z => na (z.elim (fun z => Or.inl z) (fun z => Or.inr (z))))]), (fun a na => by rw [fr2i15_16_A a (by omega)])⟩⟩
      · skip
        refine qi_if (fun cc17 => ?_) (fun cc17 => ?_)
        · skip
          unfold f_Mod_isMember_30
          refine qi_if (fun cc19 => absurd cc19 cc2) (fun _ => ?_)
          refine l_gI (e := (vI h v0 41)) rfl ?_
          unfold f_Mod_isMember_47
          refine l_gO ?_
          refine j_Mod_wrong (v0 := v0) (v1 := (vI h v0 41)) T kv0 ?_
          intro hr2i20_21 Thr2i20_21 gr2i20_21_0 fr2i20_21_I fr2i20_21_A
          try dsimp only
          refine qi_some ?_
          exact ⟨Thr2i20_21, Or.inr ⟨rfl, (by show vI hr2i20_21 v0 48 = 1; rw [show vI hr2i20_21 v0 48 = 1 from (by rw [gr2i20_21_0])] <;> (first | assumption | with_reducible rfl | grind)), (by show x_lk t n (vI h v0 41) = -1 ∨ x_lk t n (vI h v0 41) = 10 ∨ x_lk t n (vI h v0 41) = 47 ∨ x_lk t n (vI h v0 41) = 93; grind), (fun a k na => by rw [fr2i20_21_I a k (fun z => na (z.elim (fun z => Or.inl z) (fun z => Or.inr (z))))]), (fun a na => by rw [fr2i20_21_A a (by omega)])⟩⟩
        · skip
          refine qi_some ?_
          exact ⟨T, Or.inl ⟨rfl, (by show vI h v0 48 = vI h v0 48; first | assumption | with_reducible rfl | grind), (by show ¬ x_lk t n (vI h v0 41) = -1; first | assumption | with_reducible rfl | grind), (by show ¬ x_lk t n (vI h v0 41) = 10; first | assumption | with_reducible rfl | grind), (by show ¬ x_lk t n (vI h v0 41) = 47; first | assumption | with_reducible rfl | grind), (by show ¬ x_lk t n (vI h v0 41) = 93; first | assumption | with_reducible rfl | grind), (fun a k na => by rfl), (fun a na => by rfl)⟩⟩
theorem j_Mod_isMember {L : q_L} {π : Nat → Nat → Option Nat} {N : Nat} {t : Int32 → Int32} {n : Int32} {h : z_H} {v0 : Nat} {β : Type} {f : Int32 × z_H → Option β} {Q : β → Prop} (T : x_U L π h) (kv0 : q_M L π v0) (ht : ∀ j, 0 ≤ j → j < n → vA h (v0 + 1) j = t j) (hn : vI h v0 3 = n) (H1 : ∀ h', x_U L π h' → (vI h' v0 48 = vI h v0 48) → (¬ x_lk t n (vI h v0 41) = -1) → (¬ x_lk t n (vI h v0 41) = 10) → (¬ x_lk t n (vI h v0 41) = 47) → (¬ x_lk t n (vI h v0 41) = 93) → (∀ a k, ¬ ((a = v0 ∧ k = 5) ∨ (a = v0 ∧ k = 48)) → vI h' a k = vI h a k) → (∀ a, ¬ (a < a) → vA h' a = vA h a) → qi (f (1, h')) Q) (H0 : ∀ h', x_U L π h' → (vI h' v0 48 = 1) → (x_lk t n (vI h v0 41) = -1 ∨ x_lk t n (vI h v0 41) = 10 ∨ x_lk t n (vI h v0 41) = 47 ∨ x_lk t n (vI h v0 41) = 93) → (∀ a k, ¬ ((a = v0 ∧ k = 5) ∨ (a = v0 ∧ k = 48)) → vI h' a k = vI h a k) → (∀ a, ¬ (a < a) → vA h' a = vA h a) → qi (f (0, h')) Q) : qi (z_b (f_Mod_isMember N v0 h) f) Q := by
  refine qi_b (i_Mod_isMember  T kv0 ht hn) ?_
  rintro ⟨y, hz⟩ ⟨Tz, ⟨ey, g0, g1, g2, g3, g4, g5, g6⟩ | ⟨ey, g0, g1, g2, g3⟩⟩
  · dsimp only at *; subst ey; exact H1 hz Tz g0 g1 g2 g3 g4 g5 g6
  · dsimp only at *; subst ey; exact H0 hz Tz g0 g1 g2 g3

