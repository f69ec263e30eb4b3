set_option maxHeartbeats 4000000 in
theorem i_Mod_replacement {L : q_L} {π : Nat → Nat → Option Nat} {N : Nat} {t : Int32 → Int32} {n : Int32} {g : Int32} {h : z_H} {v0 : Nat} {v1 : Int32} (T : x_U L π h) (kv0 : q_M L π v0) (ht : ∀ j, 0 ≤ j → j < n → vA h (v0 + 1) j = t j) (hn : vI h v0 3 = n) (n1 : n ≤ 240) (tp : ∀ j, t j ≠ -1) (bd : vI h v0 48 = 0) (a0 : 0 ≤ vI h v0 41) (hg : vA h (v0 + 25) (vA h (v0 + 9) v1) = g) (g3 : 0 ≤ g ∧ g ≤ 3) : qi (f_Mod_replacement N v0 v1 h) (fun r => x_U L π r ∧ (((vI r v0 48 = 0) ∧ (x_rep t n (vI h v0 41) g = some (vI r v0 41)) ∧ (∀ a k, ¬ ((a = v0 ∧ k = 41) ∨ (a = v0 ∧ k = 5) ∨ (a = v0 ∧ k = 48)) → vI r a k = vI h a k) ∧ (∀ a, ¬ (a = (v0 + 10) ∨ a = (v0 + 11) ∨ a = (v0 + 28) ∨ a = (v0 + 22)) → vA r a = vA h a)) ∨ ((¬ vI r v0 48 = 0) ∧ (x_rep t n (vI h v0 41) g = none) ∧ (∀ a k, ¬ ((a = v0 ∧ k = 41) ∨ (a = v0 ∧ k = 5) ∨ (a = v0 ∧ k = 48)) → vI r a k = vI h a k) ∧ (∀ a, ¬ (a = (v0 + 10) ∨ a = (v0 + 11) ∨ a = (v0 + 28) ∨ a = (v0 + 22)) → vA r a = vA h a)))) := by
  have n2 : n ≤ 1000 := Int32.le_trans n1 (by decide)
  unfold f_Mod_replacement
  refine l_gR T (d_Mo_15 kv0) ?_
  refine l_gO ?_
  refine j_Mod_stored (v0 := v0) (e := (300 * vI h v0 42 + vA h (v0 + 22) (vI h v0 42))) T kv0 rfl ?_
  try dsimp only
  refine l_uI T ?_
  intro h4_2 Th4_2 jh4_2 ih4_2 ah4_2 bh4_2
  refine qi_tail ?_
  refine j_Mod_replacement_10 (v0 := v0) (v1 := v1) (t := t) (n := n) (g := g) Th4_2 kv0 (by show ∀ j, 0 ≤ j → j < n → vA h4_2 (v0 + 1) j = t j; rw [show vA h4_2 (v0 + 1) = vA h (v0 + 1) from (by rw [bh4_2 (v0 + 1) (by omega)])] <;> (first | assumption | with_reducible rfl | grind)) (by show vI h4_2 v0 3 = n; rw [show vI h4_2 v0 3 = (vI h v0 3) from (by rw [ih4_2 v0 3])] <;> (first | assumption | with_reducible rfl | grind)) n1 tp (by show vI h4_2 v0 48 = 0 → 0 ≤ vI h4_2 v0 41; rw [show vI h4_2 v0 48 = (vI h v0 48) from (by rw [ih4_2 v0 48]), show vI h4_2 v0 41 = (vI h v0 41) from (by rw [ih4_2 v0 41])] <;> (intro _; exact a0)) (by show vA h4_2 (v0 + 25) (vA h4_2 (v0 + 9) v1) = g; rw [show vA h4_2 (v0 + 25) = vA h (v0 + 25) from (by rw [bh4_2 (v0 + 25) (by omega)]), show vA h4_2 (v0 + 9) = vA h (v0 + 9) from (by rw [bh4_2 (v0 + 9) (by omega)])] <;> (first | assumption | with_reducible rfl | grind)) g3 ?_ ?_
  · intro hrz3_4 Thrz3_4 g1rz3_4_0 g1rz3_4_1 g1rz3_4_2 f1rz3_4_I f1rz3_4_A
    try dsimp only
    rw [show vI h4_2 v0 48 = (vI h v0 48) from (by rw [ih4_2 v0 48])] at g1rz3_4_1
    rw [show vI h4_2 v0 41 = (vI h v0 41) from (by rw [ih4_2 v0 41])] at g1rz3_4_2
    refine qi_some ?_
    exact ⟨Thrz3_4, Or.inl ⟨(by show vI hrz3_4 v0 48 = 0; rw [show vI hrz3_4 v0 48 = 0 from (by rw [g1rz3_4_0])] <;> (first | assumption | with_reducible rfl | grind)), g1rz3_4_2, (fun a k na => by rw [f1rz3_4_I a k (fun z => na (z.elim (fun z => Or.inl z) (fun z => z.elim (fun z => Or.inr (Or.inl z)) (fun z => Or.inr (Or.inr (z)))))), ih4_2 a k]), (fun a na => by rw [f1rz3_4_A a (fun z => na (z.elim (fun z => Or.inr (Or.inl z)) (fun z => z.elim (fun z => Or.inr (Or.inr (Or.inl z))) (fun z => Or.inr (Or.inr (Or.inr (z))))))), bh4_2 a (fun z => na (Or.inl z))])⟩⟩
  · intro hrz3_4 Thrz3_4 g0rz3_4_0 g0rz3_4_1 f0rz3_4_I f0rz3_4_A
    try dsimp only
    rw [show vI h4_2 v0 48 = (vI h v0 48) from (by rw [ih4_2 v0 48]), show vI h4_2 v0 41 = (vI h v0 41) from (by rw [ih4_2 v0 41])] at g0rz3_4_1
    refine qi_some ?_
    exact ⟨Thrz3_4, Or.inr ⟨g0rz3_4_0, (by show x_rep t n (vI h v0 41) g = none; exact g0rz3_4_1.resolve_left (fun z => z (by first | rfl | assumption))), (fun a k na => by rw [f0rz3_4_I a k (fun z => na (z.elim (fun z => Or.inl z) (fun z => z.elim (fun z => Or.inr (Or.inl z)) (fun z => Or.inr (Or.inr (z)))))), ih4_2 a k]), (fun a na => by rw [f0rz3_4_A a (fun z => na (z.elim (fun z => Or.inr (Or.inl z)) (fun z => z.elim (fun z => Or.inr (Or.inr (Or.inl z))) (fun z => Or.inr (Or.inr (Or.inr (z))))))), bh4_2 a (fun z => na (Or.inl z))])⟩⟩
theorem j_Mod_replacement {L : q_L} {π : Nat → Nat → Option Nat} {N : Nat} {t : Int32 → Int32} {n : Int32} {g : Int32} {h : z_H} {v0 : Nat} {v1 : Int32} {β : Type} {f : z_H → Option β} {Q : β → Prop} (T : x_U L π h) (kv0 : q_M L π v0) (ht : ∀ j, 0 ≤ j → j < n → vA h (v0 + 1) j = t j) (hn : vI h v0 3 = n) (n1 : n ≤ 240) (tp : ∀ j, t j ≠ -1) (bd : vI h v0 48 = 0) (a0 : 0 ≤ vI h v0 41) (hg : vA h (v0 + 25) (vA h (v0 + 9) v1) = g) (g3 : 0 ≤ g ∧ g ≤ 3) (H1 : ∀ h', x_U L π h' → (vI h' v0 48 = 0) → (x_rep t n (vI h v0 41) g = some (vI h' v0 41)) → (∀ a k, ¬ ((a = v0 ∧ k = 41) ∨ (a = v0 ∧ k = 5) ∨ (a = v0 ∧ k = 48)) → vI h' a k = vI h a k) → (∀ a, ¬ (a = (v0 + 10) ∨ a = (v0 + 11) ∨ a = (v0 + 28) ∨ a = (v0 + 22)) → vA h' a = vA h a) → qi (f h') Q) (H0 : ∀ h', x_U L π h' → (¬ vI h' v0 48 = 0) → (x_rep t n (vI h v0 41) g = none) → (∀ a k, ¬ ((a = v0 ∧ k = 41) ∨ (a = v0 ∧ k = 5) ∨ (a = v0 ∧ k = 48)) → vI h' a k = vI h a k) → (∀ a, ¬ (a = (v0 + 10) ∨ a = (v0 + 11) ∨ a = (v0 + 28) ∨ a = (v0 + 22)) → vA h' a = vA h a) → qi (f h') Q) : qi (z_b (f_Mod_replacement N v0 v1 h) f) Q := by
  refine qi_b (i_Mod_replacement  T kv0 ht hn n1 tp bd a0 hg g3) ?_
  rintro hz ⟨Tz, ⟨g0, g1, g2, g3⟩ | ⟨g0, g1, g2, g3⟩⟩
  · exact H1 hz Tz g0 g1 g2 g3
  · exact H0 hz Tz g0 g1 g2 g3

set_option maxHeartbeats 8000000 in
theorem i_Mod_substitute_70 {L : q_L} {π : Nat → Nat → Option Nat} {N : Nat} {t : Int32 → Int32} {n : Int32} : ∀ (m9 : Nat) (v0 : Nat) (v1 : Int32) (v2 : Int32) (h : z_H), x_U L π h → q_M L π v0 → (∀ j, 0 ≤ j → j < n → vA h (v0 + 1) j = t j) → (vI h v0 3 = n) → (n ≤ 240) → (∀ j, t j ≠ -1) → (vI h v0 48 = 0) → (0 ≤ vI h v0 41) → (¬ v2 = 0) → (0 ≤ (vA h (v0 + 14) v1)) → qi (f_Mod_substitute_70 N m9 v0 v1 v2 h) (fun r => x_U L π r ∧ (((vI r v0 48 = 0) ∧ (vI r v0 41 = x_fl t n (vI h v0 41) (vA h (v0 + 17) v1) (vA h (v0 + 18) v1) (vA h (v0 + 14) v1)) ∧ (∀ a k, ¬ ((a = v0 ∧ k = 41) ∨ (a = v0 ∧ k = 5) ∨ (a = v0 ∧ k = 48)) → vI r a k = vI h a k) ∧ (∀ a, ¬ (a = (v0 + 17) ∨ a = (v0 + 18) ∨ a = (v0 + 14)) → vA r a = vA h a)) ∨ ((¬ vI r v0 48 = 0) ∧ (¬ x_end (x_lk t n (x_fl t n (vI h v0 41) (vA h (v0 + 17) v1) (vA h (v0 + 18) v1) (vA h (v0 + 14) v1))) = true) ∧ (∀ a k, ¬ ((a = v0 ∧ k = 41) ∨ (a = v0 ∧ k = 5) ∨ (a = v0 ∧ k = 48)) → vI r a k = vI h a k) ∧ (∀ a, ¬ (a = (v0 + 17) ∨ a = (v0 + 18) ∨ a = (v0 + 14)) → vA r a = vA h a)))) := by
  intro m9
  induction m9 with
  | zero => intro v0 v1 v2 h T kv0 ht hn n1 tp bd a0 v21 wz r e; rw [f_Mod_substitute_70] at e; cases e
  | succ m9 ih =>
    intro v0 v1 v2 h T kv0 ht hn n1 tp bd a0 v21 wz
    rw [f_Mod_substitute_70]
    have n2 : n ≤ 1000 := Int32.le_trans n1 (by decide)
    refine qi_if (fun cc1 => absurd cc1 v21) (fun _ => ?_)
    refine l_gO ?_
    refine j_Mod_here (v0 := v0) (t := t) (n := n) (e := (x_lk t n (vI h v0 41))) T kv0 ht hn rfl ?_
    try dsimp only
    refine qi_bs ?_
    refine qi_if (fun cc3 => ?_) (fun cc3 => ?_)
    · skip
      unfold f_Mod_substitute_107
      refine qi_if (fun cc5 => absurd cc5 (by decide)) (fun _ => ?_)
      refine qi_if (fun _ => ?_) (fun cc6 => absurd cc3 cc6)
      refine l_gR T (d_Mo_22 kv0) ?_
      refine l_aI (e := (vA h (v0 + 17) v1)) (fun _ => rfl) (fun ix7 => ?_)
      refine qi_if (fun cc8 => ?_) (fun cc8 => ?_)
      · skip
        unfold f_Mod_substitute_167
        refine qi_if (fun _ => ?_) (fun cc10 => absurd cc3 cc10)
        refine l_gR T (d_Mo_22 kv0) ?_
        refine l_uI T ?_
        intro h8i9_11 Th8i9_11 jh8i9_11 ih8i9_11 ah8i9_11 bh8i9_11
        unfold f_Mod_substitute_209
        refine l_gI (e := (vI h v0 41)) (by rw [ih8i9_11 v0 41]) ?_
        refine l_sI Th8i9_11 (q_Mk kv0) (by decide) rfl ?_
        intro h2i12_13 Th2i12_13 ih2i12_13 ah2i12_13
        refine qi_mono (ih v0 v1 (1 : Int32) h2i12_13 Th2i12_13 kv0 (by show ∀ j, 0 ≤ j → j < n → vA h2i12_13 (v0 + 1) j = t j; rw [show vA h2i12_13 (v0 + 1) = vA h (v0 + 1) from (by rw [ah2i12_13 (v0 + 1), bh8i9_11 (v0 + 1) (by omega)])] <;> (first | assumption | with_reducible rfl | grind)) (by show vI h2i12_13 v0 3 = n; rw [show vI h2i12_13 v0 3 = (vI h v0 3) from (by rw [ih2i12_13 v0 3, if_neg (fun z => absurd z.2 (by decide)), ih8i9_11 v0 3])] <;> (first | assumption | with_reducible rfl | grind)) n1 tp (by show vI h2i12_13 v0 48 = 0; rw [show vI h2i12_13 v0 48 = (vI h v0 48) from (by rw [ih2i12_13 v0 48, if_neg (fun z => absurd z.2 (by decide)), ih8i9_11 v0 48])] <;> (first | assumption | with_reducible rfl | grind)) (by show 0 ≤ vI h2i12_13 v0 41; rw [show vI h2i12_13 v0 41 = ((vI h v0 41) + 1) from (by rw [ih2i12_13 v0 41, if_pos ⟨rfl, rfl⟩])] <;> (exact x_0le a0 (x_lp1 n2 (t := t) (x_ne cc3)))) (by show ¬ (1 : Int32) = 0; decide) (by show 0 ≤ (vA h2i12_13 (v0 + 14) v1); rw [show vA h2i12_13 (v0 + 14) = vA h (v0 + 14) from (by rw [ah2i12_13 (v0 + 14), bh8i9_11 (v0 + 14) (by omega)])] <;> (exact wz))) ?_
        rintro hrz14_15 ⟨Thrz14_15, ⟨g1rz14_15_0, g1rz14_15_1, f1rz14_15_I, f1rz14_15_A⟩ | ⟨g0rz14_15_0, g0rz14_15_1, f0rz14_15_I, f0rz14_15_A⟩⟩
        · try dsimp only at *
          rw [show vI h2i12_13 v0 41 = ((vI h v0 41) + 1) from (by rw [ih2i12_13 v0 41, if_pos ⟨rfl, rfl⟩]), show vA h2i12_13 (v0 + 17) = vA h8i9_11 (v0 + 17) from (by rw [ah2i12_13 (v0 + 17)]), show vA h8i9_11 (v0 + 17) v1 = 1 from (by rw [ah8i9_11 (v0 + 17) v1 jh8i9_11, if_pos ⟨rfl, rfl⟩, x_vn1]), show vA h2i12_13 (v0 + 18) = vA h (v0 + 18) from (by rw [ah2i12_13 (v0 + 18), bh8i9_11 (v0 + 18) (by omega)]), show vA h2i12_13 (v0 + 14) = vA h (v0 + 14) from (by rw [ah2i12_13 (v0 + 14), bh8i9_11 (v0 + 14) (by omega)])] at g1rz14_15_1
          exact ⟨Thrz14_15, Or.inl ⟨(by show vI hrz14_15 v0 48 = 0; rw [show vI hrz14_15 v0 48 = 0 from (by rw [g1rz14_15_0])] <;> (first | assumption | with_reducible rfl | grind)), (by show vI hrz14_15 v0 41 = x_fl t n (vI h v0 41) (vA h (v0 + 17) v1) (vA h (v0 + 18) v1) (vA h (v0 + 14) v1); rw [show vI hrz14_15 v0 41 = (x_fl t n ((vI h v0 41) + 1) 1 (vA h (v0 + 18) v1) (vA h (v0 + 14) v1)) from (by rw [g1rz14_15_1])] <;> (rw [cc8, x_fl_g n2 cc3])), (fun a k na => by rw [f1rz14_15_I a k (fun z => na (z.elim (fun z => Or.inl z) (fun z => z.elim (fun z => Or.inr (Or.inl z)) (fun z => Or.inr (Or.inr (z)))))), ih2i12_13 a k, if_neg (fun z => na (Or.inl z)), ih8i9_11 a k]), (fun a na => by rw [f1rz14_15_A a (fun z => na (z.elim (fun z => Or.inl z) (fun z => z.elim (fun z => Or.inr (Or.inl z)) (fun z => Or.inr (Or.inr (z)))))), ah2i12_13 a, bh8i9_11 a (fun z => na (Or.inl z))])⟩⟩
        · try dsimp only at *
          rw [show vI h2i12_13 v0 41 = ((vI h v0 41) + 1) from (by rw [ih2i12_13 v0 41, if_pos ⟨rfl, rfl⟩]), show vA h2i12_13 (v0 + 17) = vA h8i9_11 (v0 + 17) from (by rw [ah2i12_13 (v0 + 17)]), show vA h8i9_11 (v0 + 17) v1 = 1 from (by rw [ah8i9_11 (v0 + 17) v1 jh8i9_11, if_pos ⟨rfl, rfl⟩, x_vn1]), show vA h2i12_13 (v0 + 18) = vA h (v0 + 18) from (by rw [ah2i12_13 (v0 + 18), bh8i9_11 (v0 + 18) (by omega)]), show vA h2i12_13 (v0 + 14) = vA h (v0 + 14) from (by rw [ah2i12_13 (v0 + 14), bh8i9_11 (v0 + 14) (by omega)])] at g0rz14_15_1
          exact ⟨Thrz14_15, Or.inr ⟨g0rz14_15_0, (by show ¬ x_end (x_lk t n (x_fl t n (vI h v0 41) (vA h (v0 + 17) v1) (vA h (v0 + 18) v1) (vA h (v0 + 14) v1))) = true; rw [cc8, x_fl_g n2 cc3]; exact g0rz14_15_1), (fun a k na => by rw [f0rz14_15_I a k (fun z => na (z.elim (fun z => Or.inl z) (fun z => z.elim (fun z => Or.inr (Or.inl z)) (fun z => Or.inr (Or.inr (z)))))), ih2i12_13 a k, if_neg (fun z => na (Or.inl z)), ih8i9_11 a k]), (fun a na => by rw [f0rz14_15_A a (fun z => na (z.elim (fun z => Or.inl z) (fun z => z.elim (fun z => Or.inr (Or.inl z)) (fun z => Or.inr (Or.inr (z)))))), ah2i12_13 a, bh8i9_11 a (fun z => na (Or.inl z))])⟩⟩
      · skip
        unfold f_Mod_substitute_158
        refine l_gI (e := (vI h v0 41)) rfl ?_
        refine l_gO ?_
        refine j_Mod_wrong (v0 := v0) (v1 := (vI h v0 41)) T kv0 ?_
        intro hr3i16_17 Thr3i16_17 gr3i16_17_0 fr3i16_17_I fr3i16_17_A
        try dsimp only
        refine qi_some ?_
        exact ⟨Thr3i16_17, Or.inr ⟨(by show ¬ vI hr3i16_17 v0 48 = 0; rw [show vI hr3i16_17 v0 48 = 1 from (by rw [gr3i16_17_0])] <;> (first | assumption | decide)), (by show ¬ x_end (x_lk t n (x_fl t n (vI h v0 41) (vA h (v0 + 17) v1) (vA h (v0 + 18) v1) (vA h (v0 + 14) v1))) = true; rw [x_fl_no (fun z => absurd z.2 cc8) (fun z => absurd (z.1.symm.trans cc3) (by decide)) (fun z => absurd z.2.1 (by rw [cc3]; decide)), cc3]; decide), (fun a k na => by rw [fr3i16_17_I a k (fun z => na (z.elim (fun z => Or.inr (Or.inl z)) (fun z => Or.inr (Or.inr (z)))))]), (fun a na => by rw [fr3i16_17_A a (by omega)])⟩⟩
    · skip
      refine qi_if (fun cc18 => ?_) (fun cc18 => ?_)
      · skip
        unfold f_Mod_substitute_107
        refine qi_if (fun cc20 => absurd cc20 (by decide)) (fun _ => ?_)
        refine qi_if (fun cc21 => absurd cc21 cc3) (fun _ => ?_)
        refine qi_if (fun _ => ?_) (fun cc22 => absurd cc18 cc22)
        refine l_gR T (d_Mo_23 kv0) ?_
        refine l_aI (e := (vA h (v0 + 18) v1)) (fun _ => rfl) (fun ix23 => ?_)
        refine qi_if (fun cc24 => ?_) (fun cc24 => ?_)
        · skip
          unfold f_Mod_substitute_167
          refine qi_if (fun cc26 => absurd cc26 cc3) (fun _ => ?_)
          refine qi_if (fun _ => ?_) (fun cc27 => absurd cc18 cc27)
          refine l_gR T (d_Mo_23 kv0) ?_
          refine l_uI T ?_
          intro h6i25_28 Th6i25_28 jh6i25_28 ih6i25_28 ah6i25_28 bh6i25_28
          unfold f_Mod_substitute_209
          refine l_gI (e := (vI h v0 41)) (by rw [ih6i25_28 v0 41]) ?_
          refine l_sI Th6i25_28 (q_Mk kv0) (by decide) rfl ?_
          intro h2i29_30 Th2i29_30 ih2i29_30 ah2i29_30
          refine qi_mono (ih v0 v1 (1 : Int32) h2i29_30 Th2i29_30 kv0 (by show ∀ j, 0 ≤ j → j < n → vA h2i29_30 (v0 + 1) j = t j; rw [show vA h2i29_30 (v0 + 1) = vA h (v0 + 1) from (by rw [ah2i29_30 (v0 + 1), bh6i25_28 (v0 + 1) (by omega)])] <;> (first | assumption | with_reducible rfl | grind)) (by show vI h2i29_30 v0 3 = n; rw [show vI h2i29_30 v0 3 = (vI h v0 3) from (by rw [ih2i29_30 v0 3, if_neg (fun z => absurd z.2 (by decide)), ih6i25_28 v0 3])] <;> (first | assumption | with_reducible rfl | grind)) n1 tp (by show vI h2i29_30 v0 48 = 0; rw [show vI h2i29_30 v0 48 = (vI h v0 48) from (by rw [ih2i29_30 v0 48, if_neg (fun z => absurd z.2 (by decide)), ih6i25_28 v0 48])] <;> (first | assumption | with_reducible rfl | grind)) (by show 0 ≤ vI h2i29_30 v0 41; rw [show vI h2i29_30 v0 41 = ((vI h v0 41) + 1) from (by rw [ih2i29_30 v0 41, if_pos ⟨rfl, rfl⟩])] <;> (exact x_0le a0 (x_lp1 n2 (t := t) (x_ne cc18)))) (by show ¬ (1 : Int32) = 0; decide) (by show 0 ≤ (vA h2i29_30 (v0 + 14) v1); rw [show vA h2i29_30 (v0 + 14) = vA h (v0 + 14) from (by rw [ah2i29_30 (v0 + 14), bh6i25_28 (v0 + 14) (by omega)])] <;> (exact wz))) ?_
          rintro hrz31_32 ⟨Thrz31_32, ⟨g1rz31_32_0, g1rz31_32_1, f1rz31_32_I, f1rz31_32_A⟩ | ⟨g0rz31_32_0, g0rz31_32_1, f0rz31_32_I, f0rz31_32_A⟩⟩
          · try dsimp only at *
            rw [show vI h2i29_30 v0 41 = ((vI h v0 41) + 1) from (by rw [ih2i29_30 v0 41, if_pos ⟨rfl, rfl⟩]), show vA h2i29_30 (v0 + 17) = vA h (v0 + 17) from (by rw [ah2i29_30 (v0 + 17), bh6i25_28 (v0 + 17) (by omega)]), show vA h2i29_30 (v0 + 18) = vA h6i25_28 (v0 + 18) from (by rw [ah2i29_30 (v0 + 18)]), show vA h6i25_28 (v0 + 18) v1 = 1 from (by rw [ah6i25_28 (v0 + 18) v1 jh6i25_28, if_pos ⟨rfl, rfl⟩, x_vn1]), show vA h2i29_30 (v0 + 14) = vA h (v0 + 14) from (by rw [ah2i29_30 (v0 + 14), bh6i25_28 (v0 + 14) (by omega)])] at g1rz31_32_1
            exact ⟨Thrz31_32, Or.inl ⟨(by show vI hrz31_32 v0 48 = 0; rw [show vI hrz31_32 v0 48 = 0 from (by rw [g1rz31_32_0])] <;> (first | assumption | with_reducible rfl | grind)), (by show vI hrz31_32 v0 41 = x_fl t n (vI h v0 41) (vA h (v0 + 17) v1) (vA h (v0 + 18) v1) (vA h (v0 + 14) v1); rw [show vI hrz31_32 v0 41 = (x_fl t n ((vI h v0 41) + 1) (vA h (v0 + 17) v1) 1 (vA h (v0 + 14) v1)) from (by rw [g1rz31_32_1])] <;> (rw [cc24, x_fl_p n2 cc18])), (fun a k na => by rw [f1rz31_32_I a k (fun z => na (z.elim (fun z => Or.inl z) (fun z => z.elim (fun z => Or.inr (Or.inl z)) (fun z => Or.inr (Or.inr (z)))))), ih2i29_30 a k, if_neg (fun z => na (Or.inl z)), ih6i25_28 a k]), (fun a na => by rw [f1rz31_32_A a (fun z => na (z.elim (fun z => Or.inl z) (fun z => z.elim (fun z => Or.inr (Or.inl z)) (fun z => Or.inr (Or.inr (z)))))), ah2i29_30 a, bh6i25_28 a (fun z => na (Or.inr (Or.inl z)))])⟩⟩
          · try dsimp only at *
            rw [show vI h2i29_30 v0 41 = ((vI h v0 41) + 1) from (by rw [ih2i29_30 v0 41, if_pos ⟨rfl, rfl⟩]), show vA h2i29_30 (v0 + 17) = vA h (v0 + 17) from (by rw [ah2i29_30 (v0 + 17), bh6i25_28 (v0 + 17) (by omega)]), show vA h2i29_30 (v0 + 18) = vA h6i25_28 (v0 + 18) from (by rw [ah2i29_30 (v0 + 18)]), show vA h6i25_28 (v0 + 18) v1 = 1 from (by rw [ah6i25_28 (v0 + 18) v1 jh6i25_28, if_pos ⟨rfl, rfl⟩, x_vn1]), show vA h2i29_30 (v0 + 14) = vA h (v0 + 14) from (by rw [ah2i29_30 (v0 + 14), bh6i25_28 (v0 + 14) (by omega)])] at g0rz31_32_1
            exact ⟨Thrz31_32, Or.inr ⟨g0rz31_32_0, (by show ¬ x_end (x_lk t n (x_fl t n (vI h v0 41) (vA h (v0 + 17) v1) (vA h (v0 + 18) v1) (vA h (v0 + 14) v1))) = true; rw [cc24, x_fl_p n2 cc18]; exact g0rz31_32_1), (fun a k na => by rw [f0rz31_32_I a k (fun z => na (z.elim (fun z => Or.inl z) (fun z => z.elim (fun z => Or.inr (Or.inl z)) (fun z => Or.inr (Or.inr (z)))))), ih2i29_30 a k, if_neg (fun z => na (Or.inl z)), ih6i25_28 a k]), (fun a na => by rw [f0rz31_32_A a (fun z => na (z.elim (fun z => Or.inl z) (fun z => z.elim (fun z => Or.inr (Or.inl z)) (fun z => Or.inr (Or.inr (z)))))), ah2i29_30 a, bh6i25_28 a (fun z => na (Or.inr (Or.inl z)))])⟩⟩
        · skip
          unfold f_Mod_substitute_158
          refine l_gI (e := (vI h v0 41)) rfl ?_
          refine l_gO ?_
          refine j_Mod_wrong (v0 := v0) (v1 := (vI h v0 41)) T kv0 ?_
          intro hr3i33_34 Thr3i33_34 gr3i33_34_0 fr3i33_34_I fr3i33_34_A
          try dsimp only
          refine qi_some ?_
          exact ⟨Thr3i33_34, Or.inr ⟨(by show ¬ vI hr3i33_34 v0 48 = 0; rw [show vI hr3i33_34 v0 48 = 1 from (by rw [gr3i33_34_0])] <;> (first | assumption | decide)), (by show ¬ x_end (x_lk t n (x_fl t n (vI h v0 41) (vA h (v0 + 17) v1) (vA h (v0 + 18) v1) (vA h (v0 + 14) v1))) = true; rw [x_fl_no (fun z => absurd (z.1.symm.trans cc18) (by decide)) (fun z => absurd z.2 cc24) (fun z => absurd z.2.1 (by rw [cc18]; decide)), cc18]; decide), (fun a k na => by rw [fr3i33_34_I a k (fun z => na (z.elim (fun z => Or.inr (Or.inl z)) (fun z => Or.inr (Or.inr (z)))))]), (fun a na => by rw [fr3i33_34_A a (by omega)])⟩⟩
      · skip
        refine j_Mod_in (v0 := (x_lk t n (vI h v0 41))) (v1 := (49 : Int32)) (v2 := (57 : Int32)) T (fun _ g1r7_35_0 => ?_) (fun _ g0r7_35_0 => ?_)
        · try dsimp only
          refine qi_if (fun cc36 => absurd cc36 (by decide)) (fun _ => ?_)
          unfold f_Mod_substitute_107
          refine qi_if (fun cc38 => absurd cc38 (by decide)) (fun _ => ?_)
          refine qi_if (fun cc39 => absurd cc39 cc3) (fun _ => ?_)
          refine qi_if (fun cc40 => absurd cc40 cc18) (fun _ => ?_)
          refine l_gR T (d_Mo_19 kv0) ?_
          refine l_aI (e := (vA h (v0 + 14) v1)) (fun _ => rfl) (fun ix41 => ?_)
          refine qi_if (fun cc42 => ?_) (fun cc42 => ?_)
          · skip
            unfold f_Mod_substitute_167
            refine qi_if (fun cc44 => absurd cc44 cc3) (fun _ => ?_)
            refine qi_if (fun cc45 => absurd cc45 cc18) (fun _ => ?_)
            refine l_gR T (d_Mo_19 kv0) ?_
            refine l_uI T ?_
            intro h4i43_46 Th4i43_46 jh4i43_46 ih4i43_46 ah4i43_46 bh4i43_46
            unfold f_Mod_substitute_209
            refine l_gI (e := (vI h v0 41)) (by rw [ih4i43_46 v0 41]) ?_
            refine l_sI Th4i43_46 (q_Mk kv0) (by decide) rfl ?_
            intro h2i47_48 Th2i47_48 ih2i47_48 ah2i47_48
            refine qi_mono (ih v0 v1 (1 : Int32) h2i47_48 Th2i47_48 kv0 (by show ∀ j, 0 ≤ j → j < n → vA h2i47_48 (v0 + 1) j = t j; rw [show vA h2i47_48 (v0 + 1) = vA h (v0 + 1) from (by rw [ah2i47_48 (v0 + 1), bh4i43_46 (v0 + 1) (by omega)])] <;> (first | assumption | with_reducible rfl | grind)) (by show vI h2i47_48 v0 3 = n; rw [show vI h2i47_48 v0 3 = (vI h v0 3) from (by rw [ih2i47_48 v0 3, if_neg (fun z => absurd z.2 (by decide)), ih4i43_46 v0 3])] <;> (first | assumption | with_reducible rfl | grind)) n1 tp (by show vI h2i47_48 v0 48 = 0; rw [show vI h2i47_48 v0 48 = (vI h v0 48) from (by rw [ih2i47_48 v0 48, if_neg (fun z => absurd z.2 (by decide)), ih4i43_46 v0 48])] <;> (first | assumption | with_reducible rfl | grind)) (by show 0 ≤ vI h2i47_48 v0 41; rw [show vI h2i47_48 v0 41 = ((vI h v0 41) + 1) from (by rw [ih2i47_48 v0 41, if_pos ⟨rfl, rfl⟩])] <;> (exact x_0le a0 (x_lp1 n2 (t := t) (x_ned g1r7_35_0)))) (by show ¬ (1 : Int32) = 0; decide) (by show 0 ≤ (vA h2i47_48 (v0 + 14) v1); rw [show vA h2i47_48 (v0 + 14) = vA h4i43_46 (v0 + 14) from (by rw [ah2i47_48 (v0 + 14)]), show vA h4i43_46 (v0 + 14) v1 = ((x_lk t n (vI h v0 41)) - 48) from (by rw [ah4i43_46 (v0 + 14) v1 jh4i43_46, if_pos ⟨rfl, rfl⟩])] <;> (exact x_dg g1r7_35_0))) ?_
            rintro hrz49_50 ⟨Thrz49_50, ⟨g1rz49_50_0, g1rz49_50_1, f1rz49_50_I, f1rz49_50_A⟩ | ⟨g0rz49_50_0, g0rz49_50_1, f0rz49_50_I, f0rz49_50_A⟩⟩
            · try dsimp only at *
              rw [show vI h2i47_48 v0 41 = ((vI h v0 41) + 1) from (by rw [ih2i47_48 v0 41, if_pos ⟨rfl, rfl⟩]), show vA h2i47_48 (v0 + 17) = vA h (v0 + 17) from (by rw [ah2i47_48 (v0 + 17), bh4i43_46 (v0 + 17) (by omega)]), show vA h2i47_48 (v0 + 18) = vA h (v0 + 18) from (by rw [ah2i47_48 (v0 + 18), bh4i43_46 (v0 + 18) (by omega)]), show vA h2i47_48 (v0 + 14) = vA h4i43_46 (v0 + 14) from (by rw [ah2i47_48 (v0 + 14)]), show vA h4i43_46 (v0 + 14) v1 = ((x_lk t n (vI h v0 41)) - 48) from (by rw [ah4i43_46 (v0 + 14) v1 jh4i43_46, if_pos ⟨rfl, rfl⟩])] at g1rz49_50_1
              exact ⟨Thrz49_50, Or.inl ⟨(by show vI hrz49_50 v0 48 = 0; rw [show vI hrz49_50 v0 48 = 0 from (by rw [g1rz49_50_0])] <;> (first | assumption | with_reducible rfl | grind)), (by show vI hrz49_50 v0 41 = x_fl t n (vI h v0 41) (vA h (v0 + 17) v1) (vA h (v0 + 18) v1) (vA h (v0 + 14) v1); rw [show vI hrz49_50 v0 41 = (x_fl t n ((vI h v0 41) + 1) (vA h (v0 + 17) v1) (vA h (v0 + 18) v1) ((x_lk t n (vI h v0 41)) - 48)) from (by rw [g1rz49_50_1])] <;> (rw [(x_flg ⟨wz, cc42⟩), x_fl_d n2 g1r7_35_0])), (fun a k na => by rw [f1rz49_50_I a k (fun z => na (z.elim (fun z => Or.inl z) (fun z => z.elim (fun z => Or.inr (Or.inl z)) (fun z => Or.inr (Or.inr (z)))))), ih2i47_48 a k, if_neg (fun z => na (Or.inl z)), ih4i43_46 a k]), (fun a na => by rw [f1rz49_50_A a (fun z => na (z.elim (fun z => Or.inl z) (fun z => z.elim (fun z => Or.inr (Or.inl z)) (fun z => Or.inr (Or.inr (z)))))), ah2i47_48 a, bh4i43_46 a (fun z => na (Or.inr (Or.inr (z))))])⟩⟩
            · try dsimp only at *
              rw [show vI h2i47_48 v0 41 = ((vI h v0 41) + 1) from (by rw [ih2i47_48 v0 41, if_pos ⟨rfl, rfl⟩]), show vA h2i47_48 (v0 + 17) = vA h (v0 + 17) from (by rw [ah2i47_48 (v0 + 17), bh4i43_46 (v0 + 17) (by omega)]), show vA h2i47_48 (v0 + 18) = vA h (v0 + 18) from (by rw [ah2i47_48 (v0 + 18), bh4i43_46 (v0 + 18) (by omega)]), show vA h2i47_48 (v0 + 14) = vA h4i43_46 (v0 + 14) from (by rw [ah2i47_48 (v0 + 14)]), show vA h4i43_46 (v0 + 14) v1 = ((x_lk t n (vI h v0 41)) - 48) from (by rw [ah4i43_46 (v0 + 14) v1 jh4i43_46, if_pos ⟨rfl, rfl⟩])] at g0rz49_50_1
              exact ⟨Thrz49_50, Or.inr ⟨g0rz49_50_0, (by show ¬ x_end (x_lk t n (x_fl t n (vI h v0 41) (vA h (v0 + 17) v1) (vA h (v0 + 18) v1) (vA h (v0 + 14) v1))) = true; rw [(x_flg ⟨wz, cc42⟩), x_fl_d n2 g1r7_35_0]; exact g0rz49_50_1), (fun a k na => by rw [f0rz49_50_I a k (fun z => na (z.elim (fun z => Or.inl z) (fun z => z.elim (fun z => Or.inr (Or.inl z)) (fun z => Or.inr (Or.inr (z)))))), ih2i47_48 a k, if_neg (fun z => na (Or.inl z)), ih4i43_46 a k]), (fun a na => by rw [f0rz49_50_A a (fun z => na (z.elim (fun z => Or.inl z) (fun z => z.elim (fun z => Or.inr (Or.inl z)) (fun z => Or.inr (Or.inr (z)))))), ah2i47_48 a, bh4i43_46 a (fun z => na (Or.inr (Or.inr (z))))])⟩⟩
          · skip
            unfold f_Mod_substitute_158
            refine l_gI (e := (vI h v0 41)) rfl ?_
            refine l_gO ?_
            refine j_Mod_wrong (v0 := v0) (v1 := (vI h v0 41)) T kv0 ?_
            intro hr3i51_52 Thr3i51_52 gr3i51_52_0 fr3i51_52_I fr3i51_52_A
            try dsimp only
            refine qi_some ?_
            exact ⟨Thr3i51_52, Or.inr ⟨(by show ¬ vI hr3i51_52 v0 48 = 0; rw [show vI hr3i51_52 v0 48 = 1 from (by rw [gr3i51_52_0])] <;> (first | assumption | decide)), (by show ¬ x_end (x_lk t n (x_fl t n (vI h v0 41) (vA h (v0 + 17) v1) (vA h (v0 + 18) v1) (vA h (v0 + 14) v1))) = true; rw [x_fl_no (fun z => absurd z.1 cc3) (fun z => absurd z.1 cc18) (fun z => absurd z.2.2 (fun w => cc42 (by rw [w]; decide)))]; exact x_endd g1r7_35_0), (fun a k na => by rw [fr3i51_52_I a k (fun z => na (z.elim (fun z => Or.inr (Or.inl z)) (fun z => Or.inr (Or.inr (z)))))]), (fun a na => by rw [fr3i51_52_A a (by omega)])⟩⟩
        · try dsimp only
          refine qi_if (fun _ => ?_) (fun cc53 => absurd (by decide) cc53)
          unfold f_Mod_substitute_107
          refine qi_if (fun _ => ?_) (fun cc55 => absurd (by decide) cc55)
          refine qi_some ?_
          exact ⟨T, Or.inl ⟨bd, (by show vI h v0 41 = x_fl t n (vI h v0 41) (vA h (v0 + 17) v1) (vA h (v0 + 18) v1) (vA h (v0 + 14) v1); exact (x_fl_no (fun z => absurd z.1 cc3) (fun z => absurd z.1 cc18) (fun z => absurd ⟨z.1, z.2.1⟩ g0r7_35_0)).symm), (fun a k na => by rfl), (fun a na => by rfl)⟩⟩
theorem j_Mod_substitute_70 {L : q_L} {π : Nat → Nat → Option Nat} {N : Nat} {t : Int32 → Int32} {n : Int32} {m9 : Nat} {h : z_H} {v0 : Nat} {v1 : Int32} {v2 : Int32} {β : Type} {f : z_H → Option β} {Q : β → Prop} (T : x_U L π h) (kv0 : q_M L π v0) (ht : ∀ j, 0 ≤ j → j < n → vA h (v0 + 1) j = t j) (hn : vI h v0 3 = n) (n1 : n ≤ 240) (tp : ∀ j, t j ≠ -1) (bd : vI h v0 48 = 0) (a0 : 0 ≤ vI h v0 41) (v21 : ¬ v2 = 0) (wz : 0 ≤ (vA h (v0 + 14) v1)) (H1 : ∀ h', x_U L π h' → (vI h' v0 48 = 0) → (vI h' v0 41 = x_fl t n (vI h v0 41) (vA h (v0 + 17) v1) (vA h (v0 + 18) v1) (vA h (v0 + 14) v1)) → (∀ a k, ¬ ((a = v0 ∧ k = 41) ∨ (a = v0 ∧ k = 5) ∨ (a = v0 ∧ k = 48)) → vI h' a k = vI h a k) → (∀ a, ¬ (a = (v0 + 17) ∨ a = (v0 + 18) ∨ a = (v0 + 14)) → vA h' a = vA h a) → qi (f h') Q) (H0 : ∀ h', x_U L π h' → (¬ vI h' v0 48 = 0) → (¬ x_end (x_lk t n (x_fl t n (vI h v0 41) (vA h (v0 + 17) v1) (vA h (v0 + 18) v1) (vA h (v0 + 14) v1))) = true) → (∀ a k, ¬ ((a = v0 ∧ k = 41) ∨ (a = v0 ∧ k = 5) ∨ (a = v0 ∧ k = 48)) → vI h' a k = vI h a k) → (∀ a, ¬ (a = (v0 + 17) ∨ a = (v0 + 18) ∨ a = (v0 + 14)) → vA h' a = vA h a) → qi (f h') Q) : qi (z_b (f_Mod_substitute_70 N m9 v0 v1 v2 h) f) Q := by
  refine qi_b (i_Mod_substitute_70 m9 v0 v1 v2 h  T kv0 ht hn n1 tp bd a0 v21 wz) ?_
  rintro hz ⟨Tz, ⟨g0, g1, g2, g3⟩ | ⟨g0, g1, g2, g3⟩⟩
  · exact H1 hz Tz g0 g1 g2 g3
  · exact H0 hz Tz g0 g1 g2 g3

theorem j_Mod_substitute_70z {L : q_L} {π : Nat → Nat → Option Nat} {N : Nat} {m9 : Nat} {h : z_H} {v0 : Nat} {v1 : Int32} {v2 : Int32} {β : Type} {f : z_H → Option β} {Q : β → Prop} (T : x_U L π h) (kv0 : q_M L π v0) (z2 : v2 = 0) (H : ∀ h', x_U L π h' → (∀ a k, ¬ (a < a) → vI h' a k = vI h a k) → (∀ a, ¬ (a < a) → vA h' a = vA h a) → qi (f h') Q) : qi (z_b (f_Mod_substitute_70 N m9 v0 v1 v2 h) f) Q := by
  subst z2
  refine qi_b (P := fun r => r = h) ?_ ?_
  · intro r e
    cases m9 with
    | zero => rw [f_Mod_substitute_70] at e; cases e
    | succ m => rw [f_Mod_substitute_70, if_pos rfl] at e; exact (Option.some.inj e).symm
  · intro r e
    subst e
    exact H r T (fun _ _ _ => rfl) (fun _ _ => rfl)
