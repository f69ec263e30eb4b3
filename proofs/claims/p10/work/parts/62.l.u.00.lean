theorem x_flg {w : Int32} (h : 0 ≤ w ∧ w ≤ 0) : w = 0 := Int32.le_antisymm h.2 h.1
theorem x_dg {c : Int32} (h : 49 ≤ c ∧ c ≤ 57) : 0 ≤ c - 48 := by
  obtain ⟨h1, h2⟩ := h
  lia
theorem x_ned {c : Int32} (h : 49 ≤ c ∧ c ≤ 57) : ¬ c = -1 := fun z => absurd h.1 (by rw [z]; decide)
theorem x_endd {c : Int32} (h : 49 ≤ c ∧ c ≤ 57) : ¬ x_end c = true := x_end0 (x_ned h) (fun z => absurd h.1 (by rw [z]; decide)) (fun z => absurd h.1 (by rw [z]; decide)) (fun z => absurd h.2 (by rw [z]; decide)) (fun z => absurd h.2 (by rw [z]; decide))
theorem x_subp {t : Int32 → Int32} {n a : Int32} {r : Int32 × Int32} (n2 : n ≤ 1000) (c : x_lk t n a = 47) (e : x_pattern t n (a + 1) = some r) : a < r.1 := by
  obtain ⟨b0, b9, b1, b2, b3, b4⟩ := x_b ⟨(x_lk_in c (by decide)).1, n2⟩
  have z := x_pattern_lt (by omega) e
  exact Int32.lt_iff_toInt_lt.mpr (by omega)
theorem x_rg {b g : Int32} (g3 : 0 ≤ g ∧ g ≤ 3) (h : 49 ≤ b ∧ b ≤ 51) (h2 : ¬ g < b - 48) : 49 ≤ b ∧ b ≤ 48 + g := by
  obtain ⟨g0, g3⟩ := g3
  obtain ⟨h0, h1⟩ := h
  refine ⟨h0, ?_⟩
  lia
theorem x_rn {b g : Int32} (g3 : 0 ≤ g ∧ g ≤ 3) (h : ¬ (49 ≤ b ∧ b ≤ 51) ∨ g < b - 48) (h1 : ¬ b = 38) (h2 : ¬ b = 47) (h3 : ¬ b = 92) (h4 : ¬ b = 110) : ¬ ((49 ≤ b ∧ b ≤ 48 + g) ∨ b = 38 ∨ b = 47 ∨ b = 92 ∨ b = 110) := by
  obtain ⟨g0, g3⟩ := g3
  rintro (z | z | z | z | z)
  · obtain ⟨z1, z2⟩ := z
    rcases h with h | h
    · exact h ⟨z1, by lia⟩
    · lia
  · exact h1 z
  · exact h2 z
  · exact h3 z
  · exact h4 z
set_option maxHeartbeats 4000000 in
theorem i_Mod_label {L : q_L} {π : Nat → Nat → Option Nat} {N : Nat} {t : Int32 → Int32} {n : Int32} {h : z_H} {v0 : Nat} {v1 : Int32} {v2 : Int32} (T : x_U L π h) (kv0 : q_M L π v0) (ht : ∀ j, 0 ≤ j → j < n → vA h (v0 + 1) j = t j) (hn : vI h v0 3 = n) (n1 : n ≤ 240) (tp : ∀ j, t j ≠ -1) (bd : vI h v0 48 = 0) (a0 : 0 ≤ vI h v0 41) : qi (f_Mod_label N v0 v1 v2 h) (fun r => x_U L π r ∧ (((vI r v0 48 = 0) ∧ (vI r v0 41 = vI h v0 41 + 1) ∧ (¬ v2 = 0) ∧ (97 ≤ x_lk t n (vI h v0 41) ∧ x_lk t n (vI h v0 41) ≤ 122) ∧ (vA h (v0 + 34) (x_lk t n (vI h v0 41) - 97) < 0) ∧ (x_end (x_lk t n (vI h v0 41 + 1)) = true) ∧ (∀ j, 0 ≤ j → vA r (v0 + 34) j = if j = x_lk t n (vI h v0 41) - 97 then v1 else vA h (v0 + 34) j) ∧ (∀ a k, ¬ ((a = v0 ∧ k = 5) ∨ (a = v0 ∧ k = 48) ∨ (a = v0 ∧ k = 41)) → vI r a k = vI h a k) ∧ (∀ a, ¬ (a = (v0 + 34)) → vA r a = vA h a)) ∨ ((¬ vI r v0 48 = 0) ∧ (v2 = 0 ∨ ¬ (97 ≤ x_lk t n (vI h v0 41) ∧ x_lk t n (vI h v0 41) ≤ 122) ∨ ¬ vA h (v0 + 34) (x_lk t n (vI h v0 41) - 97) < 0 ∨ ¬ x_end (x_lk t n (vI h v0 41 + 1)) = true) ∧ (∀ a k, ¬ ((a = v0 ∧ k = 5) ∨ (a = v0 ∧ k = 48) ∨ (a = v0 ∧ k = 41)) → vI r a k = vI h a k) ∧ (∀ a, ¬ (a = (v0 + 34)) → vA r a = vA h a)))) := by
  have n2 : n ≤ 1000 := Int32.le_trans n1 (by decide)
  unfold f_Mod_label
  refine l_gO ?_
  refine j_Mod_here (v0 := v0) (t := t) (n := n) (e := (x_lk t n (vI h v0 41))) T kv0 ht hn rfl ?_
  try dsimp only
  refine qi_bs ?_
  refine qi_if (fun cc2 => ?_) (fun cc2 => ?_)
  · skip
    refine l_gI (e := (vI h v0 41)) rfl ?_
    refine l_gO ?_
    refine j_Mod_wrong (v0 := v0) (v1 := ((vI h v0 41) - 1)) T kv0 ?_
    intro hr22_3 Thr22_3 gr22_3_0 fr22_3_I fr22_3_A
    try dsimp only
    refine qi_some ?_
    exact ⟨Thr22_3, Or.inr ⟨(by show ¬ vI hr22_3 v0 48 = 0; rw [show vI hr22_3 v0 48 = 1 from (by rw [gr22_3_0])] <;> (first | assumption | decide)), (by show v2 = 0 ∨ ¬ (97 ≤ x_lk t n (vI h v0 41) ∧ x_lk t n (vI h v0 41) ≤ 122) ∨ ¬ vA h (v0 + 34) (x_lk t n (vI h v0 41) - 97) < 0 ∨ ¬ x_end (x_lk t n (vI h v0 41 + 1)) = true; exact Or.inl (by assumption)), (fun a k na => by rw [fr22_3_I a k (fun z => na (z.elim (fun z => Or.inl z) (fun z => Or.inr (Or.inl z))))]), (fun a na => by rw [fr22_3_A a (by omega)])⟩⟩
  · skip
    refine j_Mod_in (v0 := (x_lk t n (vI h v0 41))) (v1 := (97 : Int32)) (v2 := (122 : Int32)) T (fun _ g1r5_4_0 => ?_) (fun _ g0r5_4_0 => ?_)
    · try dsimp only
      refine qi_if (fun cc5 => absurd cc5 (by decide)) (fun _ => ?_)
      refine l_gR T (d_Mo_39 kv0) ?_
      refine l_aI (e := (vA h (v0 + 34) ((x_lk t n (vI h v0 41)) - 97))) (fun _ => rfl) (fun ix6 => ?_)
      refine qi_if (fun cc7 => ?_) (fun cc7 => ?_)
      · skip
        refine l_gR T (d_Mo_39 kv0) ?_
        refine l_uI T ?_
        intro h11_8 Th11_8 jh11_8 ih11_8 ah11_8 bh11_8
        refine l_gI (e := (vI h v0 41)) (by rw [ih11_8 v0 41]) ?_
        refine l_sI Th11_8 (q_Mk kv0) (by decide) rfl ?_
        intro h13_9 Th13_9 ih13_9 ah13_9
        unfold f_Mod_label_97
        refine l_gO ?_
        refine j_Mod_closed (v0 := v0) (t := t) (n := n) Th13_9 kv0 (by show ∀ j, 0 ≤ j → j < n → vA h13_9 (v0 + 1) j = t j; rw [show vA h13_9 (v0 + 1) = vA h (v0 + 1) from (by rw [ah13_9 (v0 + 1), bh11_8 (v0 + 1) (by omega)])] <;> (first | assumption | with_reducible rfl | grind)) (by show vI h13_9 v0 3 = n; rw [show vI h13_9 v0 3 = (vI h v0 3) from (by rw [ih13_9 v0 3, if_neg (fun z => absurd z.2 (by decide)), ih11_8 v0 3])] <;> (first | assumption | with_reducible rfl | grind)) ?_ ?_
        · intro hr2i10_11 Thr2i10_11 g1r2i10_11_0 g1r2i10_11_1 g1r2i10_11_2 f1r2i10_11_I f1r2i10_11_A
          try dsimp only
          rw [show vI h13_9 v0 48 = (vI h v0 48) from (by rw [ih13_9 v0 48, if_neg (fun z => absurd z.2 (by decide)), ih11_8 v0 48])] at g1r2i10_11_1
          rw [show vI h13_9 v0 41 = ((vI h v0 41) + 1) from (by rw [ih13_9 v0 41, if_pos ⟨rfl, rfl⟩])] at g1r2i10_11_2
          refine qi_some ?_
          exact ⟨Thr2i10_11, Or.inl ⟨(by show vI hr2i10_11 v0 48 = 0; rw [show vI hr2i10_11 v0 48 = 0 from (by rw [g1r2i10_11_0])] <;> (first | assumption | with_reducible rfl | grind)), (by show vI hr2i10_11 v0 41 = vI h v0 41 + 1; rw [show vI hr2i10_11 v0 41 = ((vI h v0 41) + 1) from (by rw [f1r2i10_11_I v0 41 (by omega), ih13_9 v0 41, if_pos ⟨rfl, rfl⟩])] <;> (first | assumption | with_reducible rfl | grind)), cc2, (by show 97 ≤ x_lk t n (vI h v0 41) ∧ x_lk t n (vI h v0 41) ≤ 122; first | assumption | with_reducible rfl | grind), (by show vA h (v0 + 34) (x_lk t n (vI h v0 41) - 97) < 0; first | assumption | with_reducible rfl | grind), (by show x_end (x_lk t n (vI h v0 41 + 1)) = true; first | assumption | with_reducible rfl | grind), (fun j j0 => by rw [f1r2i10_11_A (v0 + 34) (by omega), ah13_9 (v0 + 34), ah11_8 (v0 + 34) j j0]; by_cases q : j = x_lk t n (vI h v0 41) - 97; (rw [if_pos ⟨rfl, q⟩, if_pos q]); (rw [if_neg (fun z => q z.2), if_neg q])), (fun a k na => by rw [f1r2i10_11_I a k (fun z => na (z.elim (fun z => Or.inl z) (fun z => Or.inr (Or.inl z)))), ih13_9 a k, if_neg (fun z => na (Or.inr (Or.inr (z)))), ih11_8 a k]), (fun a na => by rw [f1r2i10_11_A a (by omega), ah13_9 a, bh11_8 a (fun z => na (z))])⟩⟩
        · intro hr2i10_11 Thr2i10_11 g0r2i10_11_0 g0r2i10_11_1 f0r2i10_11_I f0r2i10_11_A
          try dsimp only
          rw [show vI h13_9 v0 48 = (vI h v0 48) from (by rw [ih13_9 v0 48, if_neg (fun z => absurd z.2 (by decide)), ih11_8 v0 48]), show vI h13_9 v0 41 = ((vI h v0 41) + 1) from (by rw [ih13_9 v0 41, if_pos ⟨rfl, rfl⟩])] at g0r2i10_11_1
          refine qi_some ?_
          exact ⟨Thr2i10_11, Or.inr ⟨g0r2i10_11_0, (by show v2 = 0 ∨ ¬ (97 ≤ x_lk t n (vI h v0 41) ∧ x_lk t n (vI h v0 41) ≤ 122) ∨ ¬ vA h (v0 + 34) (x_lk t n (vI h v0 41) - 97) < 0 ∨ ¬ x_end (x_lk t n (vI h v0 41 + 1)) = true; exact Or.inr (Or.inr (Or.inr (g0r2i10_11_1.resolve_left (fun z => z (by first | rfl | assumption)))))), (fun a k na => by rw [f0r2i10_11_I a k (fun z => na (z.elim (fun z => Or.inl z) (fun z => Or.inr (Or.inl z)))), ih13_9 a k, if_neg (fun z => na (Or.inr (Or.inr (z)))), ih11_8 a k]), (fun a na => by rw [f0r2i10_11_A a (by omega), ah13_9 a, bh11_8 a (fun z => na (z))])⟩⟩
      · skip
        refine l_gI (e := (vI h v0 41)) rfl ?_
        refine l_gO ?_
        refine j_Mod_wrong (v0 := v0) (v1 := (vI h v0 41)) T kv0 ?_
        intro hr16_12 Thr16_12 gr16_12_0 fr16_12_I fr16_12_A
        try dsimp only
        unfold f_Mod_label_97
        refine l_gO ?_
        refine j_Mod_closed (v0 := v0) (t := t) (n := n) Thr16_12 kv0 (by show ∀ j, 0 ≤ j → j < n → vA hr16_12 (v0 + 1) j = t j; rw [show vA hr16_12 (v0 + 1) = vA h (v0 + 1) from (by rw [fr16_12_A (v0 + 1) (by omega)])] <;> (first | assumption | with_reducible rfl | grind)) (by show vI hr16_12 v0 3 = n; rw [show vI hr16_12 v0 3 = (vI h v0 3) from (by rw [fr16_12_I v0 3 (by omega)])] <;> (first | assumption | with_reducible rfl | grind)) ?_ ?_
        · intro hr2i13_14 Thr2i13_14 g1r2i13_14_0 g1r2i13_14_1 g1r2i13_14_2 f1r2i13_14_I f1r2i13_14_A
          try dsimp only
          rw [show vI hr16_12 v0 48 = 1 from (by rw [gr16_12_0])] at g1r2i13_14_1
          rw [show vI hr16_12 v0 41 = (vI h v0 41) from (by rw [fr16_12_I v0 41 (by omega)])] at g1r2i13_14_2
          exact absurd g1r2i13_14_1 (by decide)
        · intro hr2i13_14 Thr2i13_14 g0r2i13_14_0 g0r2i13_14_1 f0r2i13_14_I f0r2i13_14_A
          try dsimp only
          rw [show vI hr16_12 v0 48 = 1 from (by rw [gr16_12_0]), show vI hr16_12 v0 41 = (vI h v0 41) from (by rw [fr16_12_I v0 41 (by omega)])] at g0r2i13_14_1
          refine qi_some ?_
          exact ⟨Thr2i13_14, Or.inr ⟨g0r2i13_14_0, (by show v2 = 0 ∨ ¬ (97 ≤ x_lk t n (vI h v0 41) ∧ x_lk t n (vI h v0 41) ≤ 122) ∨ ¬ vA h (v0 + 34) (x_lk t n (vI h v0 41) - 97) < 0 ∨ ¬ x_end (x_lk t n (vI h v0 41 + 1)) = true; exact Or.inr (Or.inr (Or.inl (by assumption)))), (fun a k na => by rw [f0r2i13_14_I a k (fun z => na (z.elim (fun z => Or.inl z) (fun z => Or.inr (Or.inl z)))), fr16_12_I a k (fun z => na (z.elim (fun z => Or.inl z) (fun z => Or.inr (Or.inl z))))]), (fun a na => by rw [f0r2i13_14_A a (by omega), fr16_12_A a (by omega)])⟩⟩
    · try dsimp only
      refine qi_if (fun _ => ?_) (fun cc15 => absurd (by decide) cc15)
      refine qi_if (fun cc16 => ?_) (fun cc16 => ?_)
      · skip
        refine l_gI (e := (vI h v0 3)) rfl ?_
        unfold f_Mod_label_48
        refine l_gO ?_
        refine j_Mod_wrong (v0 := v0) (v1 := (vI h v0 3)) T kv0 ?_
        intro hr2i17_18 Thr2i17_18 gr2i17_18_0 fr2i17_18_I fr2i17_18_A
        try dsimp only
        unfold f_Mod_label_97
        refine l_gO ?_
        refine j_Mod_closed (v0 := v0) (t := t) (n := n) Thr2i17_18 kv0 (by show ∀ j, 0 ≤ j → j < n → vA hr2i17_18 (v0 + 1) j = t j; rw [show vA hr2i17_18 (v0 + 1) = vA h (v0 + 1) from (by rw [fr2i17_18_A (v0 + 1) (by omega)])] <;> (first | assumption | with_reducible rfl | grind)) (by show vI hr2i17_18 v0 3 = n; rw [show vI hr2i17_18 v0 3 = (vI h v0 3) from (by rw [fr2i17_18_I v0 3 (by omega)])] <;> (first | assumption | with_reducible rfl | grind)) ?_ ?_
        · intro hr2i19_20 Thr2i19_20 g1r2i19_20_0 g1r2i19_20_1 g1r2i19_20_2 f1r2i19_20_I f1r2i19_20_A
          try dsimp only
          rw [show vI hr2i17_18 v0 48 = 1 from (by rw [gr2i17_18_0])] at g1r2i19_20_1
          rw [show vI hr2i17_18 v0 41 = (vI h v0 41) from (by rw [fr2i17_18_I v0 41 (by omega)])] at g1r2i19_20_2
          exact absurd g1r2i19_20_1 (by decide)
        · intro hr2i19_20 Thr2i19_20 g0r2i19_20_0 g0r2i19_20_1 f0r2i19_20_I f0r2i19_20_A
          try dsimp only
          rw [show vI hr2i17_18 v0 48 = 1 from (by rw [gr2i17_18_0]), show vI hr2i17_18 v0 41 = (vI h v0 41) from (by rw [fr2i17_18_I v0 41 (by omega)])] at g0r2i19_20_1
          refine qi_some ?_
          exact ⟨Thr2i19_20, Or.inr ⟨g0r2i19_20_0, (by show v2 = 0 ∨ ¬ (97 ≤ x_lk t n (vI h v0 41) ∧ x_lk t n (vI h v0 41) ≤ 122) ∨ ¬ vA h (v0 + 34) (x_lk t n (vI h v0 41) - 97) < 0 ∨ ¬ x_end (x_lk t n (vI h v0 41 + 1)) = true; exact Or.inr (Or.inl (by assumption))), (fun a k na => by rw [f0r2i19_20_I a k (fun z => na (z.elim (fun z => Or.inl z) (fun z => Or.inr (Or.inl z)))), fr2i17_18_I a k (fun z => na (z.elim (fun z => Or.inl z) (fun z => Or.inr (Or.inl z))))]), (fun a na => by rw [f0r2i19_20_A a (by omega), fr2i17_18_A a (by omega)])⟩⟩
      · skip
        refine l_gI (e := (vI h v0 41)) rfl ?_
        unfold f_Mod_label_48
        refine l_gO ?_
        refine j_Mod_wrong (v0 := v0) (v1 := (vI h v0 41)) T kv0 ?_
        intro hr2i21_22 Thr2i21_22 gr2i21_22_0 fr2i21_22_I fr2i21_22_A
        try dsimp only
        unfold f_Mod_label_97
        refine l_gO ?_
        refine j_Mod_closed (v0 := v0) (t := t) (n := n) Thr2i21_22 kv0 (by show ∀ j, 0 ≤ j → j < n → vA hr2i21_22 (v0 + 1) j = t j; rw [show vA hr2i21_22 (v0 + 1) = vA h (v0 + 1) from (by rw [fr2i21_22_A (v0 + 1) (by omega)])] <;> (first | assumption | with_reducible rfl | grind)) (by show vI hr2i21_22 v0 3 = n; rw [show vI hr2i21_22 v0 3 = (vI h v0 3) from (by rw [fr2i21_22_I v0 3 (by omega)])] <;> (first | assumption | with_reducible rfl | grind)) ?_ ?_
        · intro hr2i23_24 Thr2i23_24 g1r2i23_24_0 g1r2i23_24_1 g1r2i23_24_2 f1r2i23_24_I f1r2i23_24_A
          try dsimp only
          rw [show vI hr2i21_22 v0 48 = 1 from (by rw [gr2i21_22_0])] at g1r2i23_24_1
          rw [show vI hr2i21_22 v0 41 = (vI h v0 41) from (by rw [fr2i21_22_I v0 41 (by omega)])] at g1r2i23_24_2
          exact absurd g1r2i23_24_1 (by decide)
        · intro hr2i23_24 Thr2i23_24 g0r2i23_24_0 g0r2i23_24_1 f0r2i23_24_I f0r2i23_24_A
          try dsimp only
          rw [show vI hr2i21_22 v0 48 = 1 from (by rw [gr2i21_22_0]), show vI hr2i21_22 v0 41 = (vI h v0 41) from (by rw [fr2i21_22_I v0 41 (by omega)])] at g0r2i23_24_1
          refine qi_some ?_
          exact ⟨Thr2i23_24, Or.inr ⟨g0r2i23_24_0, (by show v2 = 0 ∨ ¬ (97 ≤ x_lk t n (vI h v0 41) ∧ x_lk t n (vI h v0 41) ≤ 122) ∨ ¬ vA h (v0 + 34) (x_lk t n (vI h v0 41) - 97) < 0 ∨ ¬ x_end (x_lk t n (vI h v0 41 + 1)) = true; exact Or.inr (Or.inl (by assumption))), (fun a k na => by rw [f0r2i23_24_I a k (fun z => na (z.elim (fun z => Or.inl z) (fun z => Or.inr (Or.inl z)))), fr2i21_22_I a k (fun z => na (z.elim (fun z => Or.inl z) (fun z => Or.inr (Or.inl z))))]), (fun a na => by rw [f0r2i23_24_A a (by omega), fr2i21_22_A a (by omega)])⟩⟩
theorem j_Mod_label {L : q_L} {π : Nat → Nat → Option Nat} {N : Nat} {t : Int32 → Int32} {n : Int32} {h : z_H} {v0 : Nat} {v1 : Int32} {v2 : Int32} {β : Type} {f : z_H → Option β} {Q : β → Prop} (T : x_U L π h) (kv0 : q_M L π v0) (ht : ∀ j, 0 ≤ j → j < n → vA h (v0 + 1) j = t j) (hn : vI h v0 3 = n) (n1 : n ≤ 240) (tp : ∀ j, t j ≠ -1) (bd : vI h v0 48 = 0) (a0 : 0 ≤ vI h v0 41) (H1 : ∀ h', x_U L π h' → (vI h' v0 48 = 0) → (vI h' v0 41 = vI h v0 41 + 1) → (¬ v2 = 0) → (97 ≤ x_lk t n (vI h v0 41) ∧ x_lk t n (vI h v0 41) ≤ 122) → (vA h (v0 + 34) (x_lk t n (vI h v0 41) - 97) < 0) → (x_end (x_lk t n (vI h v0 41 + 1)) = true) → (∀ j, 0 ≤ j → vA h' (v0 + 34) j = if j = x_lk t n (vI h v0 41) - 97 then v1 else vA h (v0 + 34) j) → (∀ a k, ¬ ((a = v0 ∧ k = 5) ∨ (a = v0 ∧ k = 48) ∨ (a = v0 ∧ k = 41)) → vI h' a k = vI h a k) → (∀ a, ¬ (a = (v0 + 34)) → vA h' a = vA h a) → qi (f h') Q) (H0 : ∀ h', x_U L π h' → (¬ vI h' v0 48 = 0) → (v2 = 0 ∨ ¬ (97 ≤ x_lk t n (vI h v0 41) ∧ x_lk t n (vI h v0 41) ≤ 122) ∨ ¬ vA h (v0 + 34) (x_lk t n (vI h v0 41) - 97) < 0 ∨ ¬ x_end (x_lk t n (vI h v0 41 + 1)) = true) → (∀ a k, ¬ ((a = v0 ∧ k = 5) ∨ (a = v0 ∧ k = 48) ∨ (a = v0 ∧ k = 41)) → vI h' a k = vI h a k) → (∀ a, ¬ (a = (v0 + 34)) → vA h' a = vA h a) → qi (f h') Q) : qi (z_b (f_Mod_label N v0 v1 v2 h) f) Q := by
  refine qi_b (i_Mod_label  T kv0 ht hn n1 tp bd a0) ?_
  rintro hz ⟨Tz, ⟨g0, g1, g2, g3, g4, g5, g6, g7, g8⟩ | ⟨g0, g1, g2, g3⟩⟩
  · exact H1 hz Tz g0 g1 g2 g3 g4 g5 g6 g7 g8
  · exact H0 hz Tz g0 g1 g2 g3

set_option maxHeartbeats 4000000 in
theorem i_Mod_branch {L : q_L} {π : Nat → Nat → Option Nat} {N : Nat} {t : Int32 → Int32} {n : Int32} {h : z_H} {v0 : Nat} {v1 : Int32} (T : x_U L π h) (kv0 : q_M L π v0) (ht : ∀ j, 0 ≤ j → j < n → vA h (v0 + 1) j = t j) (hn : vI h v0 3 = n) (n1 : n ≤ 240) (tp : ∀ j, t j ≠ -1) (bd : vI h v0 48 = 0) (a0 : 0 ≤ vI h v0 41) : qi (f_Mod_branch N v0 v1 h) (fun r => x_U L π r ∧ (((vI r v0 48 = 0) ∧ (vI r v0 41 = (if 97 ≤ x_lk t n (vI h v0 41) ∧ x_lk t n (vI h v0 41) ≤ 122 then vI h v0 41 + 1 else vI h v0 41)) ∧ (x_end (x_lk t n (if 97 ≤ x_lk t n (vI h v0 41) ∧ x_lk t n (vI h v0 41) ≤ 122 then vI h v0 41 + 1 else vI h v0 41)) = true) ∧ (vA r (v0 + 13) v1 = (if 97 ≤ x_lk t n (vI h v0 41) ∧ x_lk t n (vI h v0 41) ≤ 122 then x_lk t n (vI h v0 41) - 97 else -1)) ∧ (∀ j, 0 ≤ j → ¬ j = v1 → vA r (v0 + 13) j = vA h (v0 + 13) j) ∧ (∀ a k, ¬ ((a = v0 ∧ k = 41) ∨ (a = v0 ∧ k = 5) ∨ (a = v0 ∧ k = 48)) → vI r a k = vI h a k) ∧ (∀ a, ¬ (a = (v0 + 13) ∨ a = (v0 + 15)) → vA r a = vA h a)) ∨ ((¬ vI r v0 48 = 0) ∧ (¬ x_end (x_lk t n (if 97 ≤ x_lk t n (vI h v0 41) ∧ x_lk t n (vI h v0 41) ≤ 122 then vI h v0 41 + 1 else vI h v0 41)) = true) ∧ (∀ a k, ¬ ((a = v0 ∧ k = 41) ∨ (a = v0 ∧ k = 5) ∨ (a = v0 ∧ k = 48)) → vI r a k = vI h a k) ∧ (∀ a, ¬ (a = (v0 + 13) ∨ a = (v0 + 15)) → vA r a = vA h a)))) := by
  have n2 : n ≤ 1000 := Int32.le_trans n1 (by decide)
  unfold f_Mod_branch
  refine l_gR T (d_Mo_18 kv0) ?_
  refine l_uI T ?_
  intro h2_1 Th2_1 jh2_1 ih2_1 ah2_1 bh2_1
  refine l_gR Th2_1 (d_Mo_20 kv0) ?_
  refine l_gI (e := (vI h v0 41)) (by rw [ih2_1 v0 41]) ?_
  refine l_uI Th2_1 ?_
  intro h5_2 Th5_2 jh5_2 ih5_2 ah5_2 bh5_2
  refine l_gO ?_
  refine j_Mod_here (v0 := v0) (t := t) (n := n) (e := (x_lk t n (vI h v0 41))) Th5_2 kv0 (by show ∀ j, 0 ≤ j → j < n → vA h5_2 (v0 + 1) j = t j; rw [show vA h5_2 (v0 + 1) = vA h (v0 + 1) from (by rw [bh5_2 (v0 + 1) (by omega), bh2_1 (v0 + 1) (by omega)])] <;> (first | assumption | with_reducible rfl | grind)) (by show vI h5_2 v0 3 = n; rw [show vI h5_2 v0 3 = (vI h v0 3) from (by rw [ih5_2 v0 3, ih2_1 v0 3])] <;> (first | assumption | with_reducible rfl | grind)) (by rw [show vI h5_2 v0 41 = (vI h v0 41) from (by rw [ih5_2 v0 41, ih2_1 v0 41])]) ?_
  try dsimp only
  refine j_Mod_in (v0 := ((x_lk t n (vI h v0 41)))) (v1 := (97 : Int32)) (v2 := (122 : Int32)) Th5_2 (fun _ g1r8_4_0 => ?_) (fun _ g0r8_4_0 => ?_)
  · try dsimp only
    refine qi_if (fun cc5 => absurd cc5 (by decide)) (fun _ => ?_)
    refine l_gR Th5_2 (d_Mo_18 kv0) ?_
    refine l_gO ?_
    refine j_Mod_here (v0 := v0) (t := t) (n := n) (e := (x_lk t n (vI h v0 41))) Th5_2 kv0 (by show ∀ j, 0 ≤ j → j < n → vA h5_2 (v0 + 1) j = t j; rw [show vA h5_2 (v0 + 1) = vA h (v0 + 1) from (by rw [bh5_2 (v0 + 1) (by omega), bh2_1 (v0 + 1) (by omega)])] <;> (first | assumption | with_reducible rfl | grind)) (by show vI h5_2 v0 3 = n; rw [show vI h5_2 v0 3 = (vI h v0 3) from (by rw [ih5_2 v0 3, ih2_1 v0 3])] <;> (first | assumption | with_reducible rfl | grind)) (by rw [show vI h5_2 v0 41 = (vI h v0 41) from (by rw [ih5_2 v0 41, ih2_1 v0 41])]) ?_
    try dsimp only
    refine l_uI Th5_2 ?_
    intro h13_7 Th13_7 jh13_7 ih13_7 ah13_7 bh13_7
    refine l_gI (e := (vI h v0 41)) (by rw [ih13_7 v0 41, ih5_2 v0 41, ih2_1 v0 41]) ?_
    refine l_sI Th13_7 (q_Mk kv0) (by decide) rfl ?_
    intro h15_8 Th15_8 ih15_8 ah15_8
    unfold f_Mod_branch_56
    refine l_gO ?_
    refine j_Mod_closed (v0 := v0) (t := t) (n := n) Th15_8 kv0 (by show ∀ j, 0 ≤ j → j < n → vA h15_8 (v0 + 1) j = t j; rw [show vA h15_8 (v0 + 1) = vA h (v0 + 1) from (by rw [ah15_8 (v0 + 1), bh13_7 (v0 + 1) (by omega), bh5_2 (v0 + 1) (by omega), bh2_1 (v0 + 1) (by omega)])] <;> (first | assumption | with_reducible rfl | grind)) (by show vI h15_8 v0 3 = n; rw [show vI h15_8 v0 3 = (vI h v0 3) from (by rw [ih15_8 v0 3, if_neg (fun z => absurd z.2 (by decide)), ih13_7 v0 3, ih5_2 v0 3, ih2_1 v0 3])] <;> (first | assumption | with_reducible rfl | grind)) ?_ ?_
    · intro hr2i9_10 Thr2i9_10 g1r2i9_10_0 g1r2i9_10_1 g1r2i9_10_2 f1r2i9_10_I f1r2i9_10_A
      try dsimp only
      rw [show vI h15_8 v0 48 = (vI h v0 48) from (by rw [ih15_8 v0 48, if_neg (fun z => absurd z.2 (by decide)), ih13_7 v0 48, ih5_2 v0 48, ih2_1 v0 48])] at g1r2i9_10_1
      rw [show vI h15_8 v0 41 = ((vI h v0 41) + 1) from (by rw [ih15_8 v0 41, if_pos ⟨rfl, rfl⟩])] at g1r2i9_10_2
      refine qi_some ?_
      exact ⟨Thr2i9_10, Or.inl ⟨(by show vI hr2i9_10 v0 48 = 0; rw [show vI hr2i9_10 v0 48 = 0 from (by rw [g1r2i9_10_0])] <;> (first | assumption | with_reducible rfl | grind)), (by show vI hr2i9_10 v0 41 = (if 97 ≤ x_lk t n (vI h v0 41) ∧ x_lk t n (vI h v0 41) ≤ 122 then vI h v0 41 + 1 else vI h v0 41); rw [show vI hr2i9_10 v0 41 = ((vI h v0 41) + 1) from (by rw [f1r2i9_10_I v0 41 (by omega), ih15_8 v0 41, if_pos ⟨rfl, rfl⟩])] <;> (first | (rw [if_pos (by assumption)]) | (rw [if_neg (by assumption)]))), (by show x_end (x_lk t n (if 97 ≤ x_lk t n (vI h v0 41) ∧ x_lk t n (vI h v0 41) ≤ 122 then vI h v0 41 + 1 else vI h v0 41)) = true; first | (rw [if_pos (by assumption)]; exact g1r2i9_10_2) | (rw [if_neg (by assumption)]; exact g1r2i9_10_2)), (by show vA hr2i9_10 (v0 + 13) v1 = (if 97 ≤ x_lk t n (vI h v0 41) ∧ x_lk t n (vI h v0 41) ≤ 122 then x_lk t n (vI h v0 41) - 97 else -1); rw [show vA hr2i9_10 (v0 + 13) = vA h13_7 (v0 + 13) from (by rw [f1r2i9_10_A (v0 + 13) (by omega), ah15_8 (v0 + 13)]), show vA h13_7 (v0 + 13) v1 = (((x_lk t n (vI h v0 41))) - 97) from (by rw [ah13_7 (v0 + 13) v1 jh13_7, if_pos ⟨rfl, rfl⟩])] <;> (first | (rw [if_pos (by assumption)]) | (rw [if_neg (by assumption)]))), (fun j j0 nj => by rw [f1r2i9_10_A (v0 + 13) (by omega), ah15_8 (v0 + 13), ah13_7 (v0 + 13) j j0, if_neg (fun z => absurd z.2 nj), bh5_2 (v0 + 13) (by omega), ah2_1 (v0 + 13) j j0, if_neg (fun z => absurd z.2 nj)]), (fun a k na => by rw [f1r2i9_10_I a k (fun z => na (z.elim (fun z => Or.inr (Or.inl z)) (fun z => Or.inr (Or.inr (z))))), ih15_8 a k, if_neg (fun z => na (Or.inl z)), ih13_7 a k, ih5_2 a k, ih2_1 a k]), (fun a na => by rw [f1r2i9_10_A a (by omega), ah15_8 a, bh13_7 a (fun z => na (Or.inl z)), bh5_2 a (fun z => na (Or.inr (z))), bh2_1 a (fun z => na (Or.inl z))])⟩⟩
    · intro hr2i9_10 Thr2i9_10 g0r2i9_10_0 g0r2i9_10_1 f0r2i9_10_I f0r2i9_10_A
      try dsimp only
      rw [show vI h15_8 v0 48 = (vI h v0 48) from (by rw [ih15_8 v0 48, if_neg (fun z => absurd z.2 (by decide)), ih13_7 v0 48, ih5_2 v0 48, ih2_1 v0 48]), show vI h15_8 v0 41 = ((vI h v0 41) + 1) from (by rw [ih15_8 v0 41, if_pos ⟨rfl, rfl⟩])] at g0r2i9_10_1
      refine qi_some ?_
      exact ⟨Thr2i9_10, Or.inr ⟨g0r2i9_10_0, (by show ¬ x_end (x_lk t n (if 97 ≤ x_lk t n (vI h v0 41) ∧ x_lk t n (vI h v0 41) ≤ 122 then vI h v0 41 + 1 else vI h v0 41)) = true; first | (rw [if_pos (by assumption)]; exact (g0r2i9_10_1.resolve_left (fun z => z (by first | rfl | assumption)))) | (rw [if_neg (by assumption)]; exact (g0r2i9_10_1.resolve_left (fun z => z (by first | rfl | assumption))))), (fun a k na => by rw [f0r2i9_10_I a k (fun z => na (z.elim (fun z => Or.inr (Or.inl z)) (fun z => Or.inr (Or.inr (z))))), ih15_8 a k, if_neg (fun z => na (Or.inl z)), ih13_7 a k, ih5_2 a k, ih2_1 a k]), (fun a na => by rw [f0r2i9_10_A a (by omega), ah15_8 a, bh13_7 a (fun z => na (Or.inl z)), bh5_2 a (fun z => na (Or.inr (z))), bh2_1 a (fun z => na (Or.inl z))])⟩⟩
  · try dsimp only
    refine qi_if (fun _ => ?_) (fun cc11 => absurd (by decide) cc11)
    unfold f_Mod_branch_56
    refine l_gO ?_
    refine j_Mod_closed (v0 := v0) (t := t) (n := n) Th5_2 kv0 (by show ∀ j, 0 ≤ j → j < n → vA h5_2 (v0 + 1) j = t j; rw [show vA h5_2 (v0 + 1) = vA h (v0 + 1) from (by rw [bh5_2 (v0 + 1) (by omega), bh2_1 (v0 + 1) (by omega)])] <;> (first | assumption | with_reducible rfl | grind)) (by show vI h5_2 v0 3 = n; rw [show vI h5_2 v0 3 = (vI h v0 3) from (by rw [ih5_2 v0 3, ih2_1 v0 3])] <;> (first | assumption | with_reducible rfl | grind)) ?_ ?_
    · intro hr2i12_13 Thr2i12_13 g1r2i12_13_0 g1r2i12_13_1 g1r2i12_13_2 f1r2i12_13_I f1r2i12_13_A
      try dsimp only
      rw [show vI h5_2 v0 48 = (vI h v0 48) from (by rw [ih5_2 v0 48, ih2_1 v0 48])] at g1r2i12_13_1
      rw [show vI h5_2 v0 41 = (vI h v0 41) from (by rw [ih5_2 v0 41, ih2_1 v0 41])] at g1r2i12_13_2
      refine qi_some ?_
      exact ⟨Thr2i12_13, Or.inl ⟨(by show vI hr2i12_13 v0 48 = 0; rw [show vI hr2i12_13 v0 48 = 0 from (by rw [g1r2i12_13_0])] <;> (first | assumption | with_reducible rfl | grind)), (by show vI hr2i12_13 v0 41 = (if 97 ≤ x_lk t n (vI h v0 41) ∧ x_lk t n (vI h v0 41) ≤ 122 then vI h v0 41 + 1 else vI h v0 41); rw [show vI hr2i12_13 v0 41 = (vI h v0 41) from (by rw [f1r2i12_13_I v0 41 (by omega), ih5_2 v0 41, ih2_1 v0 41])] <;> (first | (rw [if_pos (by assumption)]) | (rw [if_neg (by assumption)]))), (by show x_end (x_lk t n (if 97 ≤ x_lk t n (vI h v0 41) ∧ x_lk t n (vI h v0 41) ≤ 122 then vI h v0 41 + 1 else vI h v0 41)) = true; first | (rw [if_pos (by assumption)]; exact g1r2i12_13_2) | (rw [if_neg (by assumption)]; exact g1r2i12_13_2)), (by show vA hr2i12_13 (v0 + 13) v1 = (if 97 ≤ x_lk t n (vI h v0 41) ∧ x_lk t n (vI h v0 41) ≤ 122 then x_lk t n (vI h v0 41) - 97 else -1); rw [show vA hr2i12_13 (v0 + 13) = vA h2_1 (v0 + 13) from (by rw [f1r2i12_13_A (v0 + 13) (by omega), bh5_2 (v0 + 13) (by omega)]), show vA h2_1 (v0 + 13) v1 = (-1) from (by rw [ah2_1 (v0 + 13) v1 jh5_2, if_pos ⟨rfl, rfl⟩])] <;> (first | (rw [if_pos (by assumption)]) | (rw [if_neg (by assumption)]))), (fun j j0 nj => by rw [f1r2i12_13_A (v0 + 13) (by omega), bh5_2 (v0 + 13) (by omega), ah2_1 (v0 + 13) j j0, if_neg (fun z => absurd z.2 nj)]), (fun a k na => by rw [f1r2i12_13_I a k (fun z => na (z.elim (fun z => Or.inr (Or.inl z)) (fun z => Or.inr (Or.inr (z))))), ih5_2 a k, ih2_1 a k]), (fun a na => by rw [f1r2i12_13_A a (by omega), bh5_2 a (fun z => na (Or.inr (z))), bh2_1 a (fun z => na (Or.inl z))])⟩⟩
    · intro hr2i12_13 Thr2i12_13 g0r2i12_13_0 g0r2i12_13_1 f0r2i12_13_I f0r2i12_13_A
      try dsimp only
      rw [show vI h5_2 v0 48 = (vI h v0 48) from (by rw [ih5_2 v0 48, ih2_1 v0 48]), show vI h5_2 v0 41 = (vI h v0 41) from (by rw [ih5_2 v0 41, ih2_1 v0 41])] at g0r2i12_13_1
      refine qi_some ?_
      exact ⟨Thr2i12_13, Or.inr ⟨g0r2i12_13_0, (by show ¬ x_end (x_lk t n (if 97 ≤ x_lk t n (vI h v0 41) ∧ x_lk t n (vI h v0 41) ≤ 122 then vI h v0 41 + 1 else vI h v0 41)) = true; first | (rw [if_pos (by assumption)]; exact (g0r2i12_13_1.resolve_left (fun z => z (by first | rfl | assumption)))) | (rw [if_neg (by assumption)]; exact (g0r2i12_13_1.resolve_left (fun z => z (by first | rfl | assumption))))), (fun a k na => by rw [f0r2i12_13_I a k (fun z => na (z.elim (fun z => Or.inr (Or.inl z)) (fun z => Or.inr (Or.inr (z))))), ih5_2 a k, ih2_1 a k]), (fun a na => by rw [f0r2i12_13_A a (by omega), bh5_2 a (fun z => na (Or.inr (z))), bh2_1 a (fun z => na (Or.inl z))])⟩⟩
theorem j_Mod_branch {L : q_L} {π : Nat → Nat → Option Nat} {N : Nat} {t : Int32 → Int32} {n : Int32} {h : z_H} {v0 : Nat} {v1 : Int32} {β : Type} {f : z_H → Option β} {Q : β → Prop} (T : x_U L π h) (kv0 : q_M L π v0) (ht : ∀ j, 0 ≤ j → j < n → vA h (v0 + 1) j = t j) (hn : vI h v0 3 = n) (n1 : n ≤ 240) (tp : ∀ j, t j ≠ -1) (bd : vI h v0 48 = 0) (a0 : 0 ≤ vI h v0 41) (H1 : ∀ h', x_U L π h' → (vI h' v0 48 = 0) → (vI h' v0 41 = (if 97 ≤ x_lk t n (vI h v0 41) ∧ x_lk t n (vI h v0 41) ≤ 122 then vI h v0 41 + 1 else vI h v0 41)) → (x_end (x_lk t n (if 97 ≤ x_lk t n (vI h v0 41) ∧ x_lk t n (vI h v0 41) ≤ 122 then vI h v0 41 + 1 else vI h v0 41)) = true) → (vA h' (v0 + 13) v1 = (if 97 ≤ x_lk t n (vI h v0 41) ∧ x_lk t n (vI h v0 41) ≤ 122 then x_lk t n (vI h v0 41) - 97 else -1)) → (∀ j, 0 ≤ j → ¬ j = v1 → vA h' (v0 + 13) j = vA h (v0 + 13) j) → (∀ a k, ¬ ((a = v0 ∧ k = 41) ∨ (a = v0 ∧ k = 5) ∨ (a = v0 ∧ k = 48)) → vI h' a k = vI h a k) → (∀ a, ¬ (a = (v0 + 13) ∨ a = (v0 + 15)) → vA h' a = vA h a) → qi (f h') Q) (H0 : ∀ h', x_U L π h' → (¬ vI h' v0 48 = 0) → (¬ x_end (x_lk t n (if 97 ≤ x_lk t n (vI h v0 41) ∧ x_lk t n (vI h v0 41) ≤ 122 then vI h v0 41 + 1 else vI h v0 41)) = true) → (∀ a k, ¬ ((a = v0 ∧ k = 41) ∨ (a = v0 ∧ k = 5) ∨ (a = v0 ∧ k = 48)) → vI h' a k = vI h a k) → (∀ a, ¬ (a = (v0 + 13) ∨ a = (v0 + 15)) → vA h' a = vA h a) → qi (f h') Q) : qi (z_b (f_Mod_branch N v0 v1 h) f) Q := by
  refine qi_b (i_Mod_branch  T kv0 ht hn n1 tp bd a0) ?_
  rintro hz ⟨Tz, ⟨g0, g1, g2, g3, g4, g5, g6⟩ | ⟨g0, g1, g2, g3⟩⟩
  · exact H1 hz Tz g0 g1 g2 g3 g4 g5 g6
  · exact H0 hz Tz g0 g1 g2 g3

set_option maxHeartbeats 4000000 in
theorem i_Mod_readText_32 {L : q_L} {π : Nat → Nat → Option Nat} {N : Nat} {t : Int32 → Int32} {n : Int32} : ∀ (m9 : Nat) (v0 : Nat) (v1 : Int32) (h : z_H), x_U L π h → q_M L π v0 → (∀ j, 0 ≤ j → j < n → vA h (v0 + 1) j = t j) → (vI h v0 3 = n) → (n ≤ 240) → (∀ j, t j ≠ -1) → (vI h v0 48 = 0 → 0 ≤ vI h v0 41) → qi (f_Mod_readText_32 N m9 v0 v1 h) (fun r => x_U L π r ∧ (((vI r v0 48 = 0) ∧ (vI h v0 48 = 0) ∧ (vI r v0 41 = x_nl t n (vI h v0 41)) ∧ (∀ a k, ¬ ((a = v0 ∧ k = 41)) → vI r a k = vI h a k) ∧ (∀ a, ¬ (a = (v0 + 11) ∨ a = (v0 + 28) ∨ a = (v0 + 22)) → vA r a = vA h a)) ∨ ((¬ vI r v0 48 = 0) ∧ (¬ vI h v0 48 = 0) ∧ (∀ a k, ¬ ((a = v0 ∧ k = 41)) → vI r a k = vI h a k) ∧ (∀ a, ¬ (a = (v0 + 11) ∨ a = (v0 + 28) ∨ a = (v0 + 22)) → vA r a = vA h a)))) := by
  intro m9
  induction m9 with
  | zero => intro v0 v1 h T kv0 ht hn n1 tp a0 r e; rw [f_Mod_readText_32] at e; cases e
  | succ m9 ih =>
    intro v0 v1 h T kv0 ht hn n1 tp a0
    rw [f_Mod_readText_32]
    have n2 : n ≤ 1000 := Int32.le_trans n1 (by decide)
    refine l_gI (e := (vI h v0 48)) rfl ?_
    refine qi_if (fun cc1 => ?_) (fun cc1 => ?_)
    · skip
      have a0 := a0 cc1
      refine l_gO ?_
      refine j_Mod_here (v0 := v0) (t := t) (n := n) (e := (x_lk t n (vI h v0 41))) T kv0 ht hn rfl ?_
      try dsimp only
      refine qi_if (fun cc3 => ?_) (fun cc3 => ?_)
      · skip
        unfold f_Mod_readText_77
        refine l_gR T (d_Mo_16 kv0) ?_
        refine l_gO ?_
        refine j_Mod_stored (v0 := v0) (e := (300 * vI h v0 42 + vA h (v0 + 22) (vI h v0 42))) T kv0 rfl ?_
        try dsimp only
        refine l_uI T ?_
        intro h4i4_6 Th4i4_6 jh4i4_6 ih4i4_6 ah4i4_6 bh4i4_6
        refine qi_some ?_
        exact ⟨Th4i4_6, Or.inl ⟨(by show vI h4i4_6 v0 48 = 0; rw [show vI h4i4_6 v0 48 = (vI h v0 48) from (by rw [ih4i4_6 v0 48])] <;> (first | assumption | with_reducible rfl | grind)), (by show vI h v0 48 = 0; first | assumption | with_reducible rfl | grind), (by show vI h4i4_6 v0 41 = x_nl t n (vI h v0 41); rw [show vI h4i4_6 v0 41 = (vI h v0 41) from (by rw [ih4i4_6 v0 41])] <;> (exact (x_nl_out (x_lk_no tp cc3)).symm)), (fun a k na => by rw [ih4i4_6 a k]), (fun a na => by rw [bh4i4_6 a (fun z => na (Or.inl z))])⟩⟩
      · skip
        refine l_gO ?_
        refine j_Mod_here (v0 := v0) (t := t) (n := n) (e := (x_lk t n (vI h v0 41))) T kv0 ht hn rfl ?_
        try dsimp only
        refine qi_if (fun cc8 => ?_) (fun cc8 => ?_)
        · skip
          unfold f_Mod_readText_77
          refine l_gR T (d_Mo_16 kv0) ?_
          refine l_gO ?_
          refine j_Mod_stored (v0 := v0) (e := (300 * vI h v0 42 + vA h (v0 + 22) (vI h v0 42))) T kv0 rfl ?_
          try dsimp only
          refine l_uI T ?_
          intro h4i9_11 Th4i9_11 jh4i9_11 ih4i9_11 ah4i9_11 bh4i9_11
          refine qi_some ?_
          exact ⟨Th4i9_11, Or.inl ⟨(by show vI h4i9_11 v0 48 = 0; rw [show vI h4i9_11 v0 48 = (vI h v0 48) from (by rw [ih4i9_11 v0 48])] <;> (first | assumption | with_reducible rfl | grind)), (by show vI h v0 48 = 0; first | assumption | with_reducible rfl | grind), (by show vI h4i9_11 v0 41 = x_nl t n (vI h v0 41); rw [show vI h4i9_11 v0 41 = (vI h v0 41) from (by rw [ih4i9_11 v0 41])] <;> (exact (x_nl_10 n2 (x_lk_in cc8 (by decide)).1 (x_lk_in cc8 (by decide)).2).symm)), (fun a k na => by rw [ih4i9_11 a k]), (fun a na => by rw [bh4i9_11 a (fun z => na (Or.inl z))])⟩⟩
        · skip
          refine l_gO ?_
          refine j_Mod_here (v0 := v0) (t := t) (n := n) (e := (x_lk t n (vI h v0 41))) T kv0 ht hn rfl ?_
          try dsimp only
          refine l_gO ?_
          refine j_Mod_keep (v0 := v0) (v1 := ((x_lk t n (vI h v0 41)))) T kv0 ?_
          intro hr12_13 Thr12_13 gr12_13_0 gr12_13_1 gr12_13_2 fr12_13_I fr12_13_A
          try dsimp only
          refine l_gI (e := (vI h v0 41)) (by rw [fr12_13_I v0 41 (by omega)]) ?_
          refine l_sI Thr12_13 (q_Mk kv0) (by decide) rfl ?_
          intro h14_14 Th14_14 ih14_14 ah14_14
          refine qi_mono (ih v0 v1 h14_14 Th14_14 kv0 (by show ∀ j, 0 ≤ j → j < n → vA h14_14 (v0 + 1) j = t j; rw [show vA h14_14 (v0 + 1) = vA h (v0 + 1) from (by rw [ah14_14 (v0 + 1), fr12_13_A (v0 + 1) (by omega)])] <;> (first | assumption | with_reducible rfl | grind)) (by show vI h14_14 v0 3 = n; rw [show vI h14_14 v0 3 = (vI h v0 3) from (by rw [ih14_14 v0 3, if_neg (fun z => absurd z.2 (by decide)), fr12_13_I v0 3 (by omega)])] <;> (first | assumption | with_reducible rfl | grind)) n1 tp (by show vI h14_14 v0 48 = 0 → 0 ≤ vI h14_14 v0 41; rw [show vI h14_14 v0 48 = (vI h v0 48) from (by rw [ih14_14 v0 48, if_neg (fun z => absurd z.2 (by decide)), fr12_13_I v0 48 (by omega)]), show vI h14_14 v0 41 = ((vI h v0 41) + 1) from (by rw [ih14_14 v0 41, if_pos ⟨rfl, rfl⟩])] <;> (intro z9; exact x_0le a0 (x_lp1 n2 (t := t) cc3)))) ?_
          rintro hrz15_16 ⟨Thrz15_16, ⟨g1rz15_16_0, g1rz15_16_1, g1rz15_16_2, f1rz15_16_I, f1rz15_16_A⟩ | ⟨g0rz15_16_0, g0rz15_16_1, f0rz15_16_I, f0rz15_16_A⟩⟩
          · try dsimp only at *
            rw [show vI h14_14 v0 41 = ((vI h v0 41) + 1) from (by rw [ih14_14 v0 41, if_pos ⟨rfl, rfl⟩])] at g1rz15_16_2
            rw [show vI h14_14 v0 48 = (vI h v0 48) from (by rw [ih14_14 v0 48, if_neg (fun z => absurd z.2 (by decide)), fr12_13_I v0 48 (by omega)])] at g1rz15_16_1
            exact ⟨Thrz15_16, Or.inl ⟨(by show vI hrz15_16 v0 48 = 0; rw [show vI hrz15_16 v0 48 = 0 from (by rw [g1rz15_16_0])] <;> (first | assumption | with_reducible rfl | grind)), (by show vI h v0 48 = 0; first | assumption | with_reducible rfl | grind), (by show vI hrz15_16 v0 41 = x_nl t n (vI h v0 41); rw [show vI hrz15_16 v0 41 = (x_nl t n ((vI h v0 41) + 1)) from (by rw [g1rz15_16_2])] <;> (exact (x_nl_st n2 (x_lk_at (t := t) cc3).1 (by rw [(x_lk_at (t := t) cc3).2]; exact cc8)).symm)), (fun a k na => by rw [f1rz15_16_I a k (fun z => na (z)), ih14_14 a k, if_neg (fun z => na (z)), fr12_13_I a k (by omega)]), (fun a na => by rw [f1rz15_16_A a (fun z => na (z.elim (fun z => Or.inl z) (fun z => z.elim (fun z => Or.inr (Or.inl z)) (fun z => Or.inr (Or.inr (z)))))), ah14_14 a, fr12_13_A a (fun z => na (z.elim (fun z => Or.inr (Or.inl z)) (fun z => Or.inr (Or.inr (z)))))])⟩⟩
          · try dsimp only at *
            rw [show vI hrz15_16 v0 48 = (vI h v0 48) from (by rw [f0rz15_16_I v0 48 (by omega), ih14_14 v0 48, if_neg (fun z => absurd z.2 (by decide)), fr12_13_I v0 48 (by omega)])] at g0rz15_16_0
            rw [show vI h14_14 v0 48 = (vI h v0 48) from (by rw [ih14_14 v0 48, if_neg (fun z => absurd z.2 (by decide)), fr12_13_I v0 48 (by omega)])] at g0rz15_16_1
            exact absurd cc1 g0rz15_16_0
    · skip
      unfold f_Mod_readText_77
      refine l_gR T (d_Mo_16 kv0) ?_
      refine l_gO ?_
      refine j_Mod_stored (v0 := v0) (e := (300 * vI h v0 42 + vA h (v0 + 22) (vI h v0 42))) T kv0 rfl ?_
      try dsimp only
      refine l_uI T ?_
      intro h4i17_19 Th4i17_19 jh4i17_19 ih4i17_19 ah4i17_19 bh4i17_19
      refine qi_some ?_
      exact ⟨Th4i17_19, Or.inr ⟨(by show ¬ vI h4i17_19 v0 48 = 0; rw [show vI h4i17_19 v0 48 = (vI h v0 48) from (by rw [ih4i17_19 v0 48])] <;> (first | assumption | decide)), (by show ¬ vI h v0 48 = 0; first | assumption | (exfalso; grind)), (fun a k na => by rw [ih4i17_19 a k]), (fun a na => by rw [bh4i17_19 a (fun z => na (Or.inl z))])⟩⟩
theorem j_Mod_readText_32 {L : q_L} {π : Nat → Nat → Option Nat} {N : Nat} {t : Int32 → Int32} {n : Int32} {m9 : Nat} {h : z_H} {v0 : Nat} {v1 : Int32} {β : Type} {f : z_H → Option β} {Q : β → Prop} (T : x_U L π h) (kv0 : q_M L π v0) (ht : ∀ j, 0 ≤ j → j < n → vA h (v0 + 1) j = t j) (hn : vI h v0 3 = n) (n1 : n ≤ 240) (tp : ∀ j, t j ≠ -1) (a0 : vI h v0 48 = 0 → 0 ≤ vI h v0 41) (H1 : ∀ h', x_U L π h' → (vI h' v0 48 = 0) → (vI h v0 48 = 0) → (vI h' v0 41 = x_nl t n (vI h v0 41)) → (∀ a k, ¬ ((a = v0 ∧ k = 41)) → vI h' a k = vI h a k) → (∀ a, ¬ (a = (v0 + 11) ∨ a = (v0 + 28) ∨ a = (v0 + 22)) → vA h' a = vA h a) → qi (f h') Q) (H0 : ∀ h', x_U L π h' → (¬ vI h' v0 48 = 0) → (¬ vI h v0 48 = 0) → (∀ a k, ¬ ((a = v0 ∧ k = 41)) → vI h' a k = vI h a k) → (∀ a, ¬ (a = (v0 + 11) ∨ a = (v0 + 28) ∨ a = (v0 + 22)) → vA h' a = vA h a) → qi (f h') Q) : qi (z_b (f_Mod_readText_32 N m9 v0 v1 h) f) Q := by
  refine qi_b (i_Mod_readText_32 m9 v0 v1 h  T kv0 ht hn n1 tp a0) ?_
  rintro hz ⟨Tz, ⟨g0, g1, g2, g3, g4⟩ | ⟨g0, g1, g2, g3⟩⟩
  · exact H1 hz Tz g0 g1 g2 g3 g4
  · exact H0 hz Tz g0 g1 g2 g3

