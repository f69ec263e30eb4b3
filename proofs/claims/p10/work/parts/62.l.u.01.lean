set_option maxHeartbeats 4000000 in
theorem i_Mod_readText {L : q_L} {π : Nat → Nat → Option Nat} {N : Nat} {t : Int32 → Int32} {n : Int32} {h : z_H} {v0 : Nat} {v1 : Int32} (T : x_U L π h) (kv0 : q_M L π v0) (ht : ∀ j, 0 ≤ j → j < n → vA h (v0 + 1) j = t j) (hn : vI h v0 3 = n) (n1 : n ≤ 240) (tp : ∀ j, t j ≠ -1) (bd : vI h v0 48 = 0) (a0 : 0 ≤ vI h v0 41) : qi (f_Mod_readText N v0 v1 h) (fun r => x_U L π r ∧ (((vI r v0 48 = 0) ∧ (x_lk t n (vI h v0 41) = 32) ∧ (vI r v0 41 = x_nl t n (vI h v0 41 + 1)) ∧ (∀ a k, ¬ ((a = v0 ∧ k = 5) ∨ (a = v0 ∧ k = 48) ∨ (a = v0 ∧ k = 41)) → vI r a k = vI h a k) ∧ (∀ a, ¬ (a = (v0 + 10) ∨ a = (v0 + 11) ∨ a = (v0 + 28) ∨ a = (v0 + 22)) → vA r a = vA h a)) ∨ ((¬ vI r v0 48 = 0) ∧ (¬ x_lk t n (vI h v0 41) = 32) ∧ (∀ a k, ¬ ((a = v0 ∧ k = 5) ∨ (a = v0 ∧ k = 48) ∨ (a = v0 ∧ k = 41)) → vI r a k = vI h a k) ∧ (∀ a, ¬ (a = (v0 + 10) ∨ a = (v0 + 11) ∨ a = (v0 + 28) ∨ a = (v0 + 22)) → vA r a = vA h a)))) := by
  have n2 : n ≤ 1000 := Int32.le_trans n1 (by decide)
  unfold f_Mod_readText
  refine l_gO ?_
  refine j_Mod_here (v0 := v0) (t := t) (n := n) (e := (x_lk t n (vI h v0 41))) T kv0 ht hn rfl ?_
  try dsimp only
  refine qi_if (fun cc2 => ?_) (fun cc2 => ?_)
  · skip
    refine l_gI (e := (vI h v0 3)) rfl ?_
    refine l_gO ?_
    refine j_Mod_wrong (v0 := v0) (v1 := (vI h v0 3)) T kv0 ?_
    intro hr6_3 Thr6_3 gr6_3_0 fr6_3_I fr6_3_A
    try dsimp only
    unfold f_Mod_readText_16
    refine l_gO ?_
    refine j_Mod_expect (v0 := v0) (v1 := (32 : Int32)) (t := t) (n := n) Thr6_3 kv0 (by show ∀ j, 0 ≤ j → j < n → vA hr6_3 (v0 + 1) j = t j; rw [show vA hr6_3 (v0 + 1) = vA h (v0 + 1) from (by rw [fr6_3_A (v0 + 1) (by omega)])] <;> (first | assumption | with_reducible rfl | grind)) (by show vI hr6_3 v0 3 = n; rw [show vI hr6_3 v0 3 = (vI h v0 3) from (by rw [fr6_3_I v0 3 (by omega)])] <;> (first | assumption | with_reducible rfl | grind)) ?_ ?_
    · intro hr2i4_5 Thr2i4_5 g1r2i4_5_0 g1r2i4_5_1 g1r2i4_5_2 g1r2i4_5_3 f1r2i4_5_I f1r2i4_5_A
      try dsimp only
      rw [show vI hr6_3 v0 41 = (vI h v0 41) from (by rw [fr6_3_I v0 41 (by omega)])] at g1r2i4_5_3
      rw [show vI hr6_3 v0 48 = 1 from (by rw [gr6_3_0])] at g1r2i4_5_1
      rw [show vI hr6_3 v0 41 = (vI h v0 41) from (by rw [fr6_3_I v0 41 (by omega)])] at g1r2i4_5_2
      exact absurd g1r2i4_5_1 (by decide)
    · intro hr2i4_5 Thr2i4_5 g0r2i4_5_0 g0r2i4_5_1 f0r2i4_5_I f0r2i4_5_A
      try dsimp only
      rw [show vI hr6_3 v0 48 = 1 from (by rw [gr6_3_0]), show vI hr6_3 v0 41 = (vI h v0 41) from (by rw [fr6_3_I v0 41 (by omega)])] at g0r2i4_5_1
      refine l_gR Thr2i4_5 (d_Mo_15 kv0) ?_
      refine l_gO ?_
      refine j_Mod_stored (v0 := v0) (e := (300 * (vI h v0 42) + vA h (v0 + 22) (vI h v0 42))) Thr2i4_5 kv0 (by rw [show vI hr2i4_5 v0 42 = (vI h v0 42) from (by rw [f0r2i4_5_I v0 42 (by omega), fr6_3_I v0 42 (by omega)]), show vA hr2i4_5 (v0 + 22) = vA h (v0 + 22) from (by rw [f0r2i4_5_A (v0 + 22) (by omega), fr6_3_A (v0 + 22) (by omega)])]) ?_
      try dsimp only
      refine l_uI Thr2i4_5 ?_
      intro h6i4_7 Th6i4_7 jh6i4_7 ih6i4_7 ah6i4_7 bh6i4_7
      refine qi_tail ?_
      refine j_Mod_readText_32 (v0 := v0) (v1 := v1) (t := t) (n := n) Th6i4_7 kv0 (by show ∀ j, 0 ≤ j → j < n → vA h6i4_7 (v0 + 1) j = t j; rw [show vA h6i4_7 (v0 + 1) = vA h (v0 + 1) from (by rw [bh6i4_7 (v0 + 1) (by omega), f0r2i4_5_A (v0 + 1) (by omega), fr6_3_A (v0 + 1) (by omega)])] <;> (first | assumption | with_reducible rfl | grind)) (by show vI h6i4_7 v0 3 = n; rw [show vI h6i4_7 v0 3 = (vI h v0 3) from (by rw [ih6i4_7 v0 3, f0r2i4_5_I v0 3 (by omega), fr6_3_I v0 3 (by omega)])] <;> (first | assumption | with_reducible rfl | grind)) n1 tp (by show vI h6i4_7 v0 48 = 0 → 0 ≤ vI h6i4_7 v0 41; rw [show vI h6i4_7 v0 48 = (vI hr2i4_5 v0 48) from (by rw [ih6i4_7 v0 48]), show vI h6i4_7 v0 41 = (vI hr2i4_5 v0 41) from (by rw [ih6i4_7 v0 41])] <;> (intro z9; exact absurd z9 g0r2i4_5_0)) ?_ ?_
      · intro hrz8_9 Thrz8_9 g1rz8_9_0 g1rz8_9_1 g1rz8_9_2 f1rz8_9_I f1rz8_9_A
        try dsimp only
        rw [show vI h6i4_7 v0 41 = (vI hr2i4_5 v0 41) from (by rw [ih6i4_7 v0 41])] at g1rz8_9_2
        rw [show vI h6i4_7 v0 48 = (vI hr2i4_5 v0 48) from (by rw [ih6i4_7 v0 48])] at g1rz8_9_1
        exact absurd g1rz8_9_1 g0r2i4_5_0
      · intro hrz8_9 Thrz8_9 g0rz8_9_0 g0rz8_9_1 f0rz8_9_I f0rz8_9_A
        try dsimp only
        rw [show vI hrz8_9 v0 48 = (vI hr2i4_5 v0 48) from (by rw [f0rz8_9_I v0 48 (by omega), ih6i4_7 v0 48])] at g0rz8_9_0
        rw [show vI h6i4_7 v0 48 = (vI hr2i4_5 v0 48) from (by rw [ih6i4_7 v0 48])] at g0rz8_9_1
        refine qi_some ?_
        exact ⟨Thrz8_9, Or.inr ⟨(by show ¬ vI hrz8_9 v0 48 = 0; rw [show vI hrz8_9 v0 48 = (vI hr2i4_5 v0 48) from (by rw [f0rz8_9_I v0 48 (by omega), ih6i4_7 v0 48])] <;> (first | assumption | decide)), (by show ¬ x_lk t n (vI h v0 41) = 32; rw [cc2]; decide), (fun a k na => by rw [f0rz8_9_I a k (fun z => na (Or.inr (Or.inr (z)))), ih6i4_7 a k, f0r2i4_5_I a k (fun z => na (z.elim (fun z => Or.inr (Or.inr (z))) (fun z => z.elim (fun z => Or.inl z) (fun z => Or.inr (Or.inl z))))), fr6_3_I a k (fun z => na (z.elim (fun z => Or.inl z) (fun z => Or.inr (Or.inl z))))]), (fun a na => by rw [f0rz8_9_A a (fun z => na (z.elim (fun z => Or.inr (Or.inl z)) (fun z => z.elim (fun z => Or.inr (Or.inr (Or.inl z))) (fun z => Or.inr (Or.inr (Or.inr (z))))))), bh6i4_7 a (fun z => na (Or.inl z)), f0r2i4_5_A a (by omega), fr6_3_A a (by omega)])⟩⟩
  · skip
    unfold f_Mod_readText_16
    refine l_gO ?_
    refine j_Mod_expect (v0 := v0) (v1 := (32 : Int32)) (t := t) (n := n) T kv0 ht hn ?_ ?_
    · intro hr2i10_11 Thr2i10_11 g1r2i10_11_0 g1r2i10_11_1 g1r2i10_11_2 g1r2i10_11_3 f1r2i10_11_I f1r2i10_11_A
      try dsimp only
      refine l_gR Thr2i10_11 (d_Mo_15 kv0) ?_
      refine l_gO ?_
      refine j_Mod_stored (v0 := v0) (e := (300 * (vI h v0 42) + vA h (v0 + 22) (vI h v0 42))) Thr2i10_11 kv0 (by rw [show vI hr2i10_11 v0 42 = (vI h v0 42) from (by rw [f1r2i10_11_I v0 42 (by omega)]), show vA hr2i10_11 (v0 + 22) = vA h (v0 + 22) from (by rw [f1r2i10_11_A (v0 + 22) (by omega)])]) ?_
      try dsimp only
      refine l_uI Thr2i10_11 ?_
      intro h6i10_13 Th6i10_13 jh6i10_13 ih6i10_13 ah6i10_13 bh6i10_13
      refine qi_tail ?_
      refine j_Mod_readText_32 (v0 := v0) (v1 := v1) (t := t) (n := n) Th6i10_13 kv0 (by show ∀ j, 0 ≤ j → j < n → vA h6i10_13 (v0 + 1) j = t j; rw [show vA h6i10_13 (v0 + 1) = vA h (v0 + 1) from (by rw [bh6i10_13 (v0 + 1) (by omega), f1r2i10_11_A (v0 + 1) (by omega)])] <;> (first | assumption | with_reducible rfl | grind)) (by show vI h6i10_13 v0 3 = n; rw [show vI h6i10_13 v0 3 = (vI h v0 3) from (by rw [ih6i10_13 v0 3, f1r2i10_11_I v0 3 (by omega)])] <;> (first | assumption | with_reducible rfl | grind)) n1 tp (by show vI h6i10_13 v0 48 = 0 → 0 ≤ vI h6i10_13 v0 41; rw [show vI h6i10_13 v0 48 = 0 from (by rw [ih6i10_13 v0 48, g1r2i10_11_0]), show vI h6i10_13 v0 41 = (vI h v0 41 + 1) from (by rw [ih6i10_13 v0 41, g1r2i10_11_3])] <;> (intro z9; exact x_0le a0 (x_lp1 n2 (t := t) (x_ne (by assumption))))) ?_ ?_
      · intro hrz14_15 Thrz14_15 g1rz14_15_0 g1rz14_15_1 g1rz14_15_2 f1rz14_15_I f1rz14_15_A
        try dsimp only
        rw [show vI h6i10_13 v0 41 = (vI h v0 41 + 1) from (by rw [ih6i10_13 v0 41, g1r2i10_11_3])] at g1rz14_15_2
        rw [show vI h6i10_13 v0 48 = 0 from (by rw [ih6i10_13 v0 48, g1r2i10_11_0])] at g1rz14_15_1
        refine qi_some ?_
        exact ⟨Thrz14_15, Or.inl ⟨(by show vI hrz14_15 v0 48 = 0; rw [show vI hrz14_15 v0 48 = 0 from (by rw [g1rz14_15_0])] <;> (first | assumption | with_reducible rfl | grind)), g1r2i10_11_2, (by show vI hrz14_15 v0 41 = x_nl t n (vI h v0 41 + 1); rw [show vI hrz14_15 v0 41 = (x_nl t n (vI h v0 41 + 1)) from (by rw [g1rz14_15_2])] <;> (first | assumption | with_reducible rfl | grind)), (fun a k na => by rw [f1rz14_15_I a k (fun z => na (Or.inr (Or.inr (z)))), ih6i10_13 a k, f1r2i10_11_I a k (fun z => na (z.elim (fun z => Or.inr (Or.inr (z))) (fun z => z.elim (fun z => Or.inl z) (fun z => Or.inr (Or.inl z)))))]), (fun a na => by rw [f1rz14_15_A a (fun z => na (z.elim (fun z => Or.inr (Or.inl z)) (fun z => z.elim (fun z => Or.inr (Or.inr (Or.inl z))) (fun z => Or.inr (Or.inr (Or.inr (z))))))), bh6i10_13 a (fun z => na (Or.inl z)), f1r2i10_11_A a (by omega)])⟩⟩
      · intro hrz14_15 Thrz14_15 g0rz14_15_0 g0rz14_15_1 f0rz14_15_I f0rz14_15_A
        try dsimp only
        rw [show vI hrz14_15 v0 48 = 0 from (by rw [f0rz14_15_I v0 48 (by omega), ih6i10_13 v0 48, g1r2i10_11_0])] at g0rz14_15_0
        rw [show vI h6i10_13 v0 48 = 0 from (by rw [ih6i10_13 v0 48, g1r2i10_11_0])] at g0rz14_15_1
        exact absurd (by decide) g0rz14_15_0
    · intro hr2i10_11 Thr2i10_11 g0r2i10_11_0 g0r2i10_11_1 f0r2i10_11_I f0r2i10_11_A
      try dsimp only
      refine l_gR Thr2i10_11 (d_Mo_15 kv0) ?_
      refine l_gO ?_
      refine j_Mod_stored (v0 := v0) (e := (300 * (vI h v0 42) + vA h (v0 + 22) (vI h v0 42))) Thr2i10_11 kv0 (by rw [show vI hr2i10_11 v0 42 = (vI h v0 42) from (by rw [f0r2i10_11_I v0 42 (by omega)]), show vA hr2i10_11 (v0 + 22) = vA h (v0 + 22) from (by rw [f0r2i10_11_A (v0 + 22) (by omega)])]) ?_
      try dsimp only
      refine l_uI Thr2i10_11 ?_
      intro h6i10_17 Th6i10_17 jh6i10_17 ih6i10_17 ah6i10_17 bh6i10_17
      refine qi_tail ?_
      refine j_Mod_readText_32 (v0 := v0) (v1 := v1) (t := t) (n := n) Th6i10_17 kv0 (by show ∀ j, 0 ≤ j → j < n → vA h6i10_17 (v0 + 1) j = t j; rw [show vA h6i10_17 (v0 + 1) = vA h (v0 + 1) from (by rw [bh6i10_17 (v0 + 1) (by omega), f0r2i10_11_A (v0 + 1) (by omega)])] <;> (first | assumption | with_reducible rfl | grind)) (by show vI h6i10_17 v0 3 = n; rw [show vI h6i10_17 v0 3 = (vI h v0 3) from (by rw [ih6i10_17 v0 3, f0r2i10_11_I v0 3 (by omega)])] <;> (first | assumption | with_reducible rfl | grind)) n1 tp (by show vI h6i10_17 v0 48 = 0 → 0 ≤ vI h6i10_17 v0 41; rw [show vI h6i10_17 v0 48 = (vI hr2i10_11 v0 48) from (by rw [ih6i10_17 v0 48]), show vI h6i10_17 v0 41 = (vI hr2i10_11 v0 41) from (by rw [ih6i10_17 v0 41])] <;> (intro z9; exact absurd z9 g0r2i10_11_0)) ?_ ?_
      · intro hrz18_19 Thrz18_19 g1rz18_19_0 g1rz18_19_1 g1rz18_19_2 f1rz18_19_I f1rz18_19_A
        try dsimp only
        rw [show vI h6i10_17 v0 41 = (vI hr2i10_11 v0 41) from (by rw [ih6i10_17 v0 41])] at g1rz18_19_2
        rw [show vI h6i10_17 v0 48 = (vI hr2i10_11 v0 48) from (by rw [ih6i10_17 v0 48])] at g1rz18_19_1
        exact absurd g1rz18_19_1 g0r2i10_11_0
      · intro hrz18_19 Thrz18_19 g0rz18_19_0 g0rz18_19_1 f0rz18_19_I f0rz18_19_A
        try dsimp only
        rw [show vI hrz18_19 v0 48 = (vI hr2i10_11 v0 48) from (by rw [f0rz18_19_I v0 48 (by omega), ih6i10_17 v0 48])] at g0rz18_19_0
        rw [show vI h6i10_17 v0 48 = (vI hr2i10_11 v0 48) from (by rw [ih6i10_17 v0 48])] at g0rz18_19_1
        refine qi_some ?_
        exact ⟨Thrz18_19, Or.inr ⟨(by show ¬ vI hrz18_19 v0 48 = 0; rw [show vI hrz18_19 v0 48 = (vI hr2i10_11 v0 48) from (by rw [f0rz18_19_I v0 48 (by omega), ih6i10_17 v0 48])] <;> (first | assumption | decide)), (by show ¬ x_lk t n (vI h v0 41) = 32; exact (g0r2i10_11_1.resolve_left (fun z => z (by first | rfl | assumption)))), (fun a k na => by rw [f0rz18_19_I a k (fun z => na (Or.inr (Or.inr (z)))), ih6i10_17 a k, f0r2i10_11_I a k (fun z => na (z.elim (fun z => Or.inr (Or.inr (z))) (fun z => z.elim (fun z => Or.inl z) (fun z => Or.inr (Or.inl z)))))]), (fun a na => by rw [f0rz18_19_A a (fun z => na (z.elim (fun z => Or.inr (Or.inl z)) (fun z => z.elim (fun z => Or.inr (Or.inr (Or.inl z))) (fun z => Or.inr (Or.inr (Or.inr (z))))))), bh6i10_17 a (fun z => na (Or.inl z)), f0r2i10_11_A a (by omega)])⟩⟩
theorem j_Mod_readText {L : q_L} {π : Nat → Nat → Option Nat} {N : Nat} {t : Int32 → Int32} {n : Int32} {h : z_H} {v0 : Nat} {v1 : Int32} {β : Type} {f : z_H → Option β} {Q : β → Prop} (T : x_U L π h) (kv0 : q_M L π v0) (ht : ∀ j, 0 ≤ j → j < n → vA h (v0 + 1) j = t j) (hn : vI h v0 3 = n) (n1 : n ≤ 240) (tp : ∀ j, t j ≠ -1) (bd : vI h v0 48 = 0) (a0 : 0 ≤ vI h v0 41) (H1 : ∀ h', x_U L π h' → (vI h' v0 48 = 0) → (x_lk t n (vI h v0 41) = 32) → (vI h' v0 41 = x_nl t n (vI h v0 41 + 1)) → (∀ a k, ¬ ((a = v0 ∧ k = 5) ∨ (a = v0 ∧ k = 48) ∨ (a = v0 ∧ k = 41)) → vI h' a k = vI h a k) → (∀ a, ¬ (a = (v0 + 10) ∨ a = (v0 + 11) ∨ a = (v0 + 28) ∨ a = (v0 + 22)) → vA h' a = vA h a) → qi (f h') Q) (H0 : ∀ h', x_U L π h' → (¬ vI h' v0 48 = 0) → (¬ x_lk t n (vI h v0 41) = 32) → (∀ a k, ¬ ((a = v0 ∧ k = 5) ∨ (a = v0 ∧ k = 48) ∨ (a = v0 ∧ k = 41)) → vI h' a k = vI h a k) → (∀ a, ¬ (a = (v0 + 10) ∨ a = (v0 + 11) ∨ a = (v0 + 28) ∨ a = (v0 + 22)) → vA h' a = vA h a) → qi (f h') Q) : qi (z_b (f_Mod_readText N v0 v1 h) f) Q := by
  refine qi_b (i_Mod_readText  T kv0 ht hn n1 tp bd a0) ?_
  rintro hz ⟨Tz, ⟨g0, g1, g2, g3, g4⟩ | ⟨g0, g1, g2, g3⟩⟩
  · exact H1 hz Tz g0 g1 g2 g3 g4
  · exact H0 hz Tz g0 g1 g2 g3

