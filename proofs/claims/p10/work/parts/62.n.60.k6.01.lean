set_option maxHeartbeats 2000000 in
theorem ii_Pa_readText {L : q_L} {π : Nat → Nat → Option Nat} {N : Nat} {pg : Nat} {cm : Nat} {t : Int32 → Int32} {n : Int32} {h : z_H} {v0 : Nat} (T : x_U L π h) (kv0 : qκ L v0 = 7) (kpg : qκ L pg = 10) (ppg : π v0 5 = some pg) (kcm : qκ L cm = 2) (pcm : π v0 6 = some cm) (ptx : π (v0 + 1) 0 = some (pg + 1)) (ht : ∀ j, 0 ≤ j → j < n → vA h ((pg + 1) + 1) j = t j) (hn : vI h (pg + 1) 1 = n) (n1 : n ≤ 240) (tp : ∀ j, t j ≠ -1) (D : v0 + 5 ≤ pg) (hc : pg + 9 ≤ cm ∧ cm + 6 ≤ pg + 249) (a0 : 0 ≤ vI h (v0 + 1) 1) : qi (f_Pa_readText N v0 h) (fun r => x_U L π r.2 ∧ ((r.1 = 1 ∧ (x_lk t n (vI h (v0 + 1) 1 + 1) = 32) ∧ (vI r.2 (v0 + 1) 1 = x_nl t n (vI h (v0 + 1) 1 + 2)) ∧ (vI r.2 cm 9 = vI h (v0 + 1) 1 + 2) ∧ (vI r.2 cm 10 = x_nl t n (vI h (v0 + 1) 1 + 2)) ∧ (∀ a k, ¬ ((a = (v0 + 1) ∧ k = 1) ∨ (a = (v0 + 1) ∧ k = 2) ∨ (a = cm ∧ k = 9) ∨ (a = cm ∧ k = 10)) → vI r.2 a k = vI h a k) ∧ (∀ a, ¬ (a < a) → vA r.2 a = vA h a) ∧ (∀ a, ¬ (a < a) → vL r.2 a = vL h a)) ∨ (r.1 = 0 ∧ (¬ x_lk t n (vI h (v0 + 1) 1 + 1) = 32)))) := by
  have n2 : n ≤ 1000 := Int32.le_trans n1 (by decide)
  have ktx := e_Prog_0 T kpg
  unfold f_Pa_readText
  refine l_gR T (d_Pa_0 T kv0) ?_
  have kk1 := e_Pa_0 T kv0
  refine l_gI (e := (vI h (v0 + 1) 1)) rfl ?_
  refine o_sI T kk1 (by decide) rfl ?_
  intro h3_2 Th3_2 ih3_2 ah3_2 lh3_2
  refine l_gR Th3_2 (d_Pa_0 Th3_2 kv0) ?_
  refine l_gO ?_
  refine jj_Cur_pass (v0 := (v0 + 1)) (v1 := (32 : Int32)) (tx := (pg + 1)) (t := t) (n := n) Th3_2 kk1 ktx ptx (by show ∀ j, 0 ≤ j → j < n → vA h3_2 ((pg + 1) + 1) j = t j; rw [show vA h3_2 ((pg + 1) + 1) = vA h ((pg + 1) + 1) from (by rw [ah3_2 ((pg + 1) + 1)])] <;> ((try simp only [Int32.add_zero, x_am1, x_s11, x_s12, x_s21, x_s13, x_s22, x_s31]) <;> (first | assumption | with_reducible rfl | grind))) (by show vI h3_2 (pg + 1) 1 = n; rw [show vI h3_2 (pg + 1) 1 = (vI h (pg + 1) 1) from (by rw [ih3_2 (pg + 1) 1, if_neg (fun z => absurd z.1 (by omega))])] <;> (first | assumption | with_reducible rfl | grind)) ?_ ?_
  · intro hr6_3 Thr6_3 g1r6_3_0 g1r6_3_1 f1r6_3_I f1r6_3_A f1r6_3_L
    try dsimp only
    rw [show vI h3_2 (v0 + 1) 1 = ((vI h (v0 + 1) 1) + 1) from (by rw [ih3_2 (v0 + 1) 1, if_pos ⟨rfl, rfl⟩])] at g1r6_3_0
    try simp only [Int32.add_zero, x_am1, x_s11, x_s12, x_s21, x_s13, x_s22, x_s31] at g1r6_3_0
    rw [show vI h3_2 (v0 + 1) 1 = ((vI h (v0 + 1) 1) + 1) from (by rw [ih3_2 (v0 + 1) 1, if_pos ⟨rfl, rfl⟩])] at g1r6_3_1
    refine qi_if (fun cc4 => absurd cc4 (by decide)) (fun _ => ?_)
    refine l_gR Thr6_3 pcm ?_
    refine l_gR Thr6_3 (d_Pa_0 Thr6_3 kv0) ?_
    refine l_gI (e := ((vI h (v0 + 1) 1) + 2)) (by rw [g1r6_3_0]) ?_
    refine o_sI Thr6_3 kcm (by decide) rfl ?_
    intro h11_5 Th11_5 ih11_5 ah11_5 lh11_5
    refine l_gR Th11_5 pcm ?_
    refine l_gR Th11_5 ppg ?_
    refine l_gR Th11_5 (d_Prog_0 Th11_5 kpg) ?_
    refine l_gR Th11_5 (d_Pa_0 Th11_5 kv0) ?_
    refine l_gI (e := ((vI h (v0 + 1) 1) + 2)) (by rw [ih11_5 (v0 + 1) 1, if_neg (fun z => absurd z.2 (by decide)), g1r6_3_0]) ?_
    refine l_gO ?_
    refine jj_Row_newlineFrom (v0 := (pg + 1)) (v1 := ((vI h (v0 + 1) 1) + 2)) (t := t) (n := n) (e := (x_nl t n ((vI h (v0 + 1) 1) + 2))) Th11_5 ktx (by show ∀ j, 0 ≤ j → j < n → vA h11_5 ((pg + 1) + 1) j = t j; rw [show vA h11_5 ((pg + 1) + 1) = vA h ((pg + 1) + 1) from (by rw [ah11_5 ((pg + 1) + 1), f1r6_3_A ((pg + 1) + 1) (by omega), ah3_2 ((pg + 1) + 1)])] <;> ((try simp only [Int32.add_zero, x_am1, x_s11, x_s12, x_s21, x_s13, x_s22, x_s31]) <;> (first | assumption | with_reducible rfl | grind))) (by show vI h11_5 (pg + 1) 1 = n; rw [show vI h11_5 (pg + 1) 1 = (vI h (pg + 1) 1) from (by rw [ih11_5 (pg + 1) 1, if_neg (fun z => absurd z.2 (by decide)), f1r6_3_I (pg + 1) 1 (by omega), ih3_2 (pg + 1) 1, if_neg (fun z => absurd z.1 (by omega))])] <;> (first | assumption | with_reducible rfl | grind)) (by show n ≤ 1000; first | assumption | with_reducible rfl | grind) rfl ?_
    try dsimp only
    refine o_sI Th11_5 kcm (by decide) rfl ?_
    intro h19_7 Th19_7 ih19_7 ah19_7 lh19_7
    refine l_gR Th19_7 (d_Pa_0 Th19_7 kv0) ?_
    refine l_gR Th19_7 pcm ?_
    refine l_gI (e := (x_nl t n ((vI h (v0 + 1) 1) + 2))) (by rw [ih19_7 cm 10, if_pos ⟨rfl, rfl⟩]) ?_
    refine o_sI Th19_7 kk1 (by decide) rfl ?_
    intro h23_8 Th23_8 ih23_8 ah23_8 lh23_8
    refine qi_some ?_
    exact ⟨Th23_8, Or.inl ⟨rfl, (by show x_lk t n (vI h (v0 + 1) 1 + 1) = 32; first | assumption | with_reducible rfl | grind), (by show vI h23_8 (v0 + 1) 1 = x_nl t n (vI h (v0 + 1) 1 + 2); rw [show vI h23_8 (v0 + 1) 1 = (x_nl t n ((vI h (v0 + 1) 1) + 2)) from (by rw [ih23_8 (v0 + 1) 1, if_pos ⟨rfl, rfl⟩])] <;> (rfl)), (by show vI h23_8 cm 9 = vI h (v0 + 1) 1 + 2; rw [show vI h23_8 cm 9 = ((vI h (v0 + 1) 1) + 2) from (by rw [ih23_8 cm 9, if_neg (fun z => absurd z.2 (by decide)), ih19_7 cm 9, if_neg (fun z => absurd z.2 (by decide)), ih11_5 cm 9, if_pos ⟨rfl, rfl⟩])] <;> (first | assumption | with_reducible rfl | grind)), (by show vI h23_8 cm 10 = x_nl t n (vI h (v0 + 1) 1 + 2); rw [show vI h23_8 cm 10 = (x_nl t n ((vI h (v0 + 1) 1) + 2)) from (by rw [ih23_8 cm 10, if_neg (fun z => absurd z.2 (by decide)), ih19_7 cm 10, if_pos ⟨rfl, rfl⟩])] <;> (first | assumption | with_reducible rfl | grind)), (fun a k na => by rw [ih23_8 a k, if_neg (fun z => na (Or.inl z)), ih19_7 a k, if_neg (fun z => na (Or.inr (Or.inr (Or.inr (z))))), ih11_5 a k, if_neg (fun z => na (Or.inr (Or.inr (Or.inl z)))), f1r6_3_I a k (fun z => na (z.elim (fun z => Or.inl z) (fun z => Or.inr (Or.inl z)))), ih3_2 a k, if_neg (fun z => na (Or.inl z))]), (fun a na => by rw [ah23_8 a, ah19_7 a, ah11_5 a, f1r6_3_A a (by omega), ah3_2 a]), (fun a na => by rw [lh23_8 a, lh19_7 a, lh11_5 a, f1r6_3_L a (by omega), lh3_2 a])⟩⟩
  · intro hr6_3 Thr6_3 g0r6_3_0
    try dsimp only
    rw [show vI h3_2 (v0 + 1) 1 = ((vI h (v0 + 1) 1) + 1) from (by rw [ih3_2 (v0 + 1) 1, if_pos ⟨rfl, rfl⟩])] at g0r6_3_0
    refine qi_if (fun _ => ?_) (fun cc9 => absurd (by decide) cc9)
    refine qi_some ?_
    exact ⟨Thr6_3, Or.inr ⟨rfl, (by show ¬ x_lk t n (vI h (v0 + 1) 1 + 1) = 32; first | assumption | with_reducible rfl | grind)⟩⟩
theorem jj_Pa_readText {L : q_L} {π : Nat → Nat → Option Nat} {N : Nat} {pg : Nat} {cm : Nat} {t : Int32 → Int32} {n : Int32} {h : z_H} {v0 : Nat} {β : Type} {f : Int32 × z_H → Option β} {Q : β → Prop} (T : x_U L π h) (kv0 : qκ L v0 = 7) (kpg : qκ L pg = 10) (ppg : π v0 5 = some pg) (kcm : qκ L cm = 2) (pcm : π v0 6 = some cm) (ptx : π (v0 + 1) 0 = some (pg + 1)) (ht : ∀ j, 0 ≤ j → j < n → vA h ((pg + 1) + 1) j = t j) (hn : vI h (pg + 1) 1 = n) (n1 : n ≤ 240) (tp : ∀ j, t j ≠ -1) (D : v0 + 5 ≤ pg) (hc : pg + 9 ≤ cm ∧ cm + 6 ≤ pg + 249) (a0 : 0 ≤ vI h (v0 + 1) 1) (H1 : ∀ h', x_U L π h' → (x_lk t n (vI h (v0 + 1) 1 + 1) = 32) → (vI h' (v0 + 1) 1 = x_nl t n (vI h (v0 + 1) 1 + 2)) → (vI h' cm 9 = vI h (v0 + 1) 1 + 2) → (vI h' cm 10 = x_nl t n (vI h (v0 + 1) 1 + 2)) → (∀ a k, ¬ ((a = (v0 + 1) ∧ k = 1) ∨ (a = (v0 + 1) ∧ k = 2) ∨ (a = cm ∧ k = 9) ∨ (a = cm ∧ k = 10)) → vI h' a k = vI h a k) → (∀ a, ¬ (a < a) → vA h' a = vA h a) → (∀ a, ¬ (a < a) → vL h' a = vL h a) → qi (f (1, h')) Q) (H0 : ∀ h', x_U L π h' → (¬ x_lk t n (vI h (v0 + 1) 1 + 1) = 32) → qi (f (0, h')) Q) : qi (z_b (f_Pa_readText N v0 h) f) Q := by
  refine qi_b (ii_Pa_readText  T kv0 kpg ppg kcm pcm ptx ht hn n1 tp D hc a0) ?_
  rintro ⟨y, hz⟩ ⟨Tz, ⟨ey, g0, g1, g2, g3, g4, g5, g6⟩ | ⟨ey, g0⟩⟩
  · dsimp only at *; subst ey; exact H1 hz Tz g0 g1 g2 g3 g4 g5 g6
  · dsimp only at *; subst ey; exact H0 hz Tz g0

set_option maxHeartbeats 2000000 in
theorem ii_Pa_readReplacement_16 {L : q_L} {π : Nat → Nat → Option Nat} {N : Nat} {pg : Nat} {cm : Nat} {t : Int32 → Int32} {n : Int32} : ∀ (m9 : Nat) (v0 : Nat) (v1 : Int32) (h : z_H), x_U L π h → qκ L v0 = 7 → (qκ L pg = 10) → (π v0 5 = some pg) → (qκ L cm = 2) → (π v0 6 = some cm) → (π (v0 + 1) 0 = some (pg + 1)) → (∀ j, 0 ≤ j → j < n → vA h ((pg + 1) + 1) j = t j) → (vI h (pg + 1) 1 = n) → (n ≤ 240) → (∀ j, t j ≠ -1) → (v0 + 5 ≤ pg) → (pg + 9 ≤ cm ∧ cm + 6 ≤ pg + 249) → (0 ≤ vI h (v0 + 1) 1) → (v1 ≤ vI h (v0 + 1) 1) → qi (f_Pa_readReplacement_16 N m9 v0 v1 h) (fun r => x_U L π r.2 ∧ ((r.1 = 1 ∧ (x_rep t n (vI h (v0 + 1) 1) (vI h (cm + 5) 6) = some (vI r.2 (v0 + 1) 1)) ∧ (vI r.2 cm 10 = vI r.2 (v0 + 1) 1 - 1) ∧ (∀ a k, ¬ ((a = cm ∧ k = 10) ∨ (a = (v0 + 1) ∧ k = 1) ∨ (a = (v0 + 1) ∧ k = 2)) → vI r.2 a k = vI h a k) ∧ (∀ a, ¬ (a < a) → vA r.2 a = vA h a) ∧ (∀ a, ¬ (a < a) → vL r.2 a = vL h a)) ∨ (r.1 = 0 ∧ (x_rep t n (vI h (v0 + 1) 1) (vI h (cm + 5) 6) = none)))) := by
  intro m9
  induction m9 with
  | zero => intro v0 v1 h T kv0 kpg ppg kcm pcm ptx ht hn n1 tp D hc a0 hs r e; rw [f_Pa_readReplacement_16] at e; cases e
  | succ m9 ih =>
    intro v0 v1 h T kv0 kpg ppg kcm pcm ptx ht hn n1 tp D hc a0 hs
    rw [f_Pa_readReplacement_16]
    have n2 : n ≤ 1000 := Int32.le_trans n1 (by decide)
    have ktx := e_Prog_0 T kpg
    refine qi_if (fun cc1 => ?_) (fun cc1 => ?_)
    · skip
      unfold f_Pa_readReplacement_148
      refine l_gR T pcm ?_
      refine l_gR T (d_Pa_0 T kv0) ?_
      have kk3 := e_Pa_0 T kv0
      refine l_gI (e := (vI h (v0 + 1) 1)) rfl ?_
      refine o_sI T kcm (by decide) rfl ?_
      intro h4i2_4 Th4i2_4 ih4i2_4 ah4i2_4 lh4i2_4
      refine l_gR Th4i2_4 (d_Pa_0 Th4i2_4 kv0) ?_
      refine l_gO ?_
      refine jj_Cur_pass (v0 := (v0 + 1)) (v1 := (47 : Int32)) (tx := (pg + 1)) (t := t) (n := n) Th4i2_4 kk3 ktx ptx (by show ∀ j, 0 ≤ j → j < n → vA h4i2_4 ((pg + 1) + 1) j = t j; rw [show vA h4i2_4 ((pg + 1) + 1) = vA h ((pg + 1) + 1) from (by rw [ah4i2_4 ((pg + 1) + 1)])] <;> ((try simp only [Int32.add_zero, x_am1, x_s11, x_s12, x_s21, x_s13, x_s22, x_s31]) <;> (first | assumption | with_reducible rfl | grind))) (by show vI h4i2_4 (pg + 1) 1 = n; rw [show vI h4i2_4 (pg + 1) 1 = (vI h (pg + 1) 1) from (by rw [ih4i2_4 (pg + 1) 1, if_neg (fun z => absurd z.2 (by decide))])] <;> (first | assumption | with_reducible rfl | grind)) ?_ ?_
      · intro hr7i2_5 Thr7i2_5 g1r7i2_5_0 g1r7i2_5_1 f1r7i2_5_I f1r7i2_5_A f1r7i2_5_L
        try dsimp only
        rw [show vI h4i2_4 (v0 + 1) 1 = (vI h (v0 + 1) 1) from (by rw [ih4i2_4 (v0 + 1) 1, if_neg (fun z => absurd z.2 (by decide))])] at g1r7i2_5_0
        rw [show vI h4i2_4 (v0 + 1) 1 = (vI h (v0 + 1) 1) from (by rw [ih4i2_4 (v0 + 1) 1, if_neg (fun z => absurd z.2 (by decide))])] at g1r7i2_5_1
        refine qi_zB (fun zb6 => ?_)
        refine qi_some ?_
        exact ⟨Thr7i2_5, Or.inl ⟨rfl, (by show x_rep t n (vI h (v0 + 1) 1) (vI h (cm + 5) 6) = some (vI hr7i2_5 (v0 + 1) 1); rw [show vI hr7i2_5 (v0 + 1) 1 = ((vI h (v0 + 1) 1) + 1) from (by rw [g1r7i2_5_0])] <;> (first | exact x_re47 n2 (by assumption) | (exfalso; have q := x_lk_out (t := t) (x_lim hs (by assumption) n1); grind))), (by show vI hr7i2_5 cm 10 = vI hr7i2_5 (v0 + 1) 1 - 1; rw [show vI hr7i2_5 cm 10 = (vI h (v0 + 1) 1) from (by rw [f1r7i2_5_I cm 10 (by omega), ih4i2_4 cm 10, if_pos ⟨rfl, rfl⟩]), show vI hr7i2_5 (v0 + 1) 1 = ((vI h (v0 + 1) 1) + 1) from (by rw [g1r7i2_5_0])] <;> (rw [x_am1])), (fun a k na => by rw [f1r7i2_5_I a k (fun z => na (z.elim (fun z => Or.inr (Or.inl z)) (fun z => Or.inr (Or.inr (z))))), ih4i2_4 a k, if_neg (fun z => na (Or.inl z))]), (fun a na => by rw [f1r7i2_5_A a (by omega), ah4i2_4 a]), (fun a na => by rw [f1r7i2_5_L a (by omega), lh4i2_4 a])⟩⟩
      · intro hr7i2_5 Thr7i2_5 g0r7i2_5_0
        try dsimp only
        rw [show vI h4i2_4 (v0 + 1) 1 = (vI h (v0 + 1) 1) from (by rw [ih4i2_4 (v0 + 1) 1, if_neg (fun z => absurd z.2 (by decide))])] at g0r7i2_5_0
        refine qi_zB (fun zb7 => ?_)
        refine qi_some ?_
        exact ⟨Thr7i2_5, Or.inr ⟨rfl, (by show x_rep t n (vI h (v0 + 1) 1) (vI h (cm + 5) 6) = none; first | exact x_re_out (x_lim hs (by assumption) n1) | exact x_re_out (x_lk_no tp (by assumption)) | exact x_re10 n2 (by assumption) | (exfalso; grind))⟩⟩
    · skip
      refine l_gR T (d_Pa_0 T kv0) ?_
      have kk8 := e_Pa_0 T kv0
      refine l_gO ?_
      refine jj_Cur_look (v0 := (v0 + 1)) (v1 := (0 : Int32)) (tx := (pg + 1)) (t := t) (n := n) (e := (x_lk t n (vI h (v0 + 1) 1))) T kk8 ktx ptx ht hn (by simp only [Int32.add_zero, x_am1, x_s11, x_s12, x_s21, x_s13, x_s22, x_s31]) ?_
      try dsimp only
      refine qi_if (fun cc10 => ?_) (fun cc10 => ?_)
      · skip
        unfold f_Pa_readReplacement_148
        refine l_gR T pcm ?_
        refine l_gR T (d_Pa_0 T kv0) ?_
        refine l_gI (e := (vI h (v0 + 1) 1)) rfl ?_
        refine o_sI T kcm (by decide) rfl ?_
        intro h4i11_12 Th4i11_12 ih4i11_12 ah4i11_12 lh4i11_12
        refine l_gR Th4i11_12 (d_Pa_0 Th4i11_12 kv0) ?_
        refine l_gO ?_
        refine jj_Cur_pass (v0 := (v0 + 1)) (v1 := (47 : Int32)) (tx := (pg + 1)) (t := t) (n := n) Th4i11_12 kk8 ktx ptx (by show ∀ j, 0 ≤ j → j < n → vA h4i11_12 ((pg + 1) + 1) j = t j; rw [show vA h4i11_12 ((pg + 1) + 1) = vA h ((pg + 1) + 1) from (by rw [ah4i11_12 ((pg + 1) + 1)])] <;> ((try simp only [Int32.add_zero, x_am1, x_s11, x_s12, x_s21, x_s13, x_s22, x_s31]) <;> (first | assumption | with_reducible rfl | grind))) (by show vI h4i11_12 (pg + 1) 1 = n; rw [show vI h4i11_12 (pg + 1) 1 = (vI h (pg + 1) 1) from (by rw [ih4i11_12 (pg + 1) 1, if_neg (fun z => absurd z.2 (by decide))])] <;> (first | assumption | with_reducible rfl | grind)) ?_ ?_
        · intro hr7i11_13 Thr7i11_13 g1r7i11_13_0 g1r7i11_13_1 f1r7i11_13_I f1r7i11_13_A f1r7i11_13_L
          try dsimp only
          rw [show vI h4i11_12 (v0 + 1) 1 = (vI h (v0 + 1) 1) from (by rw [ih4i11_12 (v0 + 1) 1, if_neg (fun z => absurd z.2 (by decide))])] at g1r7i11_13_0
          rw [show vI h4i11_12 (v0 + 1) 1 = (vI h (v0 + 1) 1) from (by rw [ih4i11_12 (v0 + 1) 1, if_neg (fun z => absurd z.2 (by decide))])] at g1r7i11_13_1
          refine qi_zB (fun zb14 => ?_)
          refine qi_some ?_
          exact ⟨Thr7i11_13, Or.inl ⟨rfl, (by show x_rep t n (vI h (v0 + 1) 1) (vI h (cm + 5) 6) = some (vI hr7i11_13 (v0 + 1) 1); rw [show vI hr7i11_13 (v0 + 1) 1 = ((vI h (v0 + 1) 1) + 1) from (by rw [g1r7i11_13_0])] <;> (first | exact x_re47 n2 (by assumption) | (exfalso; have q := x_lk_out (t := t) (x_lim hs (by assumption) n1); grind))), (by show vI hr7i11_13 cm 10 = vI hr7i11_13 (v0 + 1) 1 - 1; rw [show vI hr7i11_13 cm 10 = (vI h (v0 + 1) 1) from (by rw [f1r7i11_13_I cm 10 (by omega), ih4i11_12 cm 10, if_pos ⟨rfl, rfl⟩]), show vI hr7i11_13 (v0 + 1) 1 = ((vI h (v0 + 1) 1) + 1) from (by rw [g1r7i11_13_0])] <;> (rw [x_am1])), (fun a k na => by rw [f1r7i11_13_I a k (fun z => na (z.elim (fun z => Or.inr (Or.inl z)) (fun z => Or.inr (Or.inr (z))))), ih4i11_12 a k, if_neg (fun z => na (Or.inl z))]), (fun a na => by rw [f1r7i11_13_A a (by omega), ah4i11_12 a]), (fun a na => by rw [f1r7i11_13_L a (by omega), lh4i11_12 a])⟩⟩
        · intro hr7i11_13 Thr7i11_13 g0r7i11_13_0
          try dsimp only
          rw [show vI h4i11_12 (v0 + 1) 1 = (vI h (v0 + 1) 1) from (by rw [ih4i11_12 (v0 + 1) 1, if_neg (fun z => absurd z.2 (by decide))])] at g0r7i11_13_0
          refine qi_zB (fun zb15 => ?_)
          refine qi_some ?_
          exact ⟨Thr7i11_13, Or.inr ⟨rfl, (by show x_rep t n (vI h (v0 + 1) 1) (vI h (cm + 5) 6) = none; first | exact x_re_out (x_lim hs (by assumption) n1) | exact x_re_out (x_lk_no tp (by assumption)) | exact x_re10 n2 (by assumption) | (exfalso; grind))⟩⟩
      · skip
        refine l_gR T (d_Pa_0 T kv0) ?_
        refine l_gO ?_
        refine jj_Cur_look (v0 := (v0 + 1)) (v1 := (0 : Int32)) (tx := (pg + 1)) (t := t) (n := n) (e := (x_lk t n (vI h (v0 + 1) 1))) T kk8 ktx ptx ht hn (by simp only [Int32.add_zero, x_am1, x_s11, x_s12, x_s21, x_s13, x_s22, x_s31]) ?_
        try dsimp only
        refine qi_bs ?_
        refine qi_if (fun cc17 => ?_) (fun cc17 => ?_)
        · skip
          unfold f_Pa_readReplacement_56
          refine l_gR T (d_Pa_0 T kv0) ?_
          refine l_gO ?_
          refine jj_Cur_refuse (v0 := (v0 + 1)) (v1 := (0 : Int32)) T kk8 ?_
          · intro hr3i18_19 Thr3i18_19
            try dsimp only
            refine qi_zB (fun zb20 => ?_)
            refine qi_some ?_
            exact ⟨Thr3i18_19, Or.inr ⟨rfl, (by show x_rep t n (vI h (v0 + 1) 1) (vI h (cm + 5) 6) = none; first | exact x_re_out (x_lim hs (by assumption) n1) | exact x_re_out (x_lk_no tp (by assumption)) | exact x_re10 n2 (by assumption) | (exfalso; grind))⟩⟩
        · skip
          refine qi_if (fun cc21 => ?_) (fun cc21 => ?_)
          · skip
            unfold f_Pa_readReplacement_56
            refine l_gR T (d_Pa_0 T kv0) ?_
            refine l_gO ?_
            refine jj_Cur_refuse (v0 := (v0 + 1)) (v1 := (0 : Int32)) T kk8 ?_
            · intro hr3i22_23 Thr3i22_23
              try dsimp only
              refine qi_zB (fun zb24 => ?_)
              refine qi_some ?_
              exact ⟨Thr3i22_23, Or.inr ⟨rfl, (by show x_rep t n (vI h (v0 + 1) 1) (vI h (cm + 5) 6) = none; first | exact x_re_out (x_lim hs (by assumption) n1) | exact x_re_out (x_lk_no tp (by assumption)) | exact x_re10 n2 (by assumption) | (exfalso; grind))⟩⟩
          · skip
            refine qi_if (fun cc25 => ?_) (fun cc25 => ?_)
            · skip
              refine l_gR T (d_Pa_0 T kv0) ?_
              refine l_gO ?_
              refine jj_Cur_look (v0 := (v0 + 1)) (v1 := (1 : Int32)) (tx := (pg + 1)) (t := t) (n := n) (e := (x_lk t n (vI h (v0 + 1) 1 + 1))) T kk8 ktx ptx ht hn rfl ?_
              try dsimp only
              refine qi_if (fun cc27 => ?_) (fun cc27 => ?_)
              · skip
                refine l_gR T (d_Pa_0 T kv0) ?_
                refine l_gO ?_
                refine jj_Cur_refuse (v0 := (v0 + 1)) (v1 := (1 : Int32)) T kk8 ?_
                · intro hr32_28 Thr32_28
                  try dsimp only
                  refine qi_zB (fun zb29 => ?_)
                  refine qi_some ?_
                  exact ⟨Thr32_28, Or.inr ⟨rfl, (by show x_rep t n (vI h (v0 + 1) 1) (vI h (cm + 5) 6) = none; first | (rw [x_re92 n2 cc25, if_neg (by assumption)]) | (rw [x_re92 n2 cc25, (by assumption : x_lk t n (vI h (v0 + 1) 1 + 1) = -1), if_neg (x_m1 _)]))⟩⟩
              · skip
                refine l_gR T (d_Pa_0 T kv0) ?_
                refine l_gO ?_
                refine jj_Cur_look (v0 := (v0 + 1)) (v1 := (1 : Int32)) (tx := (pg + 1)) (t := t) (n := n) (e := (x_lk t n (vI h (v0 + 1) 1 + 1))) T kk8 ktx ptx ht hn rfl ?_
                try dsimp only
                refine l_gO ?_
                refine jj_Pa_mayFollowBackslash (v0 := v0) (v1 := ((x_lk t n (vI h (v0 + 1) 1 + 1)))) (cm := cm) T kv0 kcm pcm (fun _ g1r21_31_0 => ?_) (fun _ g0r21_31_0 => ?_)
                · try dsimp only
                  refine qi_if (fun cc32 => absurd cc32 (by decide)) (fun _ => ?_)
                  refine l_gR T (d_Pa_0 T kv0) ?_
                  refine l_gI (e := (vI h (v0 + 1) 1)) rfl ?_
                  refine o_sI T kk8 (by decide) rfl ?_
                  intro h25_33 Th25_33 ih25_33 ah25_33 lh25_33
                  unfold f_Pa_readReplacement_129
                  refine l_gR Th25_33 (d_Pa_0 Th25_33 kv0) ?_
                  refine l_gI (e := ((vI h (v0 + 1) 1) + 1)) (by rw [ih25_33 (v0 + 1) 1, if_pos ⟨rfl, rfl⟩]) ?_
                  refine o_sI Th25_33 kk8 (by decide) rfl ?_
                  intro h3i34_35 Th3i34_35 ih3i34_35 ah3i34_35 lh3i34_35
                  refine qi_bs ?_
                  refine qi_mono (ih v0 (v1 + 1) h3i34_35 Th3i34_35 kv0 kpg ppg kcm pcm ptx (by show ∀ j, 0 ≤ j → j < n → vA h3i34_35 ((pg + 1) + 1) j = t j; rw [show vA h3i34_35 ((pg + 1) + 1) = vA h ((pg + 1) + 1) from (by rw [ah3i34_35 ((pg + 1) + 1), ah25_33 ((pg + 1) + 1)])] <;> ((try simp only [Int32.add_zero, x_am1, x_s11, x_s12, x_s21, x_s13, x_s22, x_s31]) <;> (first | assumption | with_reducible rfl | grind))) (by show vI h3i34_35 (pg + 1) 1 = n; rw [show vI h3i34_35 (pg + 1) 1 = (vI h (pg + 1) 1) from (by rw [ih3i34_35 (pg + 1) 1, if_neg (fun z => absurd z.1 (by omega)), ih25_33 (pg + 1) 1, if_neg (fun z => absurd z.1 (by omega))])] <;> (first | assumption | with_reducible rfl | grind)) n1 tp D hc (by show 0 ≤ vI h3i34_35 (v0 + 1) 1; rw [show vI h3i34_35 (v0 + 1) 1 = (((vI h (v0 + 1) 1) + 1) + 1) from (by rw [ih3i34_35 (v0 + 1) 1, if_pos ⟨rfl, rfl⟩])] <;> ((try simp only [Int32.add_zero, x_am1, x_s11, x_s12, x_s21, x_s13, x_s22, x_s31]) <;> (exact x_0le a0 (x_lp2 n2 (t := t) (by assumption))))) (by show (v1 + 1) ≤ vI h3i34_35 (v0 + 1) 1; rw [show vI h3i34_35 (v0 + 1) 1 = (((vI h (v0 + 1) 1) + 1) + 1) from (by rw [ih3i34_35 (v0 + 1) 1, if_pos ⟨rfl, rfl⟩])] <;> ((try simp only [Int32.add_zero, x_am1, x_s11, x_s12, x_s21, x_s13, x_s22, x_s31]) <;> (exact x_stp hs (by assumption) (x_lp2 n2 (t := t) (by assumption)))))) ?_
                  rintro ⟨y, hrz36_37⟩ ⟨Thrz36_37, ⟨ey, g1rz36_37_0, g1rz36_37_1, f1rz36_37_I, f1rz36_37_A, f1rz36_37_L⟩ | ⟨ey, g0rz36_37_0⟩⟩
                  · dsimp only at *
                    subst ey
                    rw [show vI h3i34_35 (v0 + 1) 1 = (((vI h (v0 + 1) 1) + 1) + 1) from (by rw [ih3i34_35 (v0 + 1) 1, if_pos ⟨rfl, rfl⟩]), show vI h3i34_35 (cm + 5) 6 = (vI h (cm + 5) 6) from (by rw [ih3i34_35 (cm + 5) 6, if_neg (fun z => absurd z.2 (by decide)), ih25_33 (cm + 5) 6, if_neg (fun z => absurd z.2 (by decide))])] at g1rz36_37_0
                    try simp only [Int32.add_zero, x_am1, x_s11, x_s12, x_s21, x_s13, x_s22, x_s31] at g1rz36_37_0
                    exact ⟨Thrz36_37, Or.inl ⟨rfl, (by show x_rep t n (vI h (v0 + 1) 1) (vI h (cm + 5) 6) = some (vI hrz36_37 (v0 + 1) 1); rw [x_re92 n2 cc25, if_pos (by assumption)]; exact g1rz36_37_0), (by show vI hrz36_37 cm 10 = vI hrz36_37 (v0 + 1) 1 - 1; rw [show vI hrz36_37 cm 10 = (vI hrz36_37 (v0 + 1) 1 - 1) from (by rw [g1rz36_37_1])] <;> (rfl)), (fun a k na => by rw [f1rz36_37_I a k (fun z => na (z.elim (fun z => Or.inl z) (fun z => z.elim (fun z => Or.inr (Or.inl z)) (fun z => Or.inr (Or.inr (z)))))), ih3i34_35 a k, if_neg (fun z => na (Or.inr (Or.inl z))), ih25_33 a k, if_neg (fun z => na (Or.inr (Or.inl z)))]), (fun a na => by rw [f1rz36_37_A a (by omega), ah3i34_35 a, ah25_33 a]), (fun a na => by rw [f1rz36_37_L a (by omega), lh3i34_35 a, lh25_33 a])⟩⟩
                  · dsimp only at *
                    subst ey
                    rw [show vI h3i34_35 (v0 + 1) 1 = (((vI h (v0 + 1) 1) + 1) + 1) from (by rw [ih3i34_35 (v0 + 1) 1, if_pos ⟨rfl, rfl⟩]), show vI h3i34_35 (cm + 5) 6 = (vI h (cm + 5) 6) from (by rw [ih3i34_35 (cm + 5) 6, if_neg (fun z => absurd z.2 (by decide)), ih25_33 (cm + 5) 6, if_neg (fun z => absurd z.2 (by decide))])] at g0rz36_37_0
                    try simp only [Int32.add_zero, x_am1, x_s11, x_s12, x_s21, x_s13, x_s22, x_s31] at g0rz36_37_0
                    exact ⟨Thrz36_37, Or.inr ⟨rfl, (by show x_rep t n (vI h (v0 + 1) 1) (vI h (cm + 5) 6) = none; rw [x_re92 n2 cc25, if_pos (by assumption)]; exact g0rz36_37_0)⟩⟩
                · try dsimp only
                  refine qi_if (fun _ => ?_) (fun cc38 => absurd (by decide) cc38)
                  refine l_gR T (d_Pa_0 T kv0) ?_
                  refine l_gO ?_
                  refine jj_Cur_refuse (v0 := (v0 + 1)) (v1 := (0 : Int32)) T kk8 ?_
                  · intro hr28_39 Thr28_39
                    try dsimp only
                    refine qi_zB (fun zb40 => ?_)
                    refine qi_some ?_
                    exact ⟨Thr28_39, Or.inr ⟨rfl, (by show x_rep t n (vI h (v0 + 1) 1) (vI h (cm + 5) 6) = none; first | (rw [x_re92 n2 cc25, if_neg (by assumption)]) | (rw [x_re92 n2 cc25, (by assumption : x_lk t n (vI h (v0 + 1) 1 + 1) = -1), if_neg (x_m1 _)]))⟩⟩
            · skip
              unfold f_Pa_readReplacement_129
              refine l_gR T (d_Pa_0 T kv0) ?_
              refine l_gI (e := (vI h (v0 + 1) 1)) rfl ?_
              refine o_sI T kk8 (by decide) rfl ?_
              intro h3i41_42 Th3i41_42 ih3i41_42 ah3i41_42 lh3i41_42
              refine qi_bs ?_
              refine qi_mono (ih v0 (v1 + 1) h3i41_42 Th3i41_42 kv0 kpg ppg kcm pcm ptx (by show ∀ j, 0 ≤ j → j < n → vA h3i41_42 ((pg + 1) + 1) j = t j; rw [show vA h3i41_42 ((pg + 1) + 1) = vA h ((pg + 1) + 1) from (by rw [ah3i41_42 ((pg + 1) + 1)])] <;> ((try simp only [Int32.add_zero, x_am1, x_s11, x_s12, x_s21, x_s13, x_s22, x_s31]) <;> (first | assumption | with_reducible rfl | grind))) (by show vI h3i41_42 (pg + 1) 1 = n; rw [show vI h3i41_42 (pg + 1) 1 = (vI h (pg + 1) 1) from (by rw [ih3i41_42 (pg + 1) 1, if_neg (fun z => absurd z.1 (by omega))])] <;> (first | assumption | with_reducible rfl | grind)) n1 tp D hc (by show 0 ≤ vI h3i41_42 (v0 + 1) 1; rw [show vI h3i41_42 (v0 + 1) 1 = ((vI h (v0 + 1) 1) + 1) from (by rw [ih3i41_42 (v0 + 1) 1, if_pos ⟨rfl, rfl⟩])] <;> (exact x_0le a0 (x_lp1 n2 (t := t) (by assumption)))) (by show (v1 + 1) ≤ vI h3i41_42 (v0 + 1) 1; rw [show vI h3i41_42 (v0 + 1) 1 = ((vI h (v0 + 1) 1) + 1) from (by rw [ih3i41_42 (v0 + 1) 1, if_pos ⟨rfl, rfl⟩])] <;> (exact x_stp hs (by assumption) (x_lp1 n2 (t := t) (by assumption))))) ?_
              rintro ⟨y, hrz43_44⟩ ⟨Thrz43_44, ⟨ey, g1rz43_44_0, g1rz43_44_1, f1rz43_44_I, f1rz43_44_A, f1rz43_44_L⟩ | ⟨ey, g0rz43_44_0⟩⟩
              · dsimp only at *
                subst ey
                rw [show vI h3i41_42 (v0 + 1) 1 = ((vI h (v0 + 1) 1) + 1) from (by rw [ih3i41_42 (v0 + 1) 1, if_pos ⟨rfl, rfl⟩]), show vI h3i41_42 (cm + 5) 6 = (vI h (cm + 5) 6) from (by rw [ih3i41_42 (cm + 5) 6, if_neg (fun z => absurd z.2 (by decide))])] at g1rz43_44_0
                exact ⟨Thrz43_44, Or.inl ⟨rfl, (by show x_rep t n (vI h (v0 + 1) 1) (vI h (cm + 5) 6) = some (vI hrz43_44 (v0 + 1) 1); exact (x_repl n2 (by assumption) (by assumption) (by assumption) (by assumption)).trans g1rz43_44_0), (by show vI hrz43_44 cm 10 = vI hrz43_44 (v0 + 1) 1 - 1; rw [show vI hrz43_44 cm 10 = (vI hrz43_44 (v0 + 1) 1 - 1) from (by rw [g1rz43_44_1])] <;> (rfl)), (fun a k na => by rw [f1rz43_44_I a k (fun z => na (z.elim (fun z => Or.inl z) (fun z => z.elim (fun z => Or.inr (Or.inl z)) (fun z => Or.inr (Or.inr (z)))))), ih3i41_42 a k, if_neg (fun z => na (Or.inr (Or.inl z)))]), (fun a na => by rw [f1rz43_44_A a (by omega), ah3i41_42 a]), (fun a na => by rw [f1rz43_44_L a (by omega), lh3i41_42 a])⟩⟩
              · dsimp only at *
                subst ey
                rw [show vI h3i41_42 (v0 + 1) 1 = ((vI h (v0 + 1) 1) + 1) from (by rw [ih3i41_42 (v0 + 1) 1, if_pos ⟨rfl, rfl⟩]), show vI h3i41_42 (cm + 5) 6 = (vI h (cm + 5) 6) from (by rw [ih3i41_42 (cm + 5) 6, if_neg (fun z => absurd z.2 (by decide))])] at g0rz43_44_0
                exact ⟨Thrz43_44, Or.inr ⟨rfl, (by show x_rep t n (vI h (v0 + 1) 1) (vI h (cm + 5) 6) = none; exact (x_repl n2 (by assumption) (by assumption) (by assumption) (by assumption)).trans g0rz43_44_0)⟩⟩
theorem jj_Pa_readReplacement_16 {L : q_L} {π : Nat → Nat → Option Nat} {N : Nat} {pg : Nat} {cm : Nat} {t : Int32 → Int32} {n : Int32} {m9 : Nat} {h : z_H} {v0 : Nat} {v1 : Int32} {β : Type} {f : Int32 × z_H → Option β} {Q : β → Prop} (T : x_U L π h) (kv0 : qκ L v0 = 7) (kpg : qκ L pg = 10) (ppg : π v0 5 = some pg) (kcm : qκ L cm = 2) (pcm : π v0 6 = some cm) (ptx : π (v0 + 1) 0 = some (pg + 1)) (ht : ∀ j, 0 ≤ j → j < n → vA h ((pg + 1) + 1) j = t j) (hn : vI h (pg + 1) 1 = n) (n1 : n ≤ 240) (tp : ∀ j, t j ≠ -1) (D : v0 + 5 ≤ pg) (hc : pg + 9 ≤ cm ∧ cm + 6 ≤ pg + 249) (a0 : 0 ≤ vI h (v0 + 1) 1) (hs : v1 ≤ vI h (v0 + 1) 1) (H1 : ∀ h', x_U L π h' → (x_rep t n (vI h (v0 + 1) 1) (vI h (cm + 5) 6) = some (vI h' (v0 + 1) 1)) → (vI h' cm 10 = vI h' (v0 + 1) 1 - 1) → (∀ a k, ¬ ((a = cm ∧ k = 10) ∨ (a = (v0 + 1) ∧ k = 1) ∨ (a = (v0 + 1) ∧ k = 2)) → vI h' a k = vI h a k) → (∀ a, ¬ (a < a) → vA h' a = vA h a) → (∀ a, ¬ (a < a) → vL h' a = vL h a) → qi (f (1, h')) Q) (H0 : ∀ h', x_U L π h' → (x_rep t n (vI h (v0 + 1) 1) (vI h (cm + 5) 6) = none) → qi (f (0, h')) Q) : qi (z_b (f_Pa_readReplacement_16 N m9 v0 v1 h) f) Q := by
  refine qi_b (ii_Pa_readReplacement_16 m9 v0 v1 h  T kv0 kpg ppg kcm pcm ptx ht hn n1 tp D hc a0 hs) ?_
  rintro ⟨y, hz⟩ ⟨Tz, ⟨ey, g0, g1, g2, g3, g4⟩ | ⟨ey, g0⟩⟩
  · dsimp only at *; subst ey; exact H1 hz Tz g0 g1 g2 g3 g4
  · dsimp only at *; subst ey; exact H0 hz Tz g0

set_option maxHeartbeats 2000000 in
theorem ii_Pa_readReplacement {L : q_L} {π : Nat → Nat → Option Nat} {N : Nat} {pg : Nat} {cm : Nat} {t : Int32 → Int32} {n : Int32} {h : z_H} {v0 : Nat} (T : x_U L π h) (kv0 : qκ L v0 = 7) (kpg : qκ L pg = 10) (ppg : π v0 5 = some pg) (kcm : qκ L cm = 2) (pcm : π v0 6 = some cm) (ptx : π (v0 + 1) 0 = some (pg + 1)) (ht : ∀ j, 0 ≤ j → j < n → vA h ((pg + 1) + 1) j = t j) (hn : vI h (pg + 1) 1 = n) (n1 : n ≤ 240) (tp : ∀ j, t j ≠ -1) (D : v0 + 5 ≤ pg) (hc : pg + 9 ≤ cm ∧ cm + 6 ≤ pg + 249) (a0 : 0 ≤ vI h (v0 + 1) 1) : qi (f_Pa_readReplacement N v0 h) (fun r => x_U L π r.2 ∧ ((r.1 = 1 ∧ (x_rep t n (vI h (v0 + 1) 1) (vI h (cm + 5) 6) = some (vI r.2 (v0 + 1) 1)) ∧ (vI r.2 cm 9 = vI h (v0 + 1) 1) ∧ (vI r.2 cm 10 = vI r.2 (v0 + 1) 1 - 1) ∧ (∀ a k, ¬ ((a = cm ∧ k = 9) ∨ (a = cm ∧ k = 10) ∨ (a = (v0 + 1) ∧ k = 1) ∨ (a = (v0 + 1) ∧ k = 2)) → vI r.2 a k = vI h a k) ∧ (∀ a, ¬ (a < a) → vA r.2 a = vA h a) ∧ (∀ a, ¬ (a < a) → vL r.2 a = vL h a)) ∨ (r.1 = 0 ∧ (x_rep t n (vI h (v0 + 1) 1) (vI h (cm + 5) 6) = none)))) := by
  have n2 : n ≤ 1000 := Int32.le_trans n1 (by decide)
  have ktx := e_Prog_0 T kpg
  unfold f_Pa_readReplacement
  refine l_gR T pcm ?_
  refine l_gR T (d_Pa_0 T kv0) ?_
  have kk1 := e_Pa_0 T kv0
  refine l_gI (e := (vI h (v0 + 1) 1)) rfl ?_
  refine o_sI T kcm (by decide) rfl ?_
  intro h4_2 Th4_2 ih4_2 ah4_2 lh4_2
  refine qi_tailp ?_
  refine jj_Pa_readReplacement_16 (v0 := v0) (v1 := (0 : Int32)) (pg := pg) (cm := cm) (t := t) (n := n) Th4_2 kv0 kpg ppg kcm pcm ptx (by show ∀ j, 0 ≤ j → j < n → vA h4_2 ((pg + 1) + 1) j = t j; rw [show vA h4_2 ((pg + 1) + 1) = vA h ((pg + 1) + 1) from (by rw [ah4_2 ((pg + 1) + 1)])] <;> ((try simp only [Int32.add_zero, x_am1, x_s11, x_s12, x_s21, x_s13, x_s22, x_s31]) <;> (first | assumption | with_reducible rfl | grind))) (by show vI h4_2 (pg + 1) 1 = n; rw [show vI h4_2 (pg + 1) 1 = (vI h (pg + 1) 1) from (by rw [ih4_2 (pg + 1) 1, if_neg (fun z => absurd z.2 (by decide))])] <;> (first | assumption | with_reducible rfl | grind)) n1 tp D hc (by show 0 ≤ vI h4_2 (v0 + 1) 1; rw [show vI h4_2 (v0 + 1) 1 = (vI h (v0 + 1) 1) from (by rw [ih4_2 (v0 + 1) 1, if_neg (fun z => absurd z.2 (by decide))])] <;> (first | assumption | with_reducible rfl | grind)) (by show (0 : Int32) ≤ vI h4_2 (v0 + 1) 1; rw [show vI h4_2 (v0 + 1) 1 = (vI h (v0 + 1) 1) from (by rw [ih4_2 (v0 + 1) 1, if_neg (fun z => absurd z.2 (by decide))])] <;> (first | assumption | with_reducible rfl | grind)) ?_ ?_
  · intro hrz3_4 Thrz3_4 g1rz3_4_0 g1rz3_4_1 f1rz3_4_I f1rz3_4_A f1rz3_4_L
    try dsimp only
    rw [show vI h4_2 (v0 + 1) 1 = (vI h (v0 + 1) 1) from (by rw [ih4_2 (v0 + 1) 1, if_neg (fun z => absurd z.2 (by decide))]), show vI h4_2 (cm + 5) 6 = (vI h (cm + 5) 6) from (by rw [ih4_2 (cm + 5) 6, if_neg (fun z => absurd z.2 (by decide))])] at g1rz3_4_0
    refine qi_some ?_
    exact ⟨Thrz3_4, Or.inl ⟨rfl, g1rz3_4_0, (by show vI hrz3_4 cm 9 = vI h (v0 + 1) 1; rw [show vI hrz3_4 cm 9 = (vI h (v0 + 1) 1) from (by rw [f1rz3_4_I cm 9 (by omega), ih4_2 cm 9, if_pos ⟨rfl, rfl⟩])] <;> (first | assumption | with_reducible rfl | grind)), (by show vI hrz3_4 cm 10 = vI hrz3_4 (v0 + 1) 1 - 1; rw [show vI hrz3_4 cm 10 = (vI hrz3_4 (v0 + 1) 1 - 1) from (by rw [g1rz3_4_1])] <;> (first | assumption | with_reducible rfl | grind)), (fun a k na => by rw [f1rz3_4_I a k (fun z => na (z.elim (fun z => Or.inr (Or.inl z)) (fun z => z.elim (fun z => Or.inr (Or.inr (Or.inl z))) (fun z => Or.inr (Or.inr (Or.inr (z))))))), ih4_2 a k, if_neg (fun z => na (Or.inl z))]), (fun a na => by rw [f1rz3_4_A a (by omega), ah4_2 a]), (fun a na => by rw [f1rz3_4_L a (by omega), lh4_2 a])⟩⟩
  · intro hrz3_4 Thrz3_4 g0rz3_4_0
    try dsimp only
    rw [show vI h4_2 (v0 + 1) 1 = (vI h (v0 + 1) 1) from (by rw [ih4_2 (v0 + 1) 1, if_neg (fun z => absurd z.2 (by decide))]), show vI h4_2 (cm + 5) 6 = (vI h (cm + 5) 6) from (by rw [ih4_2 (cm + 5) 6, if_neg (fun z => absurd z.2 (by decide))])] at g0rz3_4_0
    refine qi_some ?_
    exact ⟨Thrz3_4, Or.inr ⟨rfl, g0rz3_4_0⟩⟩
theorem jj_Pa_readReplacement {L : q_L} {π : Nat → Nat → Option Nat} {N : Nat} {pg : Nat} {cm : Nat} {t : Int32 → Int32} {n : Int32} {h : z_H} {v0 : Nat} {β : Type} {f : Int32 × z_H → Option β} {Q : β → Prop} (T : x_U L π h) (kv0 : qκ L v0 = 7) (kpg : qκ L pg = 10) (ppg : π v0 5 = some pg) (kcm : qκ L cm = 2) (pcm : π v0 6 = some cm) (ptx : π (v0 + 1) 0 = some (pg + 1)) (ht : ∀ j, 0 ≤ j → j < n → vA h ((pg + 1) + 1) j = t j) (hn : vI h (pg + 1) 1 = n) (n1 : n ≤ 240) (tp : ∀ j, t j ≠ -1) (D : v0 + 5 ≤ pg) (hc : pg + 9 ≤ cm ∧ cm + 6 ≤ pg + 249) (a0 : 0 ≤ vI h (v0 + 1) 1) (H1 : ∀ h', x_U L π h' → (x_rep t n (vI h (v0 + 1) 1) (vI h (cm + 5) 6) = some (vI h' (v0 + 1) 1)) → (vI h' cm 9 = vI h (v0 + 1) 1) → (vI h' cm 10 = vI h' (v0 + 1) 1 - 1) → (∀ a k, ¬ ((a = cm ∧ k = 9) ∨ (a = cm ∧ k = 10) ∨ (a = (v0 + 1) ∧ k = 1) ∨ (a = (v0 + 1) ∧ k = 2)) → vI h' a k = vI h a k) → (∀ a, ¬ (a < a) → vA h' a = vA h a) → (∀ a, ¬ (a < a) → vL h' a = vL h a) → qi (f (1, h')) Q) (H0 : ∀ h', x_U L π h' → (x_rep t n (vI h (v0 + 1) 1) (vI h (cm + 5) 6) = none) → qi (f (0, h')) Q) : qi (z_b (f_Pa_readReplacement N v0 h) f) Q := by
  refine qi_b (ii_Pa_readReplacement  T kv0 kpg ppg kcm pcm ptx ht hn n1 tp D hc a0) ?_
  rintro ⟨y, hz⟩ ⟨Tz, ⟨ey, g0, g1, g2, g3, g4, g5⟩ | ⟨ey, g0⟩⟩
  · dsimp only at *; subst ey; exact H1 hz Tz g0 g1 g2 g3 g4 g5
  · dsimp only at *; subst ey; exact H0 hz Tz g0

