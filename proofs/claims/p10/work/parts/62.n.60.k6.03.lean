set_option maxHeartbeats 2000000 in
theorem ii_Pa_readExchange_169 {L : q_L} {π : Nat → Nat → Option Nat} {N : Nat} {pg : Nat} {cm : Nat} {t : Int32 → Int32} {n : Int32} : ∀ (m9 : Nat) (v0 : Nat) (v1 : Int32) (h : z_H), x_U L π h → qκ L v0 = 7 → (qκ L pg = 10) → (π v0 5 = some pg) → (qκ L cm = 2) → (π v0 6 = some cm) → (π (v0 + 1) 0 = some (pg + 1)) → (∀ j, 0 ≤ j → j < n → vA h ((pg + 1) + 1) j = t j) → (vI h (pg + 1) 1 = n) → (n ≤ 240) → (∀ j, t j ≠ -1) → (v0 + 5 ≤ pg) → (pg + 9 ≤ cm ∧ cm + 6 ≤ pg + 249) → (0 ≤ vI h (v0 + 1) 1) → (0 ≤ v1 ∧ v1 ≤ vI h cm 10 ∧ vI h cm 10 ≤ 1000) → qi (f_Pa_readExchange_169 N m9 v0 v1 h) (fun r => x_U L π r.2 ∧ ((r.1 = 1 ∧ (x_yt t n (vI h cm 10 - v1) (vI h (v0 + 1) 1) = some (vI r.2 (v0 + 1) 1)) ∧ (∀ a k, ¬ ((a = (v0 + 1) ∧ k = 1) ∨ (a = (v0 + 1) ∧ k = 2)) → vI r.2 a k = vI h a k) ∧ (∀ a, ¬ (a < a) → vA r.2 a = vA h a) ∧ (∀ a, ¬ (a < a) → vL r.2 a = vL h a)) ∨ (r.1 = 0 ∧ (x_yt t n (vI h cm 10 - v1) (vI h (v0 + 1) 1) = none)))) := by
  intro m9
  induction m9 with
  | zero => intro v0 v1 h T kv0 kpg ppg kcm pcm ptx ht hn n1 tp D hc a0 wk r e; rw [f_Pa_readExchange_169] at e; cases e
  | succ m9 ih =>
    intro v0 v1 h T kv0 kpg ppg kcm pcm ptx ht hn n1 tp D hc a0 wk
    rw [f_Pa_readExchange_169]
    have n2 : n ≤ 1000 := Int32.le_trans n1 (by decide)
    have ktx := e_Prog_0 T kpg
    refine l_gR T pcm ?_
    refine l_gI (e := (vI h cm 10)) rfl ?_
    refine qi_if (fun cc1 => ?_) (fun cc1 => ?_)
    · skip
      refine l_gR T (d_Pa_0 T kv0) ?_
      have kk2 := e_Pa_0 T kv0
      refine l_gO ?_
      refine jj_Cur_pass (v0 := (v0 + 1)) (v1 := (47 : Int32)) (tx := (pg + 1)) (t := t) (n := n) T kk2 ktx ptx ht hn ?_ ?_
      · intro hr6_3 Thr6_3 g1r6_3_0 g1r6_3_1 f1r6_3_I f1r6_3_A f1r6_3_L
        try dsimp only
        refine qi_zB (fun zb4 => ?_)
        refine qi_some ?_
        exact ⟨Thr6_3, Or.inl ⟨rfl, (by show x_yt t n (vI h cm 10 - v1) (vI h (v0 + 1) 1) = some (vI hr6_3 (v0 + 1) 1); rw [show vI hr6_3 (v0 + 1) 1 = (vI h (v0 + 1) 1 + 1) from (by rw [g1r6_3_0])] <;> (rw [x_eq0 wk (by assumption)]; exact x_yt0 n2 (by assumption))), (fun a k na => by rw [f1r6_3_I a k (fun z => na (z.elim (fun z => Or.inl z) (fun z => Or.inr (z))))]), (fun a na => by rw [f1r6_3_A a (by omega)]), (fun a na => by rw [f1r6_3_L a (by omega)])⟩⟩
      · intro hr6_3 Thr6_3 g0r6_3_0
        try dsimp only
        refine qi_zB (fun zb5 => ?_)
        refine qi_some ?_
        exact ⟨Thr6_3, Or.inr ⟨rfl, (by show x_yt t n (vI h cm 10 - v1) (vI h (v0 + 1) 1) = none; first | (rw [x_eq0 wk (by assumption)]; exact x_yt0n (by assumption)) | exact x_ytn tp n2 (x_sub0 wk (by assumption)) (Or.inl (by assumption)) | exact x_ytn tp n2 (x_sub0 wk (by assumption)) (Or.inr (by assumption)))⟩⟩
    · skip
      refine l_gR T (d_Pa_0 T kv0) ?_
      have kk6 := e_Pa_0 T kv0
      refine l_gO ?_
      refine jj_Cur_look (v0 := (v0 + 1)) (v1 := (0 : Int32)) (tx := (pg + 1)) (t := t) (n := n) (e := (x_lk t n (vI h (v0 + 1) 1))) T kk6 ktx ptx ht hn (by simp only [Int32.add_zero, x_am1, x_s11, x_s12, x_s21, x_s13, x_s22, x_s31]) ?_
      try dsimp only
      refine qi_if (fun cc8 => ?_) (fun cc8 => ?_)
      · skip
        unfold f_Pa_readExchange_207
        refine l_gR T (d_Pa_0 T kv0) ?_
        refine l_gO ?_
        refine jj_Cur_refuse (v0 := (v0 + 1)) (v1 := (0 : Int32)) T kk6 ?_
        · intro hr3i9_10 Thr3i9_10
          try dsimp only
          refine qi_zB (fun zb11 => ?_)
          refine qi_some ?_
          exact ⟨Thr3i9_10, Or.inr ⟨rfl, (by show x_yt t n (vI h cm 10 - v1) (vI h (v0 + 1) 1) = none; first | (rw [x_eq0 wk (by assumption)]; exact x_yt0n (by assumption)) | exact x_ytn tp n2 (x_sub0 wk (by assumption)) (Or.inl (by assumption)) | exact x_ytn tp n2 (x_sub0 wk (by assumption)) (Or.inr (by assumption)))⟩⟩
      · skip
        refine l_gR T (d_Pa_0 T kv0) ?_
        refine l_gO ?_
        refine jj_Cur_look (v0 := (v0 + 1)) (v1 := (0 : Int32)) (tx := (pg + 1)) (t := t) (n := n) (e := (x_lk t n (vI h (v0 + 1) 1))) T kk6 ktx ptx ht hn (by simp only [Int32.add_zero, x_am1, x_s11, x_s12, x_s21, x_s13, x_s22, x_s31]) ?_
        try dsimp only
        refine jj_Pa_isExchangeable (v0 := ((x_lk t n (vI h (v0 + 1) 1)))) T (fun _ g1r15_13_0 g1r15_13_1 g1r15_13_2 => ?_) (fun _ g0r15_13_0 => ?_)
        · try dsimp only
          refine qi_if (fun cc14 => absurd cc14 (by decide)) (fun _ => ?_)
          refine l_gR T (d_Pa_0 T kv0) ?_
          refine l_gI (e := (vI h (v0 + 1) 1)) rfl ?_
          refine o_sI T kk6 (by decide) rfl ?_
          intro h19_15 Th19_15 ih19_15 ah19_15 lh19_15
          refine qi_bs ?_
          refine qi_mono (ih v0 (v1 + 1) h19_15 Th19_15 kv0 kpg ppg kcm pcm ptx (by show ∀ j, 0 ≤ j → j < n → vA h19_15 ((pg + 1) + 1) j = t j; rw [show vA h19_15 ((pg + 1) + 1) = vA h ((pg + 1) + 1) from (by rw [ah19_15 ((pg + 1) + 1)])] <;> ((try simp only [Int32.add_zero, x_am1, x_s11, x_s12, x_s21, x_s13, x_s22, x_s31]) <;> (first | assumption | with_reducible rfl | grind))) (by show vI h19_15 (pg + 1) 1 = n; rw [show vI h19_15 (pg + 1) 1 = (vI h (pg + 1) 1) from (by rw [ih19_15 (pg + 1) 1, if_neg (fun z => absurd z.1 (by omega))])] <;> (first | assumption | with_reducible rfl | grind)) n1 tp D hc (by show 0 ≤ vI h19_15 (v0 + 1) 1; rw [show vI h19_15 (v0 + 1) 1 = ((vI h (v0 + 1) 1) + 1) from (by rw [ih19_15 (v0 + 1) 1, if_pos ⟨rfl, rfl⟩])] <;> (exact x_0le a0 (x_lp1 n2 (t := t) (by assumption)))) (by show 0 ≤ (v1 + 1) ∧ (v1 + 1) ≤ vI h19_15 cm 10 ∧ vI h19_15 cm 10 ≤ 1000; rw [show vI h19_15 cm 10 = (vI h cm 10) from (by rw [ih19_15 cm 10, if_neg (fun z => absurd z.2 (by decide))])] <;> (exact x_wk wk (by assumption)))) ?_
          rintro ⟨y, hrz16_17⟩ ⟨Thrz16_17, ⟨ey, g1rz16_17_0, f1rz16_17_I, f1rz16_17_A, f1rz16_17_L⟩ | ⟨ey, g0rz16_17_0⟩⟩
          · dsimp only at *
            subst ey
            rw [show vI h19_15 cm 10 = (vI h cm 10) from (by rw [ih19_15 cm 10, if_neg (fun z => absurd z.2 (by decide))]), show vI h19_15 (v0 + 1) 1 = ((vI h (v0 + 1) 1) + 1) from (by rw [ih19_15 (v0 + 1) 1, if_pos ⟨rfl, rfl⟩])] at g1rz16_17_0
            exact ⟨Thrz16_17, Or.inl ⟨rfl, (by show x_yt t n (vI h cm 10 - v1) (vI h (v0 + 1) 1) = some (vI hrz16_17 (v0 + 1) 1); rw [x_yts n2 (x_sub0 wk (by assumption)) (by assumption) (by assumption) (by assumption) (by assumption), x_sub1]; exact g1rz16_17_0), (fun a k na => by rw [f1rz16_17_I a k (fun z => na (z.elim (fun z => Or.inl z) (fun z => Or.inr (z)))), ih19_15 a k, if_neg (fun z => na (Or.inl z))]), (fun a na => by rw [f1rz16_17_A a (by omega), ah19_15 a]), (fun a na => by rw [f1rz16_17_L a (by omega), lh19_15 a])⟩⟩
          · dsimp only at *
            subst ey
            rw [show vI h19_15 cm 10 = (vI h cm 10) from (by rw [ih19_15 cm 10, if_neg (fun z => absurd z.2 (by decide))]), show vI h19_15 (v0 + 1) 1 = ((vI h (v0 + 1) 1) + 1) from (by rw [ih19_15 (v0 + 1) 1, if_pos ⟨rfl, rfl⟩])] at g0rz16_17_0
            exact ⟨Thrz16_17, Or.inr ⟨rfl, (by show x_yt t n (vI h cm 10 - v1) (vI h (v0 + 1) 1) = none; rw [x_yts n2 (x_sub0 wk (by assumption)) (by assumption) (by assumption) (by assumption) (by assumption), x_sub1]; exact g0rz16_17_0)⟩⟩
        · try dsimp only
          refine qi_if (fun _ => ?_) (fun cc18 => absurd (by decide) cc18)
          unfold f_Pa_readExchange_207
          refine l_gR T (d_Pa_0 T kv0) ?_
          refine l_gO ?_
          refine jj_Cur_refuse (v0 := (v0 + 1)) (v1 := (0 : Int32)) T kk6 ?_
          · intro hr3i19_20 Thr3i19_20
            try dsimp only
            refine qi_zB (fun zb21 => ?_)
            refine qi_some ?_
            exact ⟨Thr3i19_20, Or.inr ⟨rfl, (by show x_yt t n (vI h cm 10 - v1) (vI h (v0 + 1) 1) = none; first | (rw [x_eq0 wk (by assumption)]; exact x_yt0n (by assumption)) | exact x_ytn tp n2 (x_sub0 wk (by assumption)) (Or.inl (by assumption)) | exact x_ytn tp n2 (x_sub0 wk (by assumption)) (Or.inr (by assumption)))⟩⟩
theorem jj_Pa_readExchange_169 {L : q_L} {π : Nat → Nat → Option Nat} {N : Nat} {pg : Nat} {cm : Nat} {t : Int32 → Int32} {n : Int32} {m9 : Nat} {h : z_H} {v0 : Nat} {v1 : Int32} {β : Type} {f : Int32 × z_H → Option β} {Q : β → Prop} (T : x_U L π h) (kv0 : qκ L v0 = 7) (kpg : qκ L pg = 10) (ppg : π v0 5 = some pg) (kcm : qκ L cm = 2) (pcm : π v0 6 = some cm) (ptx : π (v0 + 1) 0 = some (pg + 1)) (ht : ∀ j, 0 ≤ j → j < n → vA h ((pg + 1) + 1) j = t j) (hn : vI h (pg + 1) 1 = n) (n1 : n ≤ 240) (tp : ∀ j, t j ≠ -1) (D : v0 + 5 ≤ pg) (hc : pg + 9 ≤ cm ∧ cm + 6 ≤ pg + 249) (a0 : 0 ≤ vI h (v0 + 1) 1) (wk : 0 ≤ v1 ∧ v1 ≤ vI h cm 10 ∧ vI h cm 10 ≤ 1000) (H1 : ∀ h', x_U L π h' → (x_yt t n (vI h cm 10 - v1) (vI h (v0 + 1) 1) = some (vI h' (v0 + 1) 1)) → (∀ a k, ¬ ((a = (v0 + 1) ∧ k = 1) ∨ (a = (v0 + 1) ∧ k = 2)) → vI h' a k = vI h a k) → (∀ a, ¬ (a < a) → vA h' a = vA h a) → (∀ a, ¬ (a < a) → vL h' a = vL h a) → qi (f (1, h')) Q) (H0 : ∀ h', x_U L π h' → (x_yt t n (vI h cm 10 - v1) (vI h (v0 + 1) 1) = none) → qi (f (0, h')) Q) : qi (z_b (f_Pa_readExchange_169 N m9 v0 v1 h) f) Q := by
  refine qi_b (ii_Pa_readExchange_169 m9 v0 v1 h  T kv0 kpg ppg kcm pcm ptx ht hn n1 tp D hc a0 wk) ?_
  rintro ⟨y, hz⟩ ⟨Tz, ⟨ey, g0, g1, g2, g3⟩ | ⟨ey, g0⟩⟩
  · dsimp only at *; subst ey; exact H1 hz Tz g0 g1 g2 g3
  · dsimp only at *; subst ey; exact H0 hz Tz g0

set_option maxHeartbeats 2000000 in
theorem ii_Pa_readExchange_43 {L : q_L} {π : Nat → Nat → Option Nat} {N : Nat} {pg : Nat} {cm : Nat} {t : Int32 → Int32} {n : Int32} : ∀ (m9 : Nat) (v0 : Nat) (v1 : Int32) (h : z_H), x_U L π h → qκ L v0 = 7 → (qκ L pg = 10) → (π v0 5 = some pg) → (qκ L cm = 2) → (π v0 6 = some cm) → (π (v0 + 1) 0 = some (pg + 1)) → (∀ j, 0 ≤ j → j < n → vA h ((pg + 1) + 1) j = t j) → (vI h (pg + 1) 1 = n) → (n ≤ 240) → (∀ j, t j ≠ -1) → (v0 + 5 ≤ pg) → (pg + 9 ≤ cm ∧ cm + 6 ≤ pg + 249) → (0 ≤ vI h (v0 + 1) 1) → (v1 ≤ vI h (v0 + 1) 1) → (0 ≤ vI h cm 9) → (vI h cm 9 ≤ vI h (v0 + 1) 1) → (vI h (v0 + 1) 1 ≤ n) → qi (f_Pa_readExchange_43 N m9 v0 v1 h) (fun r => x_U L π r.2 ∧ ((r.1 = 1 ∧ (x_yy t n (vI h cm 9) (vI h (v0 + 1) 1) = some (vI r.2 (v0 + 1) 1)) ∧ (x_yf t n (vI h cm 9) (vI h (v0 + 1) 1) = some (vI r.2 cm 10)) ∧ (vI r.2 cm 11 = vI r.2 cm 10 + 1) ∧ (∀ a k, ¬ ((a = cm ∧ k = 10) ∨ (a = (v0 + 1) ∧ k = 1) ∨ (a = cm ∧ k = 11) ∨ (a = (v0 + 1) ∧ k = 2)) → vI r.2 a k = vI h a k) ∧ (∀ a, ¬ (a < a) → vA r.2 a = vA h a) ∧ (∀ a, ¬ (a < a) → vL r.2 a = vL h a)) ∨ (r.1 = 0 ∧ (x_yy t n (vI h cm 9) (vI h (v0 + 1) 1) = none)))) := by
  intro m9
  induction m9 with
  | zero => intro v0 v1 h T kv0 kpg ppg kcm pcm ptx ht hn n1 tp D hc a0 hs f0 fa an r e; rw [f_Pa_readExchange_43] at e; cases e
  | succ m9 ih =>
    intro v0 v1 h T kv0 kpg ppg kcm pcm ptx ht hn n1 tp D hc a0 hs f0 fa an
    rw [f_Pa_readExchange_43]
    have n2 : n ≤ 1000 := Int32.le_trans n1 (by decide)
    have ktx := e_Prog_0 T kpg
    refine qi_if (fun cc1 => ?_) (fun cc1 => ?_)
    · skip
      unfold f_Pa_readExchange_120
      refine l_gR T pcm ?_
      refine l_gR T (d_Pa_0 T kv0) ?_
      have kk3 := e_Pa_0 T kv0
      refine l_gI (e := (vI h (v0 + 1) 1)) rfl ?_
      refine o_sI T kcm (by decide) rfl ?_
      intro h4i2_4 Th4i2_4 ih4i2_4 ah4i2_4 lh4i2_4
      refine l_gR Th4i2_4 (d_Pa_0 Th4i2_4 kv0) ?_
      refine l_gI (e := (vI h (v0 + 1) 1)) (by rw [ih4i2_4 (v0 + 1) 1, if_neg (fun z => absurd z.2 (by decide))]) ?_
      refine o_sI Th4i2_4 kk3 (by decide) rfl ?_
      intro h7i2_5 Th7i2_5 ih7i2_5 ah7i2_5 lh7i2_5
      refine l_gR Th7i2_5 pcm ?_
      refine l_gR Th7i2_5 (d_Pa_0 Th7i2_5 kv0) ?_
      refine l_gI (e := ((vI h (v0 + 1) 1) + 1)) (by rw [ih7i2_5 (v0 + 1) 1, if_pos ⟨rfl, rfl⟩]) ?_
      refine o_sI Th7i2_5 kcm (by decide) rfl ?_
      intro h11i2_6 Th11i2_6 ih11i2_6 ah11i2_6 lh11i2_6
      refine l_gR Th11i2_6 pcm ?_
      refine l_gI (e := (vI h cm 9)) (by rw [ih11i2_6 cm 9, if_neg (fun z => absurd z.2 (by decide)), ih7i2_5 cm 9, if_neg (fun z => absurd z.2 (by decide)), ih4i2_4 cm 9, if_neg (fun z => absurd z.2 (by decide))]) ?_
      refine qi_tailp ?_
      refine jj_Pa_readExchange_169 (v0 := v0) (v1 := (vI h cm 9)) (pg := pg) (cm := cm) (t := t) (n := n) Th11i2_6 kv0 kpg ppg kcm pcm ptx (by show ∀ j, 0 ≤ j → j < n → vA h11i2_6 ((pg + 1) + 1) j = t j; rw [show vA h11i2_6 ((pg + 1) + 1) = vA h ((pg + 1) + 1) from (by rw [ah11i2_6 ((pg + 1) + 1), ah7i2_5 ((pg + 1) + 1), ah4i2_4 ((pg + 1) + 1)])] <;> ((try simp only [Int32.add_zero, x_am1, x_s11, x_s12, x_s21, x_s13, x_s22, x_s31]) <;> (first | assumption | with_reducible rfl | grind))) (by show vI h11i2_6 (pg + 1) 1 = n; rw [show vI h11i2_6 (pg + 1) 1 = (vI h (pg + 1) 1) from (by rw [ih11i2_6 (pg + 1) 1, if_neg (fun z => absurd z.2 (by decide)), ih7i2_5 (pg + 1) 1, if_neg (fun z => absurd z.1 (by omega)), ih4i2_4 (pg + 1) 1, if_neg (fun z => absurd z.2 (by decide))])] <;> (first | assumption | with_reducible rfl | grind)) n1 tp D hc (by show 0 ≤ vI h11i2_6 (v0 + 1) 1; rw [show vI h11i2_6 (v0 + 1) 1 = ((vI h (v0 + 1) 1) + 1) from (by rw [ih11i2_6 (v0 + 1) 1, if_neg (fun z => absurd z.2 (by decide)), ih7i2_5 (v0 + 1) 1, if_pos ⟨rfl, rfl⟩])] <;> (exact x_inc a0 (x_an1 an n2) (by decide))) (by show 0 ≤ (vI h cm 9) ∧ (vI h cm 9) ≤ vI h11i2_6 cm 10 ∧ vI h11i2_6 cm 10 ≤ 1000; rw [show vI h11i2_6 cm 10 = (vI h (v0 + 1) 1) from (by rw [ih11i2_6 cm 10, if_neg (fun z => absurd z.2 (by decide)), ih7i2_5 cm 10, if_neg (fun z => absurd z.2 (by decide)), ih4i2_4 cm 10, if_pos ⟨rfl, rfl⟩])] <;> (exact ⟨f0, fa, Int32.le_trans an n2⟩)) ?_ ?_
      · intro hrz7_8 Thrz7_8 g1rz7_8_0 f1rz7_8_I f1rz7_8_A f1rz7_8_L
        try dsimp only
        rw [show vI h11i2_6 cm 10 = (vI h (v0 + 1) 1) from (by rw [ih11i2_6 cm 10, if_neg (fun z => absurd z.2 (by decide)), ih7i2_5 cm 10, if_neg (fun z => absurd z.2 (by decide)), ih4i2_4 cm 10, if_pos ⟨rfl, rfl⟩]), show vI h11i2_6 (v0 + 1) 1 = ((vI h (v0 + 1) 1) + 1) from (by rw [ih11i2_6 (v0 + 1) 1, if_neg (fun z => absurd z.2 (by decide)), ih7i2_5 (v0 + 1) 1, if_pos ⟨rfl, rfl⟩])] at g1rz7_8_0
        refine qi_some ?_
        exact ⟨Thrz7_8, Or.inl ⟨rfl, (by show x_yy t n (vI h cm 9) (vI h (v0 + 1) 1) = some (vI hrz7_8 (v0 + 1) 1); first | exact (x_yy_s (x_yf47 n2 (by assumption))).trans g1rz7_8_0 | (exfalso; have q := x_yt_out (t := t) (n := n) (x_lim3 hs (by assumption) n1 an) (k := vI h (v0 + 1) 1 - vI h cm 9); grind) | exact x_yy_n (x_yf_out (x_lim hs (by assumption) n1))), (by show x_yf t n (vI h cm 9) (vI h (v0 + 1) 1) = some (vI hrz7_8 cm 10); rw [show vI hrz7_8 cm 10 = (vI h (v0 + 1) 1) from (by rw [f1rz7_8_I cm 10 (by omega), ih11i2_6 cm 10, if_neg (fun z => absurd z.2 (by decide)), ih7i2_5 cm 10, if_neg (fun z => absurd z.2 (by decide)), ih4i2_4 cm 10, if_pos ⟨rfl, rfl⟩])] <;> (first | exact x_yf47 n2 (by assumption) | (exfalso; have q := x_yt_out (t := t) (n := n) (x_lim3 hs (by assumption) n1 an) (k := vI h (v0 + 1) 1 - vI h cm 9); grind))), (by show vI hrz7_8 cm 11 = vI hrz7_8 cm 10 + 1; rw [show vI hrz7_8 cm 11 = ((vI h (v0 + 1) 1) + 1) from (by rw [f1rz7_8_I cm 11 (by omega), ih11i2_6 cm 11, if_pos ⟨rfl, rfl⟩]), show vI hrz7_8 cm 10 = (vI h (v0 + 1) 1) from (by rw [f1rz7_8_I cm 10 (by omega), ih11i2_6 cm 10, if_neg (fun z => absurd z.2 (by decide)), ih7i2_5 cm 10, if_neg (fun z => absurd z.2 (by decide)), ih4i2_4 cm 10, if_pos ⟨rfl, rfl⟩])] <;> (first | assumption | with_reducible rfl | grind)), (fun a k na => by rw [f1rz7_8_I a k (fun z => na (z.elim (fun z => Or.inr (Or.inl z)) (fun z => Or.inr (Or.inr (Or.inr (z)))))), ih11i2_6 a k, if_neg (fun z => na (Or.inr (Or.inr (Or.inl z)))), ih7i2_5 a k, if_neg (fun z => na (Or.inr (Or.inl z))), ih4i2_4 a k, if_neg (fun z => na (Or.inl z))]), (fun a na => by rw [f1rz7_8_A a (by omega), ah11i2_6 a, ah7i2_5 a, ah4i2_4 a]), (fun a na => by rw [f1rz7_8_L a (by omega), lh11i2_6 a, lh7i2_5 a, lh4i2_4 a])⟩⟩
      · intro hrz7_8 Thrz7_8 g0rz7_8_0
        try dsimp only
        rw [show vI h11i2_6 cm 10 = (vI h (v0 + 1) 1) from (by rw [ih11i2_6 cm 10, if_neg (fun z => absurd z.2 (by decide)), ih7i2_5 cm 10, if_neg (fun z => absurd z.2 (by decide)), ih4i2_4 cm 10, if_pos ⟨rfl, rfl⟩]), show vI h11i2_6 (v0 + 1) 1 = ((vI h (v0 + 1) 1) + 1) from (by rw [ih11i2_6 (v0 + 1) 1, if_neg (fun z => absurd z.2 (by decide)), ih7i2_5 (v0 + 1) 1, if_pos ⟨rfl, rfl⟩])] at g0rz7_8_0
        refine qi_some ?_
        exact ⟨Thrz7_8, Or.inr ⟨rfl, (by show x_yy t n (vI h cm 9) (vI h (v0 + 1) 1) = none; first | exact (x_yy_s (x_yf47 n2 (by assumption))).trans g0rz7_8_0 | (exfalso; have q := x_yt_out (t := t) (n := n) (x_lim3 hs (by assumption) n1 an) (k := vI h (v0 + 1) 1 - vI h cm 9); grind) | exact x_yy_n (x_yf_out (x_lim hs (by assumption) n1)))⟩⟩
    · skip
      refine l_gR T (d_Pa_0 T kv0) ?_
      have kk9 := e_Pa_0 T kv0
      refine l_gO ?_
      refine jj_Cur_look (v0 := (v0 + 1)) (v1 := (0 : Int32)) (tx := (pg + 1)) (t := t) (n := n) (e := (x_lk t n (vI h (v0 + 1) 1))) T kk9 ktx ptx ht hn (by simp only [Int32.add_zero, x_am1, x_s11, x_s12, x_s21, x_s13, x_s22, x_s31]) ?_
      try dsimp only
      refine qi_if (fun cc11 => ?_) (fun cc11 => ?_)
      · skip
        unfold f_Pa_readExchange_120
        refine l_gR T pcm ?_
        refine l_gR T (d_Pa_0 T kv0) ?_
        refine l_gI (e := (vI h (v0 + 1) 1)) rfl ?_
        refine o_sI T kcm (by decide) rfl ?_
        intro h4i12_13 Th4i12_13 ih4i12_13 ah4i12_13 lh4i12_13
        refine l_gR Th4i12_13 (d_Pa_0 Th4i12_13 kv0) ?_
        refine l_gI (e := (vI h (v0 + 1) 1)) (by rw [ih4i12_13 (v0 + 1) 1, if_neg (fun z => absurd z.2 (by decide))]) ?_
        refine o_sI Th4i12_13 kk9 (by decide) rfl ?_
        intro h7i12_14 Th7i12_14 ih7i12_14 ah7i12_14 lh7i12_14
        refine l_gR Th7i12_14 pcm ?_
        refine l_gR Th7i12_14 (d_Pa_0 Th7i12_14 kv0) ?_
        refine l_gI (e := ((vI h (v0 + 1) 1) + 1)) (by rw [ih7i12_14 (v0 + 1) 1, if_pos ⟨rfl, rfl⟩]) ?_
        refine o_sI Th7i12_14 kcm (by decide) rfl ?_
        intro h11i12_15 Th11i12_15 ih11i12_15 ah11i12_15 lh11i12_15
        refine l_gR Th11i12_15 pcm ?_
        refine l_gI (e := (vI h cm 9)) (by rw [ih11i12_15 cm 9, if_neg (fun z => absurd z.2 (by decide)), ih7i12_14 cm 9, if_neg (fun z => absurd z.2 (by decide)), ih4i12_13 cm 9, if_neg (fun z => absurd z.2 (by decide))]) ?_
        refine qi_tailp ?_
        refine jj_Pa_readExchange_169 (v0 := v0) (v1 := (vI h cm 9)) (pg := pg) (cm := cm) (t := t) (n := n) Th11i12_15 kv0 kpg ppg kcm pcm ptx (by show ∀ j, 0 ≤ j → j < n → vA h11i12_15 ((pg + 1) + 1) j = t j; rw [show vA h11i12_15 ((pg + 1) + 1) = vA h ((pg + 1) + 1) from (by rw [ah11i12_15 ((pg + 1) + 1), ah7i12_14 ((pg + 1) + 1), ah4i12_13 ((pg + 1) + 1)])] <;> ((try simp only [Int32.add_zero, x_am1, x_s11, x_s12, x_s21, x_s13, x_s22, x_s31]) <;> (first | assumption | with_reducible rfl | grind))) (by show vI h11i12_15 (pg + 1) 1 = n; rw [show vI h11i12_15 (pg + 1) 1 = (vI h (pg + 1) 1) from (by rw [ih11i12_15 (pg + 1) 1, if_neg (fun z => absurd z.2 (by decide)), ih7i12_14 (pg + 1) 1, if_neg (fun z => absurd z.1 (by omega)), ih4i12_13 (pg + 1) 1, if_neg (fun z => absurd z.2 (by decide))])] <;> (first | assumption | with_reducible rfl | grind)) n1 tp D hc (by show 0 ≤ vI h11i12_15 (v0 + 1) 1; rw [show vI h11i12_15 (v0 + 1) 1 = ((vI h (v0 + 1) 1) + 1) from (by rw [ih11i12_15 (v0 + 1) 1, if_neg (fun z => absurd z.2 (by decide)), ih7i12_14 (v0 + 1) 1, if_pos ⟨rfl, rfl⟩])] <;> (exact x_inc a0 (x_an1 an n2) (by decide))) (by show 0 ≤ (vI h cm 9) ∧ (vI h cm 9) ≤ vI h11i12_15 cm 10 ∧ vI h11i12_15 cm 10 ≤ 1000; rw [show vI h11i12_15 cm 10 = (vI h (v0 + 1) 1) from (by rw [ih11i12_15 cm 10, if_neg (fun z => absurd z.2 (by decide)), ih7i12_14 cm 10, if_neg (fun z => absurd z.2 (by decide)), ih4i12_13 cm 10, if_pos ⟨rfl, rfl⟩])] <;> (exact ⟨f0, fa, Int32.le_trans an n2⟩)) ?_ ?_
        · intro hrz16_17 Thrz16_17 g1rz16_17_0 f1rz16_17_I f1rz16_17_A f1rz16_17_L
          try dsimp only
          rw [show vI h11i12_15 cm 10 = (vI h (v0 + 1) 1) from (by rw [ih11i12_15 cm 10, if_neg (fun z => absurd z.2 (by decide)), ih7i12_14 cm 10, if_neg (fun z => absurd z.2 (by decide)), ih4i12_13 cm 10, if_pos ⟨rfl, rfl⟩]), show vI h11i12_15 (v0 + 1) 1 = ((vI h (v0 + 1) 1) + 1) from (by rw [ih11i12_15 (v0 + 1) 1, if_neg (fun z => absurd z.2 (by decide)), ih7i12_14 (v0 + 1) 1, if_pos ⟨rfl, rfl⟩])] at g1rz16_17_0
          refine qi_some ?_
          exact ⟨Thrz16_17, Or.inl ⟨rfl, (by show x_yy t n (vI h cm 9) (vI h (v0 + 1) 1) = some (vI hrz16_17 (v0 + 1) 1); first | exact (x_yy_s (x_yf47 n2 (by assumption))).trans g1rz16_17_0 | (exfalso; have q := x_yt_out (t := t) (n := n) (x_lim3 hs (by assumption) n1 an) (k := vI h (v0 + 1) 1 - vI h cm 9); grind) | exact x_yy_n (x_yf_out (x_lim hs (by assumption) n1))), (by show x_yf t n (vI h cm 9) (vI h (v0 + 1) 1) = some (vI hrz16_17 cm 10); rw [show vI hrz16_17 cm 10 = (vI h (v0 + 1) 1) from (by rw [f1rz16_17_I cm 10 (by omega), ih11i12_15 cm 10, if_neg (fun z => absurd z.2 (by decide)), ih7i12_14 cm 10, if_neg (fun z => absurd z.2 (by decide)), ih4i12_13 cm 10, if_pos ⟨rfl, rfl⟩])] <;> (first | exact x_yf47 n2 (by assumption) | (exfalso; have q := x_yt_out (t := t) (n := n) (x_lim3 hs (by assumption) n1 an) (k := vI h (v0 + 1) 1 - vI h cm 9); grind))), (by show vI hrz16_17 cm 11 = vI hrz16_17 cm 10 + 1; rw [show vI hrz16_17 cm 11 = ((vI h (v0 + 1) 1) + 1) from (by rw [f1rz16_17_I cm 11 (by omega), ih11i12_15 cm 11, if_pos ⟨rfl, rfl⟩]), show vI hrz16_17 cm 10 = (vI h (v0 + 1) 1) from (by rw [f1rz16_17_I cm 10 (by omega), ih11i12_15 cm 10, if_neg (fun z => absurd z.2 (by decide)), ih7i12_14 cm 10, if_neg (fun z => absurd z.2 (by decide)), ih4i12_13 cm 10, if_pos ⟨rfl, rfl⟩])] <;> (first | assumption | with_reducible rfl | grind)), (fun a k na => by rw [f1rz16_17_I a k (fun z => na (z.elim (fun z => Or.inr (Or.inl z)) (fun z => Or.inr (Or.inr (Or.inr (z)))))), ih11i12_15 a k, if_neg (fun z => na (Or.inr (Or.inr (Or.inl z)))), ih7i12_14 a k, if_neg (fun z => na (Or.inr (Or.inl z))), ih4i12_13 a k, if_neg (fun z => na (Or.inl z))]), (fun a na => by rw [f1rz16_17_A a (by omega), ah11i12_15 a, ah7i12_14 a, ah4i12_13 a]), (fun a na => by rw [f1rz16_17_L a (by omega), lh11i12_15 a, lh7i12_14 a, lh4i12_13 a])⟩⟩
        · intro hrz16_17 Thrz16_17 g0rz16_17_0
          try dsimp only
          rw [show vI h11i12_15 cm 10 = (vI h (v0 + 1) 1) from (by rw [ih11i12_15 cm 10, if_neg (fun z => absurd z.2 (by decide)), ih7i12_14 cm 10, if_neg (fun z => absurd z.2 (by decide)), ih4i12_13 cm 10, if_pos ⟨rfl, rfl⟩]), show vI h11i12_15 (v0 + 1) 1 = ((vI h (v0 + 1) 1) + 1) from (by rw [ih11i12_15 (v0 + 1) 1, if_neg (fun z => absurd z.2 (by decide)), ih7i12_14 (v0 + 1) 1, if_pos ⟨rfl, rfl⟩])] at g0rz16_17_0
          refine qi_some ?_
          exact ⟨Thrz16_17, Or.inr ⟨rfl, (by show x_yy t n (vI h cm 9) (vI h (v0 + 1) 1) = none; first | exact (x_yy_s (x_yf47 n2 (by assumption))).trans g0rz16_17_0 | (exfalso; have q := x_yt_out (t := t) (n := n) (x_lim3 hs (by assumption) n1 an) (k := vI h (v0 + 1) 1 - vI h cm 9); grind) | exact x_yy_n (x_yf_out (x_lim hs (by assumption) n1)))⟩⟩
      · skip
        refine l_gR T (d_Pa_0 T kv0) ?_
        refine l_gO ?_
        refine jj_Cur_look (v0 := (v0 + 1)) (v1 := (0 : Int32)) (tx := (pg + 1)) (t := t) (n := n) (e := (x_lk t n (vI h (v0 + 1) 1))) T kk9 ktx ptx ht hn (by simp only [Int32.add_zero, x_am1, x_s11, x_s12, x_s21, x_s13, x_s22, x_s31]) ?_
        try dsimp only
        refine jj_Pa_isExchangeable (v0 := ((x_lk t n (vI h (v0 + 1) 1)))) T (fun _ g1r9_19_0 g1r9_19_1 g1r9_19_2 => ?_) (fun _ g0r9_19_0 => ?_)
        · try dsimp only
          refine qi_if (fun cc20 => absurd cc20 (by decide)) (fun _ => ?_)
          refine l_gR T (d_Pa_0 T kv0) ?_
          refine l_gO ?_
          refine jj_Cur_look (v0 := (v0 + 1)) (v1 := (0 : Int32)) (tx := (pg + 1)) (t := t) (n := n) (e := (x_lk t n (vI h (v0 + 1) 1))) T kk9 ktx ptx ht hn (by simp only [Int32.add_zero, x_am1, x_s11, x_s12, x_s21, x_s13, x_s22, x_s31]) ?_
          try dsimp only
          refine l_gO ?_
          refine jj_Pa_wasExchanged (v0 := v0) (v1 := ((x_lk t n (vI h (v0 + 1) 1)))) (pg := pg) (cm := cm) (t := t) (n := n) T kv0 kpg ppg kcm pcm ptx ht hn n1 tp D hc a0 f0 an (fun _ g1r15_22_0 => ?_) (fun _ g0r15_22_0 => ?_)
          · try dsimp only
            refine qi_if (fun cc23 => absurd cc23 (by decide)) (fun _ => ?_)
            unfold f_Pa_readExchange_92
            refine l_gR T (d_Pa_0 T kv0) ?_
            refine l_gO ?_
            refine jj_Cur_refuse (v0 := (v0 + 1)) (v1 := (0 : Int32)) T kk9 ?_
            · intro hr3i24_25 Thr3i24_25
              try dsimp only
              refine qi_zB (fun zb26 => ?_)
              refine qi_some ?_
              exact ⟨Thr3i24_25, Or.inr ⟨rfl, (by show x_yy t n (vI h cm 9) (vI h (v0 + 1) 1) = none; exact x_yy_n (x_yfn tp n2 (by assumption) (by first | exact Or.inl (by assumption) | exact Or.inr (by assumption))))⟩⟩
          · try dsimp only
            refine qi_if (fun _ => ?_) (fun cc27 => absurd (by decide) cc27)
            refine l_gR T (d_Pa_0 T kv0) ?_
            refine l_gI (e := (vI h (v0 + 1) 1)) rfl ?_
            refine o_sI T kk9 (by decide) rfl ?_
            intro h19_28 Th19_28 ih19_28 ah19_28 lh19_28
            refine qi_bs ?_
            refine qi_mono (ih v0 (v1 + 1) h19_28 Th19_28 kv0 kpg ppg kcm pcm ptx (by show ∀ j, 0 ≤ j → j < n → vA h19_28 ((pg + 1) + 1) j = t j; rw [show vA h19_28 ((pg + 1) + 1) = vA h ((pg + 1) + 1) from (by rw [ah19_28 ((pg + 1) + 1)])] <;> ((try simp only [Int32.add_zero, x_am1, x_s11, x_s12, x_s21, x_s13, x_s22, x_s31]) <;> (first | assumption | with_reducible rfl | grind))) (by show vI h19_28 (pg + 1) 1 = n; rw [show vI h19_28 (pg + 1) 1 = (vI h (pg + 1) 1) from (by rw [ih19_28 (pg + 1) 1, if_neg (fun z => absurd z.1 (by omega))])] <;> (first | assumption | with_reducible rfl | grind)) n1 tp D hc (by show 0 ≤ vI h19_28 (v0 + 1) 1; rw [show vI h19_28 (v0 + 1) 1 = ((vI h (v0 + 1) 1) + 1) from (by rw [ih19_28 (v0 + 1) 1, if_pos ⟨rfl, rfl⟩])] <;> (exact x_0le a0 (x_lp1 n2 (t := t) (by assumption)))) (by show (v1 + 1) ≤ vI h19_28 (v0 + 1) 1; rw [show vI h19_28 (v0 + 1) 1 = ((vI h (v0 + 1) 1) + 1) from (by rw [ih19_28 (v0 + 1) 1, if_pos ⟨rfl, rfl⟩])] <;> (exact x_stp hs (by assumption) (x_lp1 n2 (t := t) (by assumption)))) (by show 0 ≤ vI h19_28 cm 9; rw [show vI h19_28 cm 9 = (vI h cm 9) from (by rw [ih19_28 cm 9, if_neg (fun z => absurd z.2 (by decide))])] <;> (first | assumption | with_reducible rfl | grind)) (by show vI h19_28 cm 9 ≤ vI h19_28 (v0 + 1) 1; rw [show vI h19_28 cm 9 = (vI h cm 9) from (by rw [ih19_28 cm 9, if_neg (fun z => absurd z.2 (by decide))]), show vI h19_28 (v0 + 1) 1 = ((vI h (v0 + 1) 1) + 1) from (by rw [ih19_28 (v0 + 1) 1, if_pos ⟨rfl, rfl⟩])] <;> (exact Int32.le_of_lt (Int32.lt_of_le_of_lt fa (x_lp1 n2 (t := t) (by assumption))))) (by show vI h19_28 (v0 + 1) 1 ≤ n; rw [show vI h19_28 (v0 + 1) 1 = ((vI h (v0 + 1) 1) + 1) from (by rw [ih19_28 (v0 + 1) 1, if_pos ⟨rfl, rfl⟩])] <;> (exact x_le1 n2 (x_lk_at (t := t) (by assumption)).1))) ?_
            rintro ⟨y, hrz29_30⟩ ⟨Thrz29_30, ⟨ey, g1rz29_30_0, g1rz29_30_1, g1rz29_30_2, f1rz29_30_I, f1rz29_30_A, f1rz29_30_L⟩ | ⟨ey, g0rz29_30_0⟩⟩
            · dsimp only at *
              subst ey
              rw [show vI h19_28 cm 9 = (vI h cm 9) from (by rw [ih19_28 cm 9, if_neg (fun z => absurd z.2 (by decide))]), show vI h19_28 (v0 + 1) 1 = ((vI h (v0 + 1) 1) + 1) from (by rw [ih19_28 (v0 + 1) 1, if_pos ⟨rfl, rfl⟩])] at g1rz29_30_0
              rw [show vI h19_28 cm 9 = (vI h cm 9) from (by rw [ih19_28 cm 9, if_neg (fun z => absurd z.2 (by decide))]), show vI h19_28 (v0 + 1) 1 = ((vI h (v0 + 1) 1) + 1) from (by rw [ih19_28 (v0 + 1) 1, if_pos ⟨rfl, rfl⟩])] at g1rz29_30_1
              exact ⟨Thrz29_30, Or.inl ⟨rfl, (by show x_yy t n (vI h cm 9) (vI h (v0 + 1) 1) = some (vI hrz29_30 (v0 + 1) 1); exact (x_yy_e (x_yfs n2 (by assumption) (by assumption) (by assumption) (by assumption) (by assumption))).trans g1rz29_30_0), (by show x_yf t n (vI h cm 9) (vI h (v0 + 1) 1) = some (vI hrz29_30 cm 10); exact (x_yfs n2 (by assumption) (by assumption) (by assumption) (by assumption) (by assumption)).trans g1rz29_30_1), (by show vI hrz29_30 cm 11 = vI hrz29_30 cm 10 + 1; rw [show vI hrz29_30 cm 11 = (vI hrz29_30 cm 10 + 1) from (by rw [g1rz29_30_2])] <;> (first | assumption | with_reducible rfl | grind)), (fun a k na => by rw [f1rz29_30_I a k (fun z => na (z.elim (fun z => Or.inl z) (fun z => z.elim (fun z => Or.inr (Or.inl z)) (fun z => z.elim (fun z => Or.inr (Or.inr (Or.inl z))) (fun z => Or.inr (Or.inr (Or.inr (z)))))))), ih19_28 a k, if_neg (fun z => na (Or.inr (Or.inl z)))]), (fun a na => by rw [f1rz29_30_A a (by omega), ah19_28 a]), (fun a na => by rw [f1rz29_30_L a (by omega), lh19_28 a])⟩⟩
            · dsimp only at *
              subst ey
              rw [show vI h19_28 cm 9 = (vI h cm 9) from (by rw [ih19_28 cm 9, if_neg (fun z => absurd z.2 (by decide))]), show vI h19_28 (v0 + 1) 1 = ((vI h (v0 + 1) 1) + 1) from (by rw [ih19_28 (v0 + 1) 1, if_pos ⟨rfl, rfl⟩])] at g0rz29_30_0
              exact ⟨Thrz29_30, Or.inr ⟨rfl, (by show x_yy t n (vI h cm 9) (vI h (v0 + 1) 1) = none; exact (x_yy_e (x_yfs n2 (by assumption) (by assumption) (by assumption) (by assumption) (by assumption))).trans g0rz29_30_0)⟩⟩
        · try dsimp only
          refine qi_if (fun _ => ?_) (fun cc31 => absurd (by decide) cc31)
          unfold f_Pa_readExchange_92
          refine l_gR T (d_Pa_0 T kv0) ?_
          refine l_gO ?_
          refine jj_Cur_refuse (v0 := (v0 + 1)) (v1 := (0 : Int32)) T kk9 ?_
          · intro hr3i32_33 Thr3i32_33
            try dsimp only
            refine qi_zB (fun zb34 => ?_)
            refine qi_some ?_
            exact ⟨Thr3i32_33, Or.inr ⟨rfl, (by show x_yy t n (vI h cm 9) (vI h (v0 + 1) 1) = none; exact x_yy_n (x_yfn tp n2 (by assumption) (by first | exact Or.inl (by assumption) | exact Or.inr (by assumption))))⟩⟩
theorem jj_Pa_readExchange_43 {L : q_L} {π : Nat → Nat → Option Nat} {N : Nat} {pg : Nat} {cm : Nat} {t : Int32 → Int32} {n : Int32} {m9 : Nat} {h : z_H} {v0 : Nat} {v1 : Int32} {β : Type} {f : Int32 × z_H → Option β} {Q : β → Prop} (T : x_U L π h) (kv0 : qκ L v0 = 7) (kpg : qκ L pg = 10) (ppg : π v0 5 = some pg) (kcm : qκ L cm = 2) (pcm : π v0 6 = some cm) (ptx : π (v0 + 1) 0 = some (pg + 1)) (ht : ∀ j, 0 ≤ j → j < n → vA h ((pg + 1) + 1) j = t j) (hn : vI h (pg + 1) 1 = n) (n1 : n ≤ 240) (tp : ∀ j, t j ≠ -1) (D : v0 + 5 ≤ pg) (hc : pg + 9 ≤ cm ∧ cm + 6 ≤ pg + 249) (a0 : 0 ≤ vI h (v0 + 1) 1) (hs : v1 ≤ vI h (v0 + 1) 1) (f0 : 0 ≤ vI h cm 9) (fa : vI h cm 9 ≤ vI h (v0 + 1) 1) (an : vI h (v0 + 1) 1 ≤ n) (H1 : ∀ h', x_U L π h' → (x_yy t n (vI h cm 9) (vI h (v0 + 1) 1) = some (vI h' (v0 + 1) 1)) → (x_yf t n (vI h cm 9) (vI h (v0 + 1) 1) = some (vI h' cm 10)) → (vI h' cm 11 = vI h' cm 10 + 1) → (∀ a k, ¬ ((a = cm ∧ k = 10) ∨ (a = (v0 + 1) ∧ k = 1) ∨ (a = cm ∧ k = 11) ∨ (a = (v0 + 1) ∧ k = 2)) → vI h' a k = vI h a k) → (∀ a, ¬ (a < a) → vA h' a = vA h a) → (∀ a, ¬ (a < a) → vL h' a = vL h a) → qi (f (1, h')) Q) (H0 : ∀ h', x_U L π h' → (x_yy t n (vI h cm 9) (vI h (v0 + 1) 1) = none) → qi (f (0, h')) Q) : qi (z_b (f_Pa_readExchange_43 N m9 v0 v1 h) f) Q := by
  refine qi_b (ii_Pa_readExchange_43 m9 v0 v1 h  T kv0 kpg ppg kcm pcm ptx ht hn n1 tp D hc a0 hs f0 fa an) ?_
  rintro ⟨y, hz⟩ ⟨Tz, ⟨ey, g0, g1, g2, g3, g4, g5⟩ | ⟨ey, g0⟩⟩
  · dsimp only at *; subst ey; exact H1 hz Tz g0 g1 g2 g3 g4 g5
  · dsimp only at *; subst ey; exact H0 hz Tz g0

set_option maxHeartbeats 2000000 in
theorem ii_Pa_readExchange {L : q_L} {π : Nat → Nat → Option Nat} {N : Nat} {pg : Nat} {cm : Nat} {t : Int32 → Int32} {n : Int32} {h : z_H} {v0 : Nat} (T : x_U L π h) (kv0 : qκ L v0 = 7) (kpg : qκ L pg = 10) (ppg : π v0 5 = some pg) (kcm : qκ L cm = 2) (pcm : π v0 6 = some cm) (ptx : π (v0 + 1) 0 = some (pg + 1)) (ht : ∀ j, 0 ≤ j → j < n → vA h ((pg + 1) + 1) j = t j) (hn : vI h (pg + 1) 1 = n) (n1 : n ≤ 240) (tp : ∀ j, t j ≠ -1) (D : v0 + 5 ≤ pg) (hc : pg + 9 ≤ cm ∧ cm + 6 ≤ pg + 249) (a0 : 0 ≤ vI h (v0 + 1) 1) (lt : x_lk t n (vI h (v0 + 1) 1) = 121) : qi (f_Pa_readExchange N v0 h) (fun r => x_U L π r.2 ∧ ((r.1 = 1 ∧ (x_exc t n (vI h (v0 + 1) 1 + 1) = some (vI r.2 (v0 + 1) 1)) ∧ (vI r.2 cm 9 = vI h (v0 + 1) 1 + 2) ∧ (x_yS t n (vI h (v0 + 1) 1) = vI r.2 cm 10) ∧ (vI r.2 cm 11 = vI r.2 cm 10 + 1) ∧ (∀ a k, ¬ ((a = (v0 + 1) ∧ k = 1) ∨ (a = (v0 + 1) ∧ k = 2) ∨ (a = cm ∧ k = 9) ∨ (a = cm ∧ k = 10) ∨ (a = cm ∧ k = 11)) → vI r.2 a k = vI h a k) ∧ (∀ a, ¬ (a < a) → vA r.2 a = vA h a) ∧ (∀ a, ¬ (a < a) → vL r.2 a = vL h a)) ∨ (r.1 = 0 ∧ (x_exc t n (vI h (v0 + 1) 1 + 1) = none)))) := by
  have n2 : n ≤ 1000 := Int32.le_trans n1 (by decide)
  have ktx := e_Prog_0 T kpg
  unfold f_Pa_readExchange
  refine l_gR T (d_Pa_0 T kv0) ?_
  have kk1 := e_Pa_0 T kv0
  refine l_gI (e := (vI h (v0 + 1) 1)) rfl ?_
  refine o_sI T kk1 (by decide) rfl ?_
  intro h3_2 Th3_2 ih3_2 ah3_2 lh3_2
  refine l_gR Th3_2 (d_Pa_0 Th3_2 kv0) ?_
  refine l_gO ?_
  refine jj_Cur_pass (v0 := (v0 + 1)) (v1 := (47 : Int32)) (tx := (pg + 1)) (t := t) (n := n) Th3_2 kk1 ktx ptx (by show ∀ j, 0 ≤ j → j < n → vA h3_2 ((pg + 1) + 1) j = t j; rw [show vA h3_2 ((pg + 1) + 1) = vA h ((pg + 1) + 1) from (by rw [ah3_2 ((pg + 1) + 1)])] <;> ((try simp only [Int32.add_zero, x_am1, x_s11, x_s12, x_s21, x_s13, x_s22, x_s31]) <;> (first | assumption | with_reducible rfl | grind))) (by show vI h3_2 (pg + 1) 1 = n; rw [show vI h3_2 (pg + 1) 1 = (vI h (pg + 1) 1) from (by rw [ih3_2 (pg + 1) 1, if_neg (fun z => absurd z.1 (by omega))])] <;> (first | assumption | with_reducible rfl | grind)) ?_ ?_
  · intro hr6_3 Thr6_3 g1r6_3_0 g1r6_3_1 f1r6_3_I f1r6_3_A f1r6_3_L
    try dsimp only
    rw [show vI h3_2 (v0 + 1) 1 = ((vI h (v0 + 1) 1) + 1) from (by rw [ih3_2 (v0 + 1) 1, if_pos ⟨rfl, rfl⟩])] at g1r6_3_0
    try simp only [Int32.add_zero, x_am1, x_s11, x_s12, x_s21, x_s13, x_s22, x_s31] at g1r6_3_0
    rw [show vI h3_2 (v0 + 1) 1 = ((vI h (v0 + 1) 1) + 1) from (by rw [ih3_2 (v0 + 1) 1, if_pos ⟨rfl, rfl⟩])] at g1r6_3_1
    refine qi_if (fun cc4 => absurd cc4 (by decide)) (fun _ => ?_)
    refine l_gR Thr6_3 pcm ?_
    refine l_gR Thr6_3 (d_Pa_0 Thr6_3 kv0) ?_
    refine l_gI (e := ((vI h (v0 + 1) 1) + 2)) (by rw [g1r6_3_0]) ?_
    refine o_sI Thr6_3 kcm (by decide) rfl ?_
    intro h11_5 Th11_5 ih11_5 ah11_5 lh11_5
    refine qi_tailp ?_
    refine jj_Pa_readExchange_43 (v0 := v0) (v1 := (0 : Int32)) (pg := pg) (cm := cm) (t := t) (n := n) Th11_5 kv0 kpg ppg kcm pcm ptx (by show ∀ j, 0 ≤ j → j < n → vA h11_5 ((pg + 1) + 1) j = t j; rw [show vA h11_5 ((pg + 1) + 1) = vA h ((pg + 1) + 1) from (by rw [ah11_5 ((pg + 1) + 1), f1r6_3_A ((pg + 1) + 1) (by omega), ah3_2 ((pg + 1) + 1)])] <;> ((try simp only [Int32.add_zero, x_am1, x_s11, x_s12, x_s21, x_s13, x_s22, x_s31]) <;> (first | assumption | with_reducible rfl | grind))) (by show vI h11_5 (pg + 1) 1 = n; rw [show vI h11_5 (pg + 1) 1 = (vI h (pg + 1) 1) from (by rw [ih11_5 (pg + 1) 1, if_neg (fun z => absurd z.2 (by decide)), f1r6_3_I (pg + 1) 1 (by omega), ih3_2 (pg + 1) 1, if_neg (fun z => absurd z.1 (by omega))])] <;> (first | assumption | with_reducible rfl | grind)) n1 tp D hc (by show 0 ≤ vI h11_5 (v0 + 1) 1; rw [show vI h11_5 (v0 + 1) 1 = ((vI h (v0 + 1) 1) + 2) from (by rw [ih11_5 (v0 + 1) 1, if_neg (fun z => absurd z.2 (by decide)), g1r6_3_0])] <;> (exact x_0le a0 (x_lp2 n2 (t := t) (x_ne lt)))) (by show (0 : Int32) ≤ vI h11_5 (v0 + 1) 1; rw [show vI h11_5 (v0 + 1) 1 = ((vI h (v0 + 1) 1) + 2) from (by rw [ih11_5 (v0 + 1) 1, if_neg (fun z => absurd z.2 (by decide)), g1r6_3_0])] <;> (exact x_0le a0 (x_lp2 n2 (t := t) (x_ne lt)))) (by show 0 ≤ vI h11_5 cm 9; rw [show vI h11_5 cm 9 = ((vI h (v0 + 1) 1) + 2) from (by rw [ih11_5 cm 9, if_pos ⟨rfl, rfl⟩])] <;> (exact x_0le a0 (x_lp2 n2 (t := t) (x_ne lt)))) (by show vI h11_5 cm 9 ≤ vI h11_5 (v0 + 1) 1; rw [show vI h11_5 cm 9 = ((vI h (v0 + 1) 1) + 2) from (by rw [ih11_5 cm 9, if_pos ⟨rfl, rfl⟩]), show vI h11_5 (v0 + 1) 1 = ((vI h (v0 + 1) 1) + 2) from (by rw [ih11_5 (v0 + 1) 1, if_neg (fun z => absurd z.2 (by decide)), g1r6_3_0])] <;> (exact Int32.le_refl _)) (by show vI h11_5 (v0 + 1) 1 ≤ n; rw [show vI h11_5 (v0 + 1) 1 = ((vI h (v0 + 1) 1) + 2) from (by rw [ih11_5 (v0 + 1) 1, if_neg (fun z => absurd z.2 (by decide)), g1r6_3_0])] <;> (exact x_le2 n2 (by assumption))) ?_ ?_
    · intro hrz6_7 Thrz6_7 g1rz6_7_0 g1rz6_7_1 g1rz6_7_2 f1rz6_7_I f1rz6_7_A f1rz6_7_L
      try dsimp only
      rw [show vI h11_5 cm 9 = ((vI h (v0 + 1) 1) + 2) from (by rw [ih11_5 cm 9, if_pos ⟨rfl, rfl⟩]), show vI h11_5 (v0 + 1) 1 = ((vI h (v0 + 1) 1) + 2) from (by rw [ih11_5 (v0 + 1) 1, if_neg (fun z => absurd z.2 (by decide)), g1r6_3_0])] at g1rz6_7_0
      rw [show vI h11_5 cm 9 = ((vI h (v0 + 1) 1) + 2) from (by rw [ih11_5 cm 9, if_pos ⟨rfl, rfl⟩]), show vI h11_5 (v0 + 1) 1 = ((vI h (v0 + 1) 1) + 2) from (by rw [ih11_5 (v0 + 1) 1, if_neg (fun z => absurd z.2 (by decide)), g1r6_3_0])] at g1rz6_7_1
      refine qi_some ?_
      exact ⟨Thrz6_7, Or.inl ⟨rfl, (by show x_exc t n (vI h (v0 + 1) 1 + 1) = some (vI hrz6_7 (v0 + 1) 1); rw [x_exc_y (by assumption)]; try rw [x_s11]; exact g1rz6_7_0), (by show vI hrz6_7 cm 9 = vI h (v0 + 1) 1 + 2; rw [show vI hrz6_7 cm 9 = ((vI h (v0 + 1) 1) + 2) from (by rw [f1rz6_7_I cm 9 (by omega), ih11_5 cm 9, if_pos ⟨rfl, rfl⟩])] <;> (first | assumption | with_reducible rfl | grind)), (by show x_yS t n (vI h (v0 + 1) 1) = vI hrz6_7 cm 10; exact x_ySe g1rz6_7_1), (by show vI hrz6_7 cm 11 = vI hrz6_7 cm 10 + 1; rw [show vI hrz6_7 cm 11 = (vI hrz6_7 cm 10 + 1) from (by rw [g1rz6_7_2])] <;> (first | assumption | with_reducible rfl | grind)), (fun a k na => by rw [f1rz6_7_I a k (fun z => na (z.elim (fun z => Or.inr (Or.inr (Or.inr (Or.inl z)))) (fun z => z.elim (fun z => Or.inl z) (fun z => z.elim (fun z => Or.inr (Or.inr (Or.inr (Or.inr (z))))) (fun z => Or.inr (Or.inl z)))))), ih11_5 a k, if_neg (fun z => na (Or.inr (Or.inr (Or.inl z)))), f1r6_3_I a k (fun z => na (z.elim (fun z => Or.inl z) (fun z => Or.inr (Or.inl z)))), ih3_2 a k, if_neg (fun z => na (Or.inl z))]), (fun a na => by rw [f1rz6_7_A a (by omega), ah11_5 a, f1r6_3_A a (by omega), ah3_2 a]), (fun a na => by rw [f1rz6_7_L a (by omega), lh11_5 a, f1r6_3_L a (by omega), lh3_2 a])⟩⟩
    · intro hrz6_7 Thrz6_7 g0rz6_7_0
      try dsimp only
      rw [show vI h11_5 cm 9 = ((vI h (v0 + 1) 1) + 2) from (by rw [ih11_5 cm 9, if_pos ⟨rfl, rfl⟩]), show vI h11_5 (v0 + 1) 1 = ((vI h (v0 + 1) 1) + 2) from (by rw [ih11_5 (v0 + 1) 1, if_neg (fun z => absurd z.2 (by decide)), g1r6_3_0])] at g0rz6_7_0
      refine qi_some ?_
      exact ⟨Thrz6_7, Or.inr ⟨rfl, (by show x_exc t n (vI h (v0 + 1) 1 + 1) = none; rw [x_exc_y (by assumption)]; try rw [x_s11]; exact g0rz6_7_0)⟩⟩
  · intro hr6_3 Thr6_3 g0r6_3_0
    try dsimp only
    rw [show vI h3_2 (v0 + 1) 1 = ((vI h (v0 + 1) 1) + 1) from (by rw [ih3_2 (v0 + 1) 1, if_pos ⟨rfl, rfl⟩])] at g0r6_3_0
    refine qi_if (fun _ => ?_) (fun cc8 => absurd (by decide) cc8)
    refine qi_some ?_
    exact ⟨Thr6_3, Or.inr ⟨rfl, (by show x_exc t n (vI h (v0 + 1) 1 + 1) = none; exact x_exc_n (by assumption))⟩⟩
theorem jj_Pa_readExchange {L : q_L} {π : Nat → Nat → Option Nat} {N : Nat} {pg : Nat} {cm : Nat} {t : Int32 → Int32} {n : Int32} {h : z_H} {v0 : Nat} {β : Type} {f : Int32 × z_H → Option β} {Q : β → Prop} (T : x_U L π h) (kv0 : qκ L v0 = 7) (kpg : qκ L pg = 10) (ppg : π v0 5 = some pg) (kcm : qκ L cm = 2) (pcm : π v0 6 = some cm) (ptx : π (v0 + 1) 0 = some (pg + 1)) (ht : ∀ j, 0 ≤ j → j < n → vA h ((pg + 1) + 1) j = t j) (hn : vI h (pg + 1) 1 = n) (n1 : n ≤ 240) (tp : ∀ j, t j ≠ -1) (D : v0 + 5 ≤ pg) (hc : pg + 9 ≤ cm ∧ cm + 6 ≤ pg + 249) (a0 : 0 ≤ vI h (v0 + 1) 1) (lt : x_lk t n (vI h (v0 + 1) 1) = 121) (H1 : ∀ h', x_U L π h' → (x_exc t n (vI h (v0 + 1) 1 + 1) = some (vI h' (v0 + 1) 1)) → (vI h' cm 9 = vI h (v0 + 1) 1 + 2) → (x_yS t n (vI h (v0 + 1) 1) = vI h' cm 10) → (vI h' cm 11 = vI h' cm 10 + 1) → (∀ a k, ¬ ((a = (v0 + 1) ∧ k = 1) ∨ (a = (v0 + 1) ∧ k = 2) ∨ (a = cm ∧ k = 9) ∨ (a = cm ∧ k = 10) ∨ (a = cm ∧ k = 11)) → vI h' a k = vI h a k) → (∀ a, ¬ (a < a) → vA h' a = vA h a) → (∀ a, ¬ (a < a) → vL h' a = vL h a) → qi (f (1, h')) Q) (H0 : ∀ h', x_U L π h' → (x_exc t n (vI h (v0 + 1) 1 + 1) = none) → qi (f (0, h')) Q) : qi (z_b (f_Pa_readExchange N v0 h) f) Q := by
  refine qi_b (ii_Pa_readExchange  T kv0 kpg ppg kcm pcm ptx ht hn n1 tp D hc a0 lt) ?_
  rintro ⟨y, hz⟩ ⟨Tz, ⟨ey, g0, g1, g2, g3, g4, g5, g6⟩ | ⟨ey, g0⟩⟩
  · dsimp only at *; subst ey; exact H1 hz Tz g0 g1 g2 g3 g4 g5 g6
  · dsimp only at *; subst ey; exact H0 hz Tz g0
