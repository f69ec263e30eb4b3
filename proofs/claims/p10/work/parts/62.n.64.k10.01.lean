set_option maxHeartbeats 16000000 in
theorem ii_Pa_read_8 {L : q_L} {N : Nat} {pg : Nat} {t : Int32 → Int32} {n : Int32} : ∀ (m9 : Nat) (π : Nat → Nat → Option Nat) (lab : Int32 → Int32) (use : Int32 → Int32) (B : x_SS) (v0 : Nat) (v3 : Int32) (h : z_H), x_U L π h → qκ L v0 = 7 → (qκ L pg = 10) → (π v0 5 = some pg) → (π (v0 + 1) 0 = some (pg + 1)) → (π (v0 + 2) 0 = some (v0 + 1)) → (∀ j, 0 ≤ j → j < n → vA h ((pg + 1) + 1) j = t j) → (vI h (pg + 1) 1 = n) → (n ≤ 240) → (∀ j, t j ≠ -1) → (v0 + 5 ≤ pg) → (0 ≤ vI h (v0 + 1) 1) → (x_R1 x_abc (vA h (v0 + 4)) lab) → (x_R2 h pg (vI h pg 3) use) → (0 ≤ vI h pg 3 ∧ vI h pg 3 ≤ 40) → (v3 ≤ vI h (v0 + 1) 1) → (∀ j, x_kc (t j)) → (0 ≤ vI h (pg + 3) 4 ∧ vI h (pg + 3) 4 ≤ vI h (v0 + 1) 1) → (c_SC h v0 pg t n B) → qi (f_Pa_read_8 N m9 v0 v3 h) (fun r => ∃ π1, x_U L π1 r.2 ∧ (∀ a k, ¬ ((a = v0 ∧ k = 6) ∨ (a = (v0 + 2) ∧ k = 1) ∨ (a = (v0 + 2) ∧ k = 2)) → π1 a k = π a k) ∧ ((r.1 = 1 ∧ (x_P1 (x_scr t n (vI h (v0 + 1) 1) (vI h v0 4) (vI h pg 3) lab use) (vI r.2 pg 3)) ∧ (c_PRG r.2 pg t n (x_sW t n B)) ∧ (c_TX r.2 pg t n)) ∨ (r.1 = 0 ∧ (x_P0 (x_scr t n (vI h (v0 + 1) 1) (vI h v0 4) (vI h pg 3) lab use))))) := by
  intro m9
  induction m9 with
  | zero => intro π lab use B v0 v3 h T kv0 kpg ppg ptx ppc ht hn n1 tp D a0 R1 R2 s0 hs kt sb hB r e; rw [f_Pa_read_8] at e; cases e
  | succ m9 ih =>
    intro π lab use B v0 v3 h T kv0 kpg ppg ptx ppc ht hn n1 tp D a0 R1 R2 s0 hs kt sb hB
    rw [f_Pa_read_8]
    have n2 : n ≤ 1000 := Int32.le_trans n1 (by decide)
    have ktx := e_Prog_0 T kpg
    have kpc := e_Pa_0 T kv0
    refine qi_if (fun cc1 => ?_) (fun cc1 => ?_)
    · skip
      unfold f_Pa_read_119
      refine l_gI (e := (vI h v0 4)) rfl ?_
      refine qi_if (fun cc3 => ?_) (fun cc3 => ?_)
      · skip
        refine l_gO ?_
        refine jj_Pa_joinLabels (v0 := v0) (pg := pg) (lab := lab) (use := use) T kv0 kpg ppg D R1 R2 s0 ?_ ?_
        · intro hr8i2_4 Thr8i2_4 g1r8i2_4_0 g1r8i2_4_1 g1r8i2_4_2
          try dsimp only
          refine qi_zB (fun zb5 => ?_)
          refine qi_some ?_
          exact ⟨_, Thr8i2_4, (fun a k na => by rfl), Or.inl ⟨rfl, (by show x_P1 (x_scr t n (vI h (v0 + 1) 1) (vI h v0 4) (vI h pg 3) lab use) (vI hr8i2_4 pg 3); rw [show vI hr8i2_4 pg 3 = (vI h pg 3) from (by rw [g1r8i2_4_0])] <;> (exact x_P1s ((x_sc_out (x_lim hs (by assumption) n1)).trans (if_pos (by assumption))) g1r8i2_4_1)), (by show c_PRG hr8i2_4 pg t n (x_sW t n B); exact c_PRG_o hB D (by rw [x_lk, if_neg (x_lim hs (by assumption) n1)]) (by assumption) g1r8i2_4_2), (by show c_TX hr8i2_4 pg t n; exact c_TX_o ht hn g1r8i2_4_2)⟩⟩
        · intro hr8i2_4 Thr8i2_4 g0r8i2_4_0
          try dsimp only
          refine qi_zB (fun zb6 => ?_)
          refine qi_some ?_
          exact ⟨_, Thr8i2_4, (fun a k na => by rfl), Or.inr ⟨rfl, (by show x_P0 (x_scr t n (vI h (v0 + 1) 1) (vI h v0 4) (vI h pg 3) lab use); exact x_P0s ((x_sc_out (x_lim hs (by assumption) n1)).trans (if_pos (by assumption))) g0r8i2_4_0)⟩⟩
      · skip
        refine l_gR T (d_Pa_0 T kv0) ?_
        refine l_gO ?_
        refine jj_Cur_refuse (v0 := (v0 + 1)) (v1 := (0 : Int32)) T kpc ?_
        · intro hr5i2_7 Thr5i2_7
          try dsimp only
          refine qi_zB (fun zb8 => ?_)
          refine qi_some ?_
          exact ⟨_, Thr5i2_7, (fun a k na => by rfl), Or.inr ⟨rfl, (by show x_P0 (x_scr t n (vI h (v0 + 1) 1) (vI h v0 4) (vI h pg 3) lab use); exact x_P0n ((x_sc_out (x_lim hs (by assumption) n1)).trans (if_neg (by assumption))))⟩⟩
    · skip
      refine l_gR T (d_Pa_0 T kv0) ?_
      refine l_gO ?_
      refine jj_Cur_look (v0 := (v0 + 1)) (v1 := (0 : Int32)) (tx := (pg + 1)) (t := t) (n := n) (e := (x_lk t n (vI h (v0 + 1) 1))) T kpc ktx ptx ht hn (by simp only [Int32.add_zero, x_am1, x_s11, x_s12, x_s21, x_s13, x_s22, x_s31]) ?_
      try dsimp only
      refine qi_if (fun cc10 => ?_) (fun cc10 => ?_)
      · skip
        unfold f_Pa_read_119
        refine l_gI (e := (vI h v0 4)) rfl ?_
        refine qi_if (fun cc12 => ?_) (fun cc12 => ?_)
        · skip
          refine l_gO ?_
          refine jj_Pa_joinLabels (v0 := v0) (pg := pg) (lab := lab) (use := use) T kv0 kpg ppg D R1 R2 s0 ?_ ?_
          · intro hr8i11_13 Thr8i11_13 g1r8i11_13_0 g1r8i11_13_1 g1r8i11_13_2
            try dsimp only
            refine qi_zB (fun zb14 => ?_)
            refine qi_some ?_
            exact ⟨_, Thr8i11_13, (fun a k na => by rfl), Or.inl ⟨rfl, (by show x_P1 (x_scr t n (vI h (v0 + 1) 1) (vI h v0 4) (vI h pg 3) lab use) (vI hr8i11_13 pg 3); rw [show vI hr8i11_13 pg 3 = (vI h pg 3) from (by rw [g1r8i11_13_0])] <;> (exact x_P1s ((x_sc_out (x_lk_no tp cc10)).trans (if_pos (by assumption))) g1r8i11_13_1)), (by show c_PRG hr8i11_13 pg t n (x_sW t n B); exact c_PRG_o hB D cc10 (by assumption) g1r8i11_13_2), (by show c_TX hr8i11_13 pg t n; exact c_TX_o ht hn g1r8i11_13_2)⟩⟩
          · intro hr8i11_13 Thr8i11_13 g0r8i11_13_0
            try dsimp only
            refine qi_zB (fun zb15 => ?_)
            refine qi_some ?_
            exact ⟨_, Thr8i11_13, (fun a k na => by rfl), Or.inr ⟨rfl, (by show x_P0 (x_scr t n (vI h (v0 + 1) 1) (vI h v0 4) (vI h pg 3) lab use); exact x_P0s ((x_sc_out (x_lk_no tp cc10)).trans (if_pos (by assumption))) g0r8i11_13_0)⟩⟩
        · skip
          refine l_gR T (d_Pa_0 T kv0) ?_
          refine l_gO ?_
          refine jj_Cur_refuse (v0 := (v0 + 1)) (v1 := (0 : Int32)) T kpc ?_
          · intro hr5i11_16 Thr5i11_16
            try dsimp only
            refine qi_zB (fun zb17 => ?_)
            refine qi_some ?_
            exact ⟨_, Thr5i11_16, (fun a k na => by rfl), Or.inr ⟨rfl, (by show x_P0 (x_scr t n (vI h (v0 + 1) 1) (vI h v0 4) (vI h pg 3) lab use); exact x_P0n ((x_sc_out (x_lk_no tp cc10)).trans (if_neg (by assumption))))⟩⟩
      · skip
        refine l_gR T (d_Pa_0 T kv0) ?_
        refine l_gO ?_
        refine jj_Cur_look (v0 := (v0 + 1)) (v1 := (0 : Int32)) (tx := (pg + 1)) (t := t) (n := n) (e := (x_lk t n (vI h (v0 + 1) 1))) T kpc ktx ptx ht hn (by simp only [Int32.add_zero, x_am1, x_s11, x_s12, x_s21, x_s13, x_s22, x_s31]) ?_
        try dsimp only
        refine qi_bs ?_
        refine qi_if (fun cc19 => ?_) (fun cc19 => ?_)
        · skip
          unfold f_Pa_read_58
          refine l_gR T (d_Pa_0 T kv0) ?_
          refine l_gI (e := (vI h (v0 + 1) 1)) rfl ?_
          refine o_sI T kpc (by decide) rfl ?_
          intro h3i20_21 Th3i20_21 ih3i20_21 ah3i20_21 lh3i20_21
          refine qi_bs ?_
          refine qi_mono (ih _ lab use (x_sbl B) v0 (v3 + 1) h3i20_21 Th3i20_21 kv0 kpg ppg ptx ppc (by show ∀ j, 0 ≤ j → j < n → vA h3i20_21 ((pg + 1) + 1) j = t j; rw [show vA h3i20_21 ((pg + 1) + 1) = vA h ((pg + 1) + 1) from (by rw [ah3i20_21 ((pg + 1) + 1)])] <;> ((try simp only [Int32.add_zero, x_am1, x_s11, x_s12, x_s21, x_s13, x_s22, x_s31]) <;> (first | assumption | with_reducible rfl | grind))) (by show vI h3i20_21 (pg + 1) 1 = n; rw [show vI h3i20_21 (pg + 1) 1 = (vI h (pg + 1) 1) from (by rw [ih3i20_21 (pg + 1) 1, if_neg (fun z => absurd z.1 (by omega))])] <;> (first | assumption | with_reducible rfl | grind)) n1 tp D (by show 0 ≤ vI h3i20_21 (v0 + 1) 1; rw [show vI h3i20_21 (v0 + 1) 1 = ((vI h (v0 + 1) 1) + 1) from (by rw [ih3i20_21 (v0 + 1) 1, if_pos ⟨rfl, rfl⟩])] <;> (exact x_0le a0 (x_lp1 n2 (t := t) cc10))) (by show x_R1 x_abc (vA h3i20_21 (v0 + 4)) lab; rw [show vA h3i20_21 (v0 + 4) = vA h (v0 + 4) from (by rw [ah3i20_21 (v0 + 4)])] <;> (exact R1)) (by show x_R2 h3i20_21 pg (vI h3i20_21 pg 3) use; rw [show vI h3i20_21 pg 3 = (vI h pg 3) from (by rw [ih3i20_21 pg 3, if_neg (fun z => absurd z.2 (by decide))])] <;> (exact x_R2_eq R2 (fun a => by rw [ih3i20_21 a 3, if_neg (fun z => absurd z.2 (by decide))]) (fun a => by rw [ih3i20_21 a 8, if_neg (fun z => absurd z.2 (by decide))]))) (by show 0 ≤ vI h3i20_21 pg 3 ∧ vI h3i20_21 pg 3 ≤ 40; rw [show vI h3i20_21 pg 3 = (vI h pg 3) from (by rw [ih3i20_21 pg 3, if_neg (fun z => absurd z.2 (by decide))])] <;> (exact s0)) (by show (v3 + 1) ≤ vI h3i20_21 (v0 + 1) 1; rw [show vI h3i20_21 (v0 + 1) 1 = ((vI h (v0 + 1) 1) + 1) from (by rw [ih3i20_21 (v0 + 1) 1, if_pos ⟨rfl, rfl⟩])] <;> (exact x_stp hs (by assumption) (x_lp1 n2 (t := t) cc10))) kt (by show 0 ≤ vI h3i20_21 (pg + 3) 4 ∧ vI h3i20_21 (pg + 3) 4 ≤ vI h3i20_21 (v0 + 1) 1; rw [show vI h3i20_21 (pg + 3) 4 = (vI h (pg + 3) 4) from (by rw [ih3i20_21 (pg + 3) 4, if_neg (fun z => absurd z.2 (by decide))]), show vI h3i20_21 (v0 + 1) 1 = ((vI h (v0 + 1) 1) + 1) from (by rw [ih3i20_21 (v0 + 1) 1, if_pos ⟨rfl, rfl⟩])] <;> (exact x_sbn sb (Int32.le_of_lt (x_lp1 n2 (t := t) cc10)))) (c_SC_bl hB ih3i20_21 ah3i20_21 lh3i20_21 D)) ?_
          rintro ⟨y, hrz22_23⟩ ⟨πhrz22_23, Thrz22_23, zhrz22_23, ⟨ey, g1rz22_23_0, g1rz22_23_1, g1rz22_23_2⟩ | ⟨ey, g0rz22_23_0⟩⟩
          · dsimp only at *
            subst ey
            rw [show vI h3i20_21 (v0 + 1) 1 = ((vI h (v0 + 1) 1) + 1) from (by rw [ih3i20_21 (v0 + 1) 1, if_pos ⟨rfl, rfl⟩]), show vI h3i20_21 v0 4 = (vI h v0 4) from (by rw [ih3i20_21 v0 4, if_neg (fun z => absurd z.2 (by decide))]), show vI h3i20_21 pg 3 = (vI h pg 3) from (by rw [ih3i20_21 pg 3, if_neg (fun z => absurd z.2 (by decide))])] at g1rz22_23_0
            exact ⟨_, Thrz22_23, (fun a k na => by rw [zhrz22_23 a k (by omega)]), Or.inl ⟨rfl, (by show x_P1 (x_scr t n (vI h (v0 + 1) 1) (vI h v0 4) (vI h pg 3) lab use) (vI hrz22_23 pg 3); rw [x_sc_bl n2 (Or.inl cc19)]; exact g1rz22_23_0), (by show c_PRG hrz22_23 pg t n (x_sW t n B); rw [x_sW_b (B := B) (hB.1.1 ▸ (show x_sbk (x_lk t n (vI h (v0 + 1) 1)) from Or.inl cc19))]; exact g1rz22_23_1), g1rz22_23_2⟩⟩
          · dsimp only at *
            subst ey
            rw [show vI h3i20_21 (v0 + 1) 1 = ((vI h (v0 + 1) 1) + 1) from (by rw [ih3i20_21 (v0 + 1) 1, if_pos ⟨rfl, rfl⟩]), show vI h3i20_21 v0 4 = (vI h v0 4) from (by rw [ih3i20_21 v0 4, if_neg (fun z => absurd z.2 (by decide))]), show vI h3i20_21 pg 3 = (vI h pg 3) from (by rw [ih3i20_21 pg 3, if_neg (fun z => absurd z.2 (by decide))])] at g0rz22_23_0
            exact ⟨_, Thrz22_23, (fun a k na => by rw [zhrz22_23 a k (by omega)]), Or.inr ⟨rfl, (by show x_P0 (x_scr t n (vI h (v0 + 1) 1) (vI h v0 4) (vI h pg 3) lab use); rw [x_sc_bl n2 (Or.inl cc19)]; exact g0rz22_23_0)⟩⟩
        · skip
          refine qi_if (fun cc24 => ?_) (fun cc24 => ?_)
          · skip
            unfold f_Pa_read_58
            refine l_gR T (d_Pa_0 T kv0) ?_
            refine l_gI (e := (vI h (v0 + 1) 1)) rfl ?_
            refine o_sI T kpc (by decide) rfl ?_
            intro h3i25_26 Th3i25_26 ih3i25_26 ah3i25_26 lh3i25_26
            refine qi_bs ?_
            refine qi_mono (ih _ lab use (x_sbl B) v0 (v3 + 1) h3i25_26 Th3i25_26 kv0 kpg ppg ptx ppc (by show ∀ j, 0 ≤ j → j < n → vA h3i25_26 ((pg + 1) + 1) j = t j; rw [show vA h3i25_26 ((pg + 1) + 1) = vA h ((pg + 1) + 1) from (by rw [ah3i25_26 ((pg + 1) + 1)])] <;> ((try simp only [Int32.add_zero, x_am1, x_s11, x_s12, x_s21, x_s13, x_s22, x_s31]) <;> (first | assumption | with_reducible rfl | grind))) (by show vI h3i25_26 (pg + 1) 1 = n; rw [show vI h3i25_26 (pg + 1) 1 = (vI h (pg + 1) 1) from (by rw [ih3i25_26 (pg + 1) 1, if_neg (fun z => absurd z.1 (by omega))])] <;> (first | assumption | with_reducible rfl | grind)) n1 tp D (by show 0 ≤ vI h3i25_26 (v0 + 1) 1; rw [show vI h3i25_26 (v0 + 1) 1 = ((vI h (v0 + 1) 1) + 1) from (by rw [ih3i25_26 (v0 + 1) 1, if_pos ⟨rfl, rfl⟩])] <;> (exact x_0le a0 (x_lp1 n2 (t := t) cc10))) (by show x_R1 x_abc (vA h3i25_26 (v0 + 4)) lab; rw [show vA h3i25_26 (v0 + 4) = vA h (v0 + 4) from (by rw [ah3i25_26 (v0 + 4)])] <;> (exact R1)) (by show x_R2 h3i25_26 pg (vI h3i25_26 pg 3) use; rw [show vI h3i25_26 pg 3 = (vI h pg 3) from (by rw [ih3i25_26 pg 3, if_neg (fun z => absurd z.2 (by decide))])] <;> (exact x_R2_eq R2 (fun a => by rw [ih3i25_26 a 3, if_neg (fun z => absurd z.2 (by decide))]) (fun a => by rw [ih3i25_26 a 8, if_neg (fun z => absurd z.2 (by decide))]))) (by show 0 ≤ vI h3i25_26 pg 3 ∧ vI h3i25_26 pg 3 ≤ 40; rw [show vI h3i25_26 pg 3 = (vI h pg 3) from (by rw [ih3i25_26 pg 3, if_neg (fun z => absurd z.2 (by decide))])] <;> (exact s0)) (by show (v3 + 1) ≤ vI h3i25_26 (v0 + 1) 1; rw [show vI h3i25_26 (v0 + 1) 1 = ((vI h (v0 + 1) 1) + 1) from (by rw [ih3i25_26 (v0 + 1) 1, if_pos ⟨rfl, rfl⟩])] <;> (exact x_stp hs (by assumption) (x_lp1 n2 (t := t) cc10))) kt (by show 0 ≤ vI h3i25_26 (pg + 3) 4 ∧ vI h3i25_26 (pg + 3) 4 ≤ vI h3i25_26 (v0 + 1) 1; rw [show vI h3i25_26 (pg + 3) 4 = (vI h (pg + 3) 4) from (by rw [ih3i25_26 (pg + 3) 4, if_neg (fun z => absurd z.2 (by decide))]), show vI h3i25_26 (v0 + 1) 1 = ((vI h (v0 + 1) 1) + 1) from (by rw [ih3i25_26 (v0 + 1) 1, if_pos ⟨rfl, rfl⟩])] <;> (exact x_sbn sb (Int32.le_of_lt (x_lp1 n2 (t := t) cc10)))) (c_SC_bl hB ih3i25_26 ah3i25_26 lh3i25_26 D)) ?_
            rintro ⟨y, hrz27_28⟩ ⟨πhrz27_28, Thrz27_28, zhrz27_28, ⟨ey, g1rz27_28_0, g1rz27_28_1, g1rz27_28_2⟩ | ⟨ey, g0rz27_28_0⟩⟩
            · dsimp only at *
              subst ey
              rw [show vI h3i25_26 (v0 + 1) 1 = ((vI h (v0 + 1) 1) + 1) from (by rw [ih3i25_26 (v0 + 1) 1, if_pos ⟨rfl, rfl⟩]), show vI h3i25_26 v0 4 = (vI h v0 4) from (by rw [ih3i25_26 v0 4, if_neg (fun z => absurd z.2 (by decide))]), show vI h3i25_26 pg 3 = (vI h pg 3) from (by rw [ih3i25_26 pg 3, if_neg (fun z => absurd z.2 (by decide))])] at g1rz27_28_0
              exact ⟨_, Thrz27_28, (fun a k na => by rw [zhrz27_28 a k (by omega)]), Or.inl ⟨rfl, (by show x_P1 (x_scr t n (vI h (v0 + 1) 1) (vI h v0 4) (vI h pg 3) lab use) (vI hrz27_28 pg 3); rw [x_sc_bl n2 (Or.inr (Or.inl cc24))]; exact g1rz27_28_0), (by show c_PRG hrz27_28 pg t n (x_sW t n B); rw [x_sW_b (B := B) (hB.1.1 ▸ (show x_sbk (x_lk t n (vI h (v0 + 1) 1)) from Or.inr (Or.inl cc24)))]; exact g1rz27_28_1), g1rz27_28_2⟩⟩
            · dsimp only at *
              subst ey
              rw [show vI h3i25_26 (v0 + 1) 1 = ((vI h (v0 + 1) 1) + 1) from (by rw [ih3i25_26 (v0 + 1) 1, if_pos ⟨rfl, rfl⟩]), show vI h3i25_26 v0 4 = (vI h v0 4) from (by rw [ih3i25_26 v0 4, if_neg (fun z => absurd z.2 (by decide))]), show vI h3i25_26 pg 3 = (vI h pg 3) from (by rw [ih3i25_26 pg 3, if_neg (fun z => absurd z.2 (by decide))])] at g0rz27_28_0
              exact ⟨_, Thrz27_28, (fun a k na => by rw [zhrz27_28 a k (by omega)]), Or.inr ⟨rfl, (by show x_P0 (x_scr t n (vI h (v0 + 1) 1) (vI h v0 4) (vI h pg 3) lab use); rw [x_sc_bl n2 (Or.inr (Or.inl cc24))]; exact g0rz27_28_0)⟩⟩
          · skip
            refine qi_if (fun cc29 => ?_) (fun cc29 => ?_)
            · skip
              unfold f_Pa_read_58
              refine l_gR T (d_Pa_0 T kv0) ?_
              refine l_gI (e := (vI h (v0 + 1) 1)) rfl ?_
              refine o_sI T kpc (by decide) rfl ?_
              intro h3i30_31 Th3i30_31 ih3i30_31 ah3i30_31 lh3i30_31
              refine qi_bs ?_
              refine qi_mono (ih _ lab use (x_sbl B) v0 (v3 + 1) h3i30_31 Th3i30_31 kv0 kpg ppg ptx ppc (by show ∀ j, 0 ≤ j → j < n → vA h3i30_31 ((pg + 1) + 1) j = t j; rw [show vA h3i30_31 ((pg + 1) + 1) = vA h ((pg + 1) + 1) from (by rw [ah3i30_31 ((pg + 1) + 1)])] <;> ((try simp only [Int32.add_zero, x_am1, x_s11, x_s12, x_s21, x_s13, x_s22, x_s31]) <;> (first | assumption | with_reducible rfl | grind))) (by show vI h3i30_31 (pg + 1) 1 = n; rw [show vI h3i30_31 (pg + 1) 1 = (vI h (pg + 1) 1) from (by rw [ih3i30_31 (pg + 1) 1, if_neg (fun z => absurd z.1 (by omega))])] <;> (first | assumption | with_reducible rfl | grind)) n1 tp D (by show 0 ≤ vI h3i30_31 (v0 + 1) 1; rw [show vI h3i30_31 (v0 + 1) 1 = ((vI h (v0 + 1) 1) + 1) from (by rw [ih3i30_31 (v0 + 1) 1, if_pos ⟨rfl, rfl⟩])] <;> (exact x_0le a0 (x_lp1 n2 (t := t) cc10))) (by show x_R1 x_abc (vA h3i30_31 (v0 + 4)) lab; rw [show vA h3i30_31 (v0 + 4) = vA h (v0 + 4) from (by rw [ah3i30_31 (v0 + 4)])] <;> (exact R1)) (by show x_R2 h3i30_31 pg (vI h3i30_31 pg 3) use; rw [show vI h3i30_31 pg 3 = (vI h pg 3) from (by rw [ih3i30_31 pg 3, if_neg (fun z => absurd z.2 (by decide))])] <;> (exact x_R2_eq R2 (fun a => by rw [ih3i30_31 a 3, if_neg (fun z => absurd z.2 (by decide))]) (fun a => by rw [ih3i30_31 a 8, if_neg (fun z => absurd z.2 (by decide))]))) (by show 0 ≤ vI h3i30_31 pg 3 ∧ vI h3i30_31 pg 3 ≤ 40; rw [show vI h3i30_31 pg 3 = (vI h pg 3) from (by rw [ih3i30_31 pg 3, if_neg (fun z => absurd z.2 (by decide))])] <;> (exact s0)) (by show (v3 + 1) ≤ vI h3i30_31 (v0 + 1) 1; rw [show vI h3i30_31 (v0 + 1) 1 = ((vI h (v0 + 1) 1) + 1) from (by rw [ih3i30_31 (v0 + 1) 1, if_pos ⟨rfl, rfl⟩])] <;> (exact x_stp hs (by assumption) (x_lp1 n2 (t := t) cc10))) kt (by show 0 ≤ vI h3i30_31 (pg + 3) 4 ∧ vI h3i30_31 (pg + 3) 4 ≤ vI h3i30_31 (v0 + 1) 1; rw [show vI h3i30_31 (pg + 3) 4 = (vI h (pg + 3) 4) from (by rw [ih3i30_31 (pg + 3) 4, if_neg (fun z => absurd z.2 (by decide))]), show vI h3i30_31 (v0 + 1) 1 = ((vI h (v0 + 1) 1) + 1) from (by rw [ih3i30_31 (v0 + 1) 1, if_pos ⟨rfl, rfl⟩])] <;> (exact x_sbn sb (Int32.le_of_lt (x_lp1 n2 (t := t) cc10)))) (c_SC_bl hB ih3i30_31 ah3i30_31 lh3i30_31 D)) ?_
              rintro ⟨y, hrz32_33⟩ ⟨πhrz32_33, Thrz32_33, zhrz32_33, ⟨ey, g1rz32_33_0, g1rz32_33_1, g1rz32_33_2⟩ | ⟨ey, g0rz32_33_0⟩⟩
              · dsimp only at *
                subst ey
                rw [show vI h3i30_31 (v0 + 1) 1 = ((vI h (v0 + 1) 1) + 1) from (by rw [ih3i30_31 (v0 + 1) 1, if_pos ⟨rfl, rfl⟩]), show vI h3i30_31 v0 4 = (vI h v0 4) from (by rw [ih3i30_31 v0 4, if_neg (fun z => absurd z.2 (by decide))]), show vI h3i30_31 pg 3 = (vI h pg 3) from (by rw [ih3i30_31 pg 3, if_neg (fun z => absurd z.2 (by decide))])] at g1rz32_33_0
                exact ⟨_, Thrz32_33, (fun a k na => by rw [zhrz32_33 a k (by omega)]), Or.inl ⟨rfl, (by show x_P1 (x_scr t n (vI h (v0 + 1) 1) (vI h v0 4) (vI h pg 3) lab use) (vI hrz32_33 pg 3); rw [x_sc_bl n2 (Or.inr (Or.inr cc29))]; exact g1rz32_33_0), (by show c_PRG hrz32_33 pg t n (x_sW t n B); rw [x_sW_b (B := B) (hB.1.1 ▸ (show x_sbk (x_lk t n (vI h (v0 + 1) 1)) from Or.inr (Or.inr cc29)))]; exact g1rz32_33_1), g1rz32_33_2⟩⟩
              · dsimp only at *
                subst ey
                rw [show vI h3i30_31 (v0 + 1) 1 = ((vI h (v0 + 1) 1) + 1) from (by rw [ih3i30_31 (v0 + 1) 1, if_pos ⟨rfl, rfl⟩]), show vI h3i30_31 v0 4 = (vI h v0 4) from (by rw [ih3i30_31 v0 4, if_neg (fun z => absurd z.2 (by decide))]), show vI h3i30_31 pg 3 = (vI h pg 3) from (by rw [ih3i30_31 pg 3, if_neg (fun z => absurd z.2 (by decide))])] at g0rz32_33_0
                exact ⟨_, Thrz32_33, (fun a k na => by rw [zhrz32_33 a k (by omega)]), Or.inr ⟨rfl, (by show x_P0 (x_scr t n (vI h (v0 + 1) 1) (vI h v0 4) (vI h pg 3) lab use); rw [x_sc_bl n2 (Or.inr (Or.inr cc29))]; exact g0rz32_33_0)⟩⟩
            · skip
              refine qi_if (fun cc34 => ?_) (fun cc34 => ?_)
              · skip
                refine l_gO ?_
                refine jj_Pa_closeBlock (v0 := v0) (pg := pg) (t := t) (n := n) T kv0 kpg ppg ptx ht hn n1 tp D a0 ?_ ?_
                · intro hr25_35 Thr25_35 g1r25_35_0 g1r25_35_1 g1r25_35_2 g1r25_35_3 g1r25_35_4 g1r25_35_5 f1r25_35_I f1r25_35_A f1r25_35_L
                  try dsimp only
                  refine qi_if (fun cc36 => absurd cc36 (by decide)) (fun _ => ?_)
                  refine qi_bs ?_
                  refine qi_mono (ih _ lab use (x_scl B) v0 (v3 + 1) hr25_35 Thr25_35 kv0 kpg ppg ptx ppc (by show ∀ j, 0 ≤ j → j < n → vA hr25_35 ((pg + 1) + 1) j = t j; rw [show vA hr25_35 ((pg + 1) + 1) = vA h ((pg + 1) + 1) from (by rw [f1r25_35_A ((pg + 1) + 1) (by omega)])] <;> ((try simp only [Int32.add_zero, x_am1, x_s11, x_s12, x_s21, x_s13, x_s22, x_s31]) <;> (first | assumption | with_reducible rfl | grind))) (by show vI hr25_35 (pg + 1) 1 = n; rw [show vI hr25_35 (pg + 1) 1 = (vI h (pg + 1) 1) from (by rw [f1r25_35_I (pg + 1) 1 (by omega)])] <;> (first | assumption | with_reducible rfl | grind)) n1 tp D (by show 0 ≤ vI hr25_35 (v0 + 1) 1; rw [show vI hr25_35 (v0 + 1) 1 = (vI h (v0 + 1) 1 + 1) from (by rw [g1r25_35_1])] <;> (exact x_0le a0 (x_lp1 n2 (t := t) cc10))) (by show x_R1 x_abc (vA hr25_35 (v0 + 4)) lab; rw [show vA hr25_35 (v0 + 4) = vA h (v0 + 4) from (by rw [f1r25_35_A (v0 + 4) (by omega)])] <;> (exact R1)) (by show x_R2 hr25_35 pg (vI hr25_35 pg 3) use; rw [show vI hr25_35 pg 3 = (vI h pg 3) from (by rw [f1r25_35_I pg 3 (by omega)])] <;> (exact x_R2_eq R2 (fun a => by rw [f1r25_35_I a 3 (by omega)]) (fun a => by rw [f1r25_35_I a 8 (by omega)]))) (by show 0 ≤ vI hr25_35 pg 3 ∧ vI hr25_35 pg 3 ≤ 40; rw [show vI hr25_35 pg 3 = (vI h pg 3) from (by rw [f1r25_35_I pg 3 (by omega)])] <;> (exact s0)) (by show (v3 + 1) ≤ vI hr25_35 (v0 + 1) 1; rw [show vI hr25_35 (v0 + 1) 1 = (vI h (v0 + 1) 1 + 1) from (by rw [g1r25_35_1])] <;> (exact x_stp hs (by assumption) (x_lp1 n2 (t := t) cc10))) kt (by show 0 ≤ vI hr25_35 (pg + 3) 4 ∧ vI hr25_35 (pg + 3) 4 ≤ vI hr25_35 (v0 + 1) 1; rw [show vI hr25_35 (pg + 3) 4 = (vI h (pg + 3) 4) from (by rw [f1r25_35_I (pg + 3) 4 (by omega)]), show vI hr25_35 (v0 + 1) 1 = (vI h (v0 + 1) 1 + 1) from (by rw [g1r25_35_1])] <;> (exact x_sbn sb (Int32.le_of_lt (x_lp1 n2 (t := t) cc10)))) (c_SC_cl hB D (by assumption) (by show vI hr25_35 (v0 + 1) 1 = vI h (v0 + 1) 1 + 1; rw [show vI hr25_35 (v0 + 1) 1 = (vI h (v0 + 1) 1 + 1) from (by rw [g1r25_35_1])] <;> (first | assumption | with_reducible rfl | grind)) (by show vI hr25_35 v0 4 = vI h v0 4 - 1; rw [show vI hr25_35 v0 4 = (vI h v0 4 - 1) from (by rw [g1r25_35_0])] <;> (first | assumption | with_reducible rfl | grind)) (by show vI hr25_35 (pg + (9 + 6 * Int32.toNatClampNeg (vA h (v0 + 3) ((vI h v0 4) - 1)))) 7 = vI h pg 3; rw [show vI hr25_35 (pg + (9 + 6 * Int32.toNatClampNeg (vA h (v0 + 3) ((vI h v0 4) - 1)))) 7 = (vI h pg 3) from (by rw [g1r25_35_3])] <;> (first | assumption | with_reducible rfl | grind)) (fun a k z1 z2 z3 => by rw [f1r25_35_I a k (by omega)]) (fun a => by rw [f1r25_35_A a (by omega)]) (fun a => by rw [f1r25_35_L a (by omega)]))) ?_
                  rintro ⟨y, hrz37_38⟩ ⟨πhrz37_38, Thrz37_38, zhrz37_38, ⟨ey, g1rz37_38_0, g1rz37_38_1, g1rz37_38_2⟩ | ⟨ey, g0rz37_38_0⟩⟩
                  · dsimp only at *
                    subst ey
                    rw [show vI hr25_35 (v0 + 1) 1 = (vI h (v0 + 1) 1 + 1) from (by rw [g1r25_35_1]), show vI hr25_35 v0 4 = (vI h v0 4 - 1) from (by rw [g1r25_35_0]), show vI hr25_35 pg 3 = (vI h pg 3) from (by rw [f1r25_35_I pg 3 (by omega)])] at g1rz37_38_0
                    exact ⟨_, Thrz37_38, (fun a k na => by rw [zhrz37_38 a k (by omega)]), Or.inl ⟨rfl, (by show x_P1 (x_scr t n (vI h (v0 + 1) 1) (vI h v0 4) (vI h pg 3) lab use) (vI hrz37_38 pg 3); rw [x_sc_125 n2 cc34, if_neg (by assumption)]; exact g1rz37_38_0), (by show c_PRG hrz37_38 pg t n (x_sW t n B); rw [x_sW_c (B := B) (hB.1.1 ▸ cc34)]; exact g1rz37_38_1), g1rz37_38_2⟩⟩
                  · dsimp only at *
                    subst ey
                    rw [show vI hr25_35 (v0 + 1) 1 = (vI h (v0 + 1) 1 + 1) from (by rw [g1r25_35_1]), show vI hr25_35 v0 4 = (vI h v0 4 - 1) from (by rw [g1r25_35_0]), show vI hr25_35 pg 3 = (vI h pg 3) from (by rw [f1r25_35_I pg 3 (by omega)])] at g0rz37_38_0
                    exact ⟨_, Thrz37_38, (fun a k na => by rw [zhrz37_38 a k (by omega)]), Or.inr ⟨rfl, (by show x_P0 (x_scr t n (vI h (v0 + 1) 1) (vI h v0 4) (vI h pg 3) lab use); rw [x_sc_125 n2 cc34, if_neg (by assumption)]; exact g0rz37_38_0)⟩⟩
                · intro hr25_35 Thr25_35 g0r25_35_0
                  try dsimp only
                  refine qi_if (fun _ => ?_) (fun cc39 => absurd (by decide) cc39)
                  refine qi_some ?_
                  exact ⟨_, Thr25_35, (fun a k na => by rfl), Or.inr ⟨rfl, (by show x_P0 (x_scr t n (vI h (v0 + 1) 1) (vI h v0 4) (vI h pg 3) lab use); exact x_P0n ((x_sc_125 n2 cc34).trans (if_pos (by assumption))))⟩⟩
              · skip
                refine l_gO ?_
                refine jj_Pa_beginCommand (v0 := v0) (pg := pg) T kv0 kpg ppg D ?_ ?_
                · intro πhr15_40 hr15_40 Thr15_40 zhr15_40 zhr15_40_0 g1r15_40_0 g1r15_40_1 g1r15_40_2 g1r15_40_3 g1r15_40_4 g1r15_40_5 g1r15_40_6 g1r15_40_7 g1r15_40_8 g1r15_40_9 g1r15_40_10 g1r15_40_11 f1r15_40_I f1r15_40_A f1r15_40_L
                  have pp41 : πhr15_40 v0 5 = some pg := by rw [zhr15_40 v0 5 (by omega)]; exact ppg
                  have pp42 : πhr15_40 (v0 + 1) 0 = some (pg + 1) := by rw [zhr15_40 (v0 + 1) 0 (by omega)]; exact ptx
                  have pp43 : πhr15_40 (v0 + 2) 0 = some (v0 + 1) := by rw [zhr15_40 (v0 + 2) 0 (by omega)]; exact ppc
                  try dsimp only
                  have N40 := g1r15_40_7
                  have L40 := g1r15_40_9
                  have CL40 := g1r15_40_11
                  refine qi_if (fun cc44 => absurd cc44 (by decide)) (fun _ => ?_)
                  refine l_gO ?_
                  refine jj_Pa_readAddresses (v0 := v0) (pg := pg) (cm := (pg + (9 + 6 * Int32.toNatClampNeg (vI h pg 3)))) (t := t) (n := n) Thr15_40 kv0 kpg pp41 g1r15_40_10 zhr15_40_0 pp42 pp43 (by show ∀ j, 0 ≤ j → j < n → vA hr15_40 ((pg + 1) + 1) j = t j; rw [show vA hr15_40 ((pg + 1) + 1) = vA h ((pg + 1) + 1) from (by rw [f1r15_40_A ((pg + 1) + 1) (by omega)])] <;> ((try simp only [Int32.add_zero, x_am1, x_s11, x_s12, x_s21, x_s13, x_s22, x_s31]) <;> (first | assumption | with_reducible rfl | grind))) (by show vI hr15_40 (pg + 1) 1 = n; rw [show vI hr15_40 (pg + 1) 1 = (vI h (pg + 1) 1) from (by rw [f1r15_40_I (pg + 1) 1 (by omega)])] <;> (first | assumption | with_reducible rfl | grind)) n1 tp D (by show pg + 9 ≤ (pg + (9 + 6 * Int32.toNatClampNeg (vI h pg 3))) ∧ (pg + (9 + 6 * Int32.toNatClampNeg (vI h pg 3))) + 6 ≤ pg + 249; omega) (by show 0 ≤ vI hr15_40 (v0 + 1) 1; rw [show vI hr15_40 (v0 + 1) 1 = (vI h (v0 + 1) 1) from (by rw [f1r15_40_I (v0 + 1) 1 (by omega)])] <;> (first | assumption | with_reducible rfl | grind)) (by show vI hr15_40 (pg + (9 + 6 * Int32.toNatClampNeg (vI h pg 3))) 5 = 0; rw [show vI hr15_40 (pg + (9 + 6 * Int32.toNatClampNeg (vI h pg 3))) 5 = 0 from (by rw [g1r15_40_1])] <;> (first | assumption | with_reducible rfl | grind)) (by show vI hr15_40 (pg + (9 + 6 * Int32.toNatClampNeg (vI h pg 3))) 6 = 0; rw [show vI hr15_40 (pg + (9 + 6 * Int32.toNatClampNeg (vI h pg 3))) 6 = 0 from (by rw [g1r15_40_2])] <;> (first | assumption | with_reducible rfl | grind)) kt (by show 0 ≤ vI hr15_40 (pg + 3) 4 ∧ vI hr15_40 (pg + 3) 4 ≤ vI hr15_40 (v0 + 1) 1; rw [show vI hr15_40 (pg + 3) 4 = (vI h (pg + 3) 4) from (by rw [f1r15_40_I (pg + 3) 4 (by omega)]), show vI hr15_40 (v0 + 1) 1 = (vI h (v0 + 1) 1) from (by rw [f1r15_40_I (v0 + 1) 1 (by omega)])] <;> (exact sb)) ?_ ?_
                  · intro πhr18_45 hr18_45 Thr18_45 zhr18_45 g1r18_45_0 g1r18_45_1 g1r18_45_2 g1r18_45_3 g1r18_45_4 f1r18_45_I f1r18_45_A f1r18_45_L
                    have pp46 : πhr18_45 v0 5 = some pg := by rw [zhr18_45 v0 5 (by omega)]; exact pp41
                    have pp47 : πhr18_45 (v0 + 1) 0 = some (pg + 1) := by rw [zhr18_45 (v0 + 1) 0 (by omega)]; exact pp42
                    have pp48 : πhr18_45 (v0 + 2) 0 = some (v0 + 1) := by rw [zhr18_45 (v0 + 2) 0 (by omega)]; exact pp43
                    have pp49 : πhr18_45 v0 6 = some (pg + (9 + 6 * Int32.toNatClampNeg (vI h pg 3))) := by rw [zhr18_45 v0 6 (by omega)]; exact zhr15_40_0
                    try dsimp only
                    rw [show vI hr15_40 (v0 + 1) 1 = (vI h (v0 + 1) 1) from (by rw [f1r15_40_I (v0 + 1) 1 (by omega)])] at g1r18_45_0
                    rw [show vI hr15_40 (v0 + 1) 1 = (vI h (v0 + 1) 1) from (by rw [f1r15_40_I (v0 + 1) 1 (by omega)])] at g1r18_45_1
                    rw [show vI hr15_40 (pg + 3) 4 = (vI h (pg + 3) 4) from (by rw [f1r15_40_I (pg + 3) 4 (by omega)])] at g1r18_45_2
                    rw [show vI hr15_40 (pg + 3) 4 = (vI h (pg + 3) 4) from (by rw [f1r15_40_I (pg + 3) 4 (by omega)])] at g1r18_45_3
                    obtain ⟨r9, E1, E2, E3, E4⟩ := g1r18_45_0
                    refine qi_if (fun cc50 => absurd cc50 (by decide)) (fun _ => ?_)
                    refine l_gO ?_
                    refine jj_Pa_readAction (v0 := v0) (pg := pg) (cm := (pg + (9 + 6 * Int32.toNatClampNeg (vI h pg 3)))) (t := t) (n := n) (ad := (if r9.2 = 1 ∨ (x_neg t n r9.1).2 = 1 then 1 else 0)) Thr18_45 kv0 kpg pp46 g1r15_40_10 pp49 pp47 pp48 (by show ∀ j, 0 ≤ j → j < n → vA hr18_45 ((pg + 1) + 1) j = t j; rw [show vA hr18_45 ((pg + 1) + 1) = vA h ((pg + 1) + 1) from (by rw [f1r18_45_A ((pg + 1) + 1) (by omega), f1r15_40_A ((pg + 1) + 1) (by omega)])] <;> ((try simp only [Int32.add_zero, x_am1, x_s11, x_s12, x_s21, x_s13, x_s22, x_s31]) <;> (first | assumption | with_reducible rfl | grind))) (by show vI hr18_45 (pg + 1) 1 = n; rw [show vI hr18_45 (pg + 1) 1 = (vI h (pg + 1) 1) from (by rw [f1r18_45_I (pg + 1) 1 (by omega), f1r15_40_I (pg + 1) 1 (by omega)])] <;> (first | assumption | with_reducible rfl | grind)) n1 tp D (by show pg + 9 ≤ (pg + (9 + 6 * Int32.toNatClampNeg (vI h pg 3))) ∧ (pg + (9 + 6 * Int32.toNatClampNeg (vI h pg 3))) + 6 ≤ pg + 249; omega) (by show 0 ≤ vI hr18_45 (v0 + 1) 1; rw [E2]; exact x_nega n2 a0 (x_lk_at (t := t) cc10).1 E1) (by show (if r9.2 = 1 ∨ (x_neg t n r9.1).2 = 1 then 1 else 0) = 1 ↔ (0 < vI hr18_45 (pg + (9 + 6 * Int32.toNatClampNeg (vI h pg 3))) 5 ∨ ¬ vI hr18_45 (pg + (9 + 6 * Int32.toNatClampNeg (vI h pg 3))) 6 = 0); exact x_had E3 E4) (by show vI hr18_45 (pg + (9 + 6 * Int32.toNatClampNeg (vI h pg 3))) 8 = -1; rw [show vI hr18_45 (pg + (9 + 6 * Int32.toNatClampNeg (vI h pg 3))) 8 = (-1) from (by rw [f1r18_45_I (pg + (9 + 6 * Int32.toNatClampNeg (vI h pg 3))) 8 (by omega), g1r15_40_3])] <;> (first | assumption | with_reducible rfl | grind)) (by show vI hr18_45 (pg + (9 + 6 * Int32.toNatClampNeg (vI h pg 3))) 12 = 0; rw [show vI hr18_45 (pg + (9 + 6 * Int32.toNatClampNeg (vI h pg 3))) 12 = 0 from (by rw [f1r18_45_I (pg + (9 + 6 * Int32.toNatClampNeg (vI h pg 3))) 12 (by omega), g1r15_40_4])] <;> (first | assumption | with_reducible rfl | grind)) (by show vI hr18_45 (pg + (9 + 6 * Int32.toNatClampNeg (vI h pg 3))) 13 = 0; rw [show vI hr18_45 (pg + (9 + 6 * Int32.toNatClampNeg (vI h pg 3))) 13 = 0 from (by rw [f1r18_45_I (pg + (9 + 6 * Int32.toNatClampNeg (vI h pg 3))) 13 (by omega), g1r15_40_5])] <;> (first | assumption | with_reducible rfl | grind)) (by show vI hr18_45 (pg + (9 + 6 * Int32.toNatClampNeg (vI h pg 3))) 14 = 0; rw [show vI hr18_45 (pg + (9 + 6 * Int32.toNatClampNeg (vI h pg 3))) 14 = 0 from (by rw [f1r18_45_I (pg + (9 + 6 * Int32.toNatClampNeg (vI h pg 3))) 14 (by omega), g1r15_40_6])] <;> (first | assumption | with_reducible rfl | grind)) kt g1r18_45_4 ?_ ?_
                    · intro πhr21_51 hr21_51 Thr21_51 zhr21_51 g1r21_51_0 g1r21_51_1 g1r21_51_2 g1r21_51_3 g1r21_51_4 g1r21_51_5 g1r21_51_6 g1r21_51_7 g1r21_51_8 f1r21_51_I f1r21_51_A f1r21_51_L
                      have pp52 : πhr21_51 v0 5 = some pg := by rw [zhr21_51 v0 5 (by omega)]; exact pp46
                      have pp53 : πhr21_51 (v0 + 1) 0 = some (pg + 1) := by rw [zhr21_51 (v0 + 1) 0 (by omega)]; exact pp47
                      have pp54 : πhr21_51 (v0 + 2) 0 = some (v0 + 1) := by rw [zhr21_51 (v0 + 2) 0 (by omega)]; exact pp48
                      have pp55 : πhr21_51 v0 6 = some (pg + (9 + 6 * Int32.toNatClampNeg (vI h pg 3))) := by rw [zhr21_51 v0 6 (by omega)]; exact pp49
                      try dsimp only
                      rw [show vI hr18_45 v0 4 = (vI h v0 4) from (by rw [f1r18_45_I v0 4 (by omega), f1r15_40_I v0 4 (by omega)]), show vI hr18_45 pg 3 = (vI h pg 3 + 1) from (by rw [f1r18_45_I pg 3 (by omega), g1r15_40_0]), show vA hr18_45 (v0 + 4) = vA h (v0 + 4) from (by rw [f1r18_45_A (v0 + 4) (by omega), f1r15_40_A (v0 + 4) (by omega)])] at g1r21_51_0
                      rw [show vI hr18_45 v0 4 = (vI h v0 4) from (by rw [f1r18_45_I v0 4 (by omega), f1r15_40_I v0 4 (by omega)]), show vI hr18_45 pg 3 = (vI h pg 3 + 1) from (by rw [f1r18_45_I pg 3 (by omega), g1r15_40_0])] at g1r21_51_5
                      try simp only [Int32.add_zero, x_am1, x_s11, x_s12, x_s21, x_s13, x_s22, x_s31] at g1r21_51_5
                      rw [show vI hr18_45 v0 4 = (vI h v0 4) from (by rw [f1r18_45_I v0 4 (by omega), f1r15_40_I v0 4 (by omega)]), show vA hr18_45 (v0 + 3) = vA h (v0 + 3) from (by rw [f1r18_45_A (v0 + 3) (by omega), f1r15_40_A (v0 + 3) (by omega)])] at g1r21_51_6
                      rw [show vI hr18_45 pg 3 = (vI h pg 3 + 1) from (by rw [f1r18_45_I pg 3 (by omega), g1r15_40_0]), show vA hr18_45 (v0 + 4) = vA h (v0 + 4) from (by rw [f1r18_45_A (v0 + 4) (by omega), f1r15_40_A (v0 + 4) (by omega)])] at g1r21_51_7
                      rw [show vA hr18_45 (v0 + 4) = vA h (v0 + 4) from (by rw [f1r18_45_A (v0 + 4) (by omega), f1r15_40_A (v0 + 4) (by omega)])] at g1r21_51_8
                      rw [E2] at g1r21_51_0
                      obtain ⟨lb9, us9, v9, S1, S2, S3, S4, S5⟩ := x_step1 (use := use) n2 ⟨cc10, cc19, cc24, cc29, cc34⟩ N40 E1 g1r21_51_0 R1 (x_s1n s0.1 L40)
                      refine qi_if (fun cc56 => absurd cc56 (by decide)) (fun _ => ?_)
                      refine qi_bs ?_
                      refine qi_mono (ih _ lb9 us9 (x_scm t n B) v0 (v3 + 1) hr21_51 Thr21_51 kv0 kpg pp52 pp53 pp54 (by show ∀ j, 0 ≤ j → j < n → vA hr21_51 ((pg + 1) + 1) j = t j; rw [show vA hr21_51 ((pg + 1) + 1) = vA h ((pg + 1) + 1) from (by rw [f1r21_51_A ((pg + 1) + 1) (by omega), f1r18_45_A ((pg + 1) + 1) (by omega), f1r15_40_A ((pg + 1) + 1) (by omega)])] <;> ((try simp only [Int32.add_zero, x_am1, x_s11, x_s12, x_s21, x_s13, x_s22, x_s31]) <;> (first | assumption | with_reducible rfl | grind))) (by show vI hr21_51 (pg + 1) 1 = n; rw [show vI hr21_51 (pg + 1) 1 = (vI h (pg + 1) 1) from (by rw [f1r21_51_I (pg + 1) 1 (by omega), f1r18_45_I (pg + 1) 1 (by omega), f1r15_40_I (pg + 1) 1 (by omega)])] <;> (first | assumption | with_reducible rfl | grind)) n1 tp D (by show 0 ≤ vI hr21_51 (v0 + 1) 1; exact x_0le a0 S5) (by show x_R1 x_abc (vA hr21_51 (v0 + 4)) lb9; exact S2) (by show x_R2 hr21_51 pg (vI hr21_51 pg 3) us9; rw [show vI hr21_51 pg 3 = (vI h pg 3 + 1) from (by rw [f1r21_51_I pg 3 (by omega), f1r18_45_I pg 3 (by omega), g1r15_40_0])] <;> (rw [S3]; exact x_R2_add R2 L40 (fun a k ka kb kk => by rcases kk with kk | kk <;> subst kk; (rw [f1r21_51_I a 3 (by omega), f1r18_45_I a 3 (by omega), f1r15_40_I a 3 (by omega)]); (rw [f1r21_51_I a 8 (by omega), f1r18_45_I a 8 (by omega), f1r15_40_I a 8 (by omega)])) rfl rfl S4)) (by show 0 ≤ vI hr21_51 pg 3 ∧ vI hr21_51 pg 3 ≤ 40; rw [show vI hr21_51 pg 3 = (vI h pg 3 + 1) from (by rw [f1r21_51_I pg 3 (by omega), f1r18_45_I pg 3 (by omega), g1r15_40_0])] <;> (exact x_s1 s0.1 L40)) (by show (v3 + 1) ≤ vI hr21_51 (v0 + 1) 1; exact x_stp hs (by assumption) S5) kt g1r21_51_4 (c_SC_cm hB D L40 E1 g1r21_51_0 (by show vI hr21_51 pg 3 = vI h pg 3 + 1; rw [show vI hr21_51 pg 3 = (vI h pg 3 + 1) from (by rw [f1r21_51_I pg 3 (by omega), f1r18_45_I pg 3 (by omega), g1r15_40_0])] <;> (first | assumption | with_reducible rfl | grind)) (c_FB_t (c_FB_t (c_FB_a (by show vA hr15_40 ((pg + 3) + 1) = vA h ((pg + 3) + 1); rw [show vA hr15_40 ((pg + 3) + 1) = vA h ((pg + 3) + 1) from (by rw [f1r15_40_A ((pg + 3) + 1) (by omega)])] <;> ((try simp only [Int32.add_zero, x_am1, x_s11, x_s12, x_s21, x_s13, x_s22, x_s31]) <;> (first | assumption | with_reducible rfl | grind))) (by show vA hr15_40 ((pg + 3) + 2) = vA h ((pg + 3) + 2); rw [show vA hr15_40 ((pg + 3) + 2) = vA h ((pg + 3) + 2) from (by rw [f1r15_40_A ((pg + 3) + 2) (by omega)])] <;> ((try simp only [Int32.add_zero, x_am1, x_s11, x_s12, x_s21, x_s13, x_s22, x_s31]) <;> (first | assumption | with_reducible rfl | grind))) (by show vL hr15_40 ((pg + 3) + 3) = vL h ((pg + 3) + 3); rw [show vL hr15_40 ((pg + 3) + 3) = vL h ((pg + 3) + 3) from (by rw [f1r15_40_L ((pg + 3) + 3) (by omega)])] <;> ((try simp only [Int32.add_zero, x_am1, x_s11, x_s12, x_s21, x_s13, x_s22, x_s31]) <;> (first | assumption | with_reducible rfl | grind))) (by show vL hr15_40 ((pg + 3) + 4) = vL h ((pg + 3) + 4); rw [show vL hr15_40 ((pg + 3) + 4) = vL h ((pg + 3) + 4) from (by rw [f1r15_40_L ((pg + 3) + 4) (by omega)])] <;> ((try simp only [Int32.add_zero, x_am1, x_s11, x_s12, x_s21, x_s13, x_s22, x_s31]) <;> (first | assumption | with_reducible rfl | grind)))) g1r18_45_2 (Int32.le_refl _)) (c_FB_t (c_FB_a (by show vA hr18_45 ((pg + 3) + 1) = vA hr18_45 ((pg + 3) + 1); (try simp only [Int32.add_zero, x_am1, x_s11, x_s12, x_s21, x_s13, x_s22, x_s31]) <;> (first | assumption | with_reducible rfl | grind)) (by show vA hr18_45 ((pg + 3) + 2) = vA hr18_45 ((pg + 3) + 2); (try simp only [Int32.add_zero, x_am1, x_s11, x_s12, x_s21, x_s13, x_s22, x_s31]) <;> (first | assumption | with_reducible rfl | grind)) (by show vL hr18_45 ((pg + 3) + 3) = vL hr18_45 ((pg + 3) + 3); (try simp only [Int32.add_zero, x_am1, x_s11, x_s12, x_s21, x_s13, x_s22, x_s31]) <;> (first | assumption | with_reducible rfl | grind)) (by show vL hr18_45 ((pg + 3) + 4) = vL hr18_45 ((pg + 3) + 4); (try simp only [Int32.add_zero, x_am1, x_s11, x_s12, x_s21, x_s13, x_s22, x_s31]) <;> (first | assumption | with_reducible rfl | grind))) g1r21_51_2 (Int32.le_refl _)) g1r18_45_3) (Int32.le_trans g1r18_45_3 g1r21_51_3) (fun a k z1 z2 => by unfold y_cm at z2; rw [f1r21_51_I a k (by omega), f1r18_45_I a k (by omega), f1r15_40_I a k (by omega)]) ⟨c_ADS_f g1r18_45_1 g1r21_51_2 g1r21_51_3 (by show vI hr21_51 (pg + (9 + 6 * Int32.toNatClampNeg (vI h pg 3))) 5 = vI hr18_45 (pg + (9 + 6 * Int32.toNatClampNeg (vI h pg 3))) 5; rw [show vI hr21_51 (pg + (9 + 6 * Int32.toNatClampNeg (vI h pg 3))) 5 = (vI hr18_45 (pg + (9 + 6 * Int32.toNatClampNeg (vI h pg 3))) 5) from (by rw [f1r21_51_I (pg + (9 + 6 * Int32.toNatClampNeg (vI h pg 3))) 5 (by omega)])] <;> (first | assumption | with_reducible rfl | grind)) (fun d k d1 d4 k7 => by unfold y_cm; rw [f1r21_51_I ((pg + (9 + 6 * Int32.toNatClampNeg (vI h pg 3))) + d) k (by omega)]), (by rw [(x_pq_e E1).2]; exact (by show vI hr21_51 (pg + (9 + 6 * Int32.toNatClampNeg (vI h pg 3))) 6 = (x_neg t n r9.1).2; rw [show vI hr21_51 (pg + (9 + 6 * Int32.toNatClampNeg (vI h pg 3))) 6 = (vI hr18_45 (pg + (9 + 6 * Int32.toNatClampNeg (vI h pg 3))) 6) from (by rw [f1r21_51_I (pg + (9 + 6 * Int32.toNatClampNeg (vI h pg 3))) 6 (by omega)])] <;> (exact E3))), (by rw [(x_pq_e E1).1, ← E2]; exact g1r21_51_1)⟩ (E2 ▸ g1r21_51_5) g1r21_51_6 (E2 ▸ g1r21_51_7) (E2 ▸ g1r21_51_8))) ?_
                      rintro ⟨y, hrz57_58⟩ ⟨πhrz57_58, Thrz57_58, zhrz57_58, ⟨ey, g1rz57_58_0, g1rz57_58_1, g1rz57_58_2⟩ | ⟨ey, g0rz57_58_0⟩⟩
                      · dsimp only at *
                        subst ey
                        rw [show vI hr21_51 pg 3 = (vI h pg 3 + 1) from (by rw [f1r21_51_I pg 3 (by omega), f1r18_45_I pg 3 (by omega), g1r15_40_0])] at g1rz57_58_0
                        exact ⟨_, Thrz57_58, (fun a k na => by rw [zhrz57_58 a k (by omega), zhr21_51 a k (by omega), zhr18_45 a k (by omega), zhr15_40 a k (by omega)]), Or.inl ⟨rfl, (by show x_P1 (x_scr t n (vI h (v0 + 1) 1) (vI h v0 4) (vI h pg 3) lab use) (vI hrz57_58 pg 3); rw [S1]; exact g1rz57_58_0), (by show c_PRG hrz57_58 pg t n (x_sW t n B); rw [x_sW_m (B := B) (hB.1.1 ▸ ⟨cc10, cc19, cc24, cc29, cc34⟩)]; exact g1rz57_58_1), g1rz57_58_2⟩⟩
                      · dsimp only at *
                        subst ey
                        rw [show vI hr21_51 pg 3 = (vI h pg 3 + 1) from (by rw [f1r21_51_I pg 3 (by omega), f1r18_45_I pg 3 (by omega), g1r15_40_0])] at g0rz57_58_0
                        exact ⟨_, Thrz57_58, (fun a k na => by rw [zhrz57_58 a k (by omega), zhr21_51 a k (by omega), zhr18_45 a k (by omega), zhr15_40 a k (by omega)]), Or.inr ⟨rfl, (by show x_P0 (x_scr t n (vI h (v0 + 1) 1) (vI h v0 4) (vI h pg 3) lab use); rw [S1]; exact g0rz57_58_0)⟩⟩
                    · intro πhr21_51 hr21_51 Thr21_51 zhr21_51 g0r21_51_0
                      have pp59 : πhr21_51 v0 5 = some pg := by rw [zhr21_51 v0 5 (by omega)]; exact pp46
                      have pp60 : πhr21_51 (v0 + 1) 0 = some (pg + 1) := by rw [zhr21_51 (v0 + 1) 0 (by omega)]; exact pp47
                      have pp61 : πhr21_51 (v0 + 2) 0 = some (v0 + 1) := by rw [zhr21_51 (v0 + 2) 0 (by omega)]; exact pp48
                      have pp62 : πhr21_51 v0 6 = some (pg + (9 + 6 * Int32.toNatClampNeg (vI h pg 3))) := by rw [zhr21_51 v0 6 (by omega)]; exact pp49
                      try dsimp only
                      rw [show vI hr18_45 v0 4 = (vI h v0 4) from (by rw [f1r18_45_I v0 4 (by omega), f1r15_40_I v0 4 (by omega)]), show vA hr18_45 (v0 + 4) = vA h (v0 + 4) from (by rw [f1r18_45_A (v0 + 4) (by omega), f1r15_40_A (v0 + 4) (by omega)])] at g0r21_51_0
                      rw [E2] at g0r21_51_0
                      have S0 := x_step0 (use := use) n2 ⟨cc10, cc19, cc24, cc29, cc34⟩ N40 E1 g0r21_51_0 R1
                      refine qi_if (fun _ => ?_) (fun cc63 => absurd (by decide) cc63)
                      refine qi_some ?_
                      exact ⟨_, Thr21_51, (fun a k na => by rw [zhr21_51 a k (by omega), zhr18_45 a k (by omega), zhr15_40 a k (by omega)]), Or.inr ⟨rfl, (by show x_P0 (x_scr t n (vI h (v0 + 1) 1) (vI h v0 4) (vI h pg 3) lab use); exact x_P0n S0)⟩⟩
                  · intro πhr18_45 hr18_45 Thr18_45 zhr18_45 g0r18_45_0
                    have pp64 : πhr18_45 v0 5 = some pg := by rw [zhr18_45 v0 5 (by omega)]; exact pp41
                    have pp65 : πhr18_45 (v0 + 1) 0 = some (pg + 1) := by rw [zhr18_45 (v0 + 1) 0 (by omega)]; exact pp42
                    have pp66 : πhr18_45 (v0 + 2) 0 = some (v0 + 1) := by rw [zhr18_45 (v0 + 2) 0 (by omega)]; exact pp43
                    have pp67 : πhr18_45 v0 6 = some (pg + (9 + 6 * Int32.toNatClampNeg (vI h pg 3))) := by rw [zhr18_45 v0 6 (by omega)]; exact zhr15_40_0
                    try dsimp only
                    rw [show vI hr15_40 (v0 + 1) 1 = (vI h (v0 + 1) 1) from (by rw [f1r15_40_I (v0 + 1) 1 (by omega)])] at g0r18_45_0
                    refine qi_if (fun _ => ?_) (fun cc68 => absurd (by decide) cc68)
                    refine qi_some ?_
                    exact ⟨_, Thr18_45, (fun a k na => by rw [zhr18_45 a k (by omega), zhr15_40 a k (by omega)]), Or.inr ⟨rfl, (by show x_P0 (x_scr t n (vI h (v0 + 1) 1) (vI h v0 4) (vI h pg 3) lab use); exact x_P0n (x_sc_n n2 ⟨cc10, cc19, cc24, cc29, cc34⟩ (x_cm0 g0r18_45_0)))⟩⟩
                · intro πhr15_40 hr15_40 Thr15_40 zhr15_40 g0r15_40_0
                  have pp69 : πhr15_40 v0 5 = some pg := by rw [zhr15_40 v0 5 (by omega)]; exact ppg
                  have pp70 : πhr15_40 (v0 + 1) 0 = some (pg + 1) := by rw [zhr15_40 (v0 + 1) 0 (by omega)]; exact ptx
                  have pp71 : πhr15_40 (v0 + 2) 0 = some (v0 + 1) := by rw [zhr15_40 (v0 + 2) 0 (by omega)]; exact ppc
                  try dsimp only
                  refine qi_if (fun _ => ?_) (fun cc72 => absurd (by decide) cc72)
                  refine qi_some ?_
                  exact ⟨_, Thr15_40, (fun a k na => by rw [zhr15_40 a k (by omega)]), Or.inr ⟨rfl, (by show x_P0 (x_scr t n (vI h (v0 + 1) 1) (vI h v0 4) (vI h pg 3) lab use); exact x_P0n (x_sc_40 n2 ⟨cc10, cc19, cc24, cc29, cc34⟩ (by assumption)))⟩⟩
theorem jj_Pa_read_8 {L : q_L} {π : Nat → Nat → Option Nat} {N : Nat} {pg : Nat} {t : Int32 → Int32} {n : Int32} {lab : Int32 → Int32} {use : Int32 → Int32} {B : x_SS} {m9 : Nat} {h : z_H} {v0 : Nat} {v3 : Int32} {β : Type} {f : Int32 × z_H → Option β} {Q : β → Prop} (T : x_U L π h) (kv0 : qκ L v0 = 7) (kpg : qκ L pg = 10) (ppg : π v0 5 = some pg) (ptx : π (v0 + 1) 0 = some (pg + 1)) (ppc : π (v0 + 2) 0 = some (v0 + 1)) (ht : ∀ j, 0 ≤ j → j < n → vA h ((pg + 1) + 1) j = t j) (hn : vI h (pg + 1) 1 = n) (n1 : n ≤ 240) (tp : ∀ j, t j ≠ -1) (D : v0 + 5 ≤ pg) (a0 : 0 ≤ vI h (v0 + 1) 1) (R1 : x_R1 x_abc (vA h (v0 + 4)) lab) (R2 : x_R2 h pg (vI h pg 3) use) (s0 : 0 ≤ vI h pg 3 ∧ vI h pg 3 ≤ 40) (hs : v3 ≤ vI h (v0 + 1) 1) (kt : ∀ j, x_kc (t j)) (sb : 0 ≤ vI h (pg + 3) 4 ∧ vI h (pg + 3) 4 ≤ vI h (v0 + 1) 1) (hB : c_SC h v0 pg t n B) (H1 : ∀ π1 h', x_U L π1 h' → (∀ a k, ¬ ((a = v0 ∧ k = 6) ∨ (a = (v0 + 2) ∧ k = 1) ∨ (a = (v0 + 2) ∧ k = 2)) → π1 a k = π a k) → (x_P1 (x_scr t n (vI h (v0 + 1) 1) (vI h v0 4) (vI h pg 3) lab use) (vI h' pg 3)) → (c_PRG h' pg t n (x_sW t n B)) → (c_TX h' pg t n) → qi (f (1, h')) Q) (H0 : ∀ π1 h', x_U L π1 h' → (∀ a k, ¬ ((a = v0 ∧ k = 6) ∨ (a = (v0 + 2) ∧ k = 1) ∨ (a = (v0 + 2) ∧ k = 2)) → π1 a k = π a k) → (x_P0 (x_scr t n (vI h (v0 + 1) 1) (vI h v0 4) (vI h pg 3) lab use)) → qi (f (0, h')) Q) : qi (z_b (f_Pa_read_8 N m9 v0 v3 h) f) Q := by
  refine qi_b (ii_Pa_read_8 m9 π lab use B v0 v3 h  T kv0 kpg ppg ptx ppc ht hn n1 tp D a0 R1 R2 s0 hs kt sb hB) ?_
  rintro ⟨y, hz⟩ ⟨π1, Tz, q0, ⟨ey, g0, g1, g2⟩ | ⟨ey, g0⟩⟩
  · dsimp only at *; subst ey; exact H1 π1 hz Tz q0 g0 g1 g2
  · dsimp only at *; subst ey; exact H0 π1 hz Tz q0 g0
