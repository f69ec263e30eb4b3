set_option maxHeartbeats 2000000 in
theorem ii_Pa_readFlags_2 {L : q_L} {π : Nat → Nat → Option Nat} {N : Nat} {pg : Nat} {cm : Nat} {t : Int32 → Int32} {n : Int32} : ∀ (m9 : Nat) (v0 : Nat) (v1 : Int32) (h : z_H), x_U L π h → qκ L v0 = 7 → (qκ L pg = 10) → (π v0 5 = some pg) → (qκ L cm = 2) → (π v0 6 = some cm) → (π (v0 + 1) 0 = some (pg + 1)) → (∀ j, 0 ≤ j → j < n → vA h ((pg + 1) + 1) j = t j) → (vI h (pg + 1) 1 = n) → (n ≤ 240) → (∀ j, t j ≠ -1) → (v0 + 5 ≤ pg) → (pg + 9 ≤ cm ∧ cm + 6 ≤ pg + 249) → (0 ≤ vI h (v0 + 1) 1) → (v1 = x_cn (vI h cm 12) (vI h cm 13) (vI h cm 14)) → qi (f_Pa_readFlags_2 N m9 v0 v1 h) (fun r => x_U L π r.2 ∧ r.1 = 1 ∧ (vI r.2 (v0 + 1) 1 = x_fl t n (vI h (v0 + 1) 1) (vI h cm 12) (vI h cm 13) (vI h cm 14)) ∧ (c_FL r.2 cm (x_fW t n (vI h (v0 + 1) 1) (vI h cm 12) (vI h cm 13) (vI h cm 14))) ∧ (∀ a k, ¬ ((a = cm ∧ k = 12) ∨ (a = (v0 + 1) ∧ k = 1) ∨ (a = cm ∧ k = 13) ∨ (a = cm ∧ k = 14)) → vI r.2 a k = vI h a k) ∧ (∀ a, ¬ (a < a) → vA r.2 a = vA h a) ∧ (∀ a, ¬ (a < a) → vL r.2 a = vL h a)) := by
  intro m9
  induction m9 with
  | zero => intro v0 v1 h T kv0 kpg ppg kcm pcm ptx ht hn n1 tp D hc a0 hc3 r e; rw [f_Pa_readFlags_2] at e; cases e
  | succ m9 ih =>
    intro v0 v1 h T kv0 kpg ppg kcm pcm ptx ht hn n1 tp D hc a0 hc3
    rw [f_Pa_readFlags_2]
    have n2 : n ≤ 1000 := Int32.le_trans n1 (by decide)
    have ktx := e_Prog_0 T kpg
    refine qi_if (fun cc1 => ?_) (fun cc1 => ?_)
    · skip
      refine qi_some ?_
      exact ⟨T, ⟨rfl, (by show vI h (v0 + 1) 1 = x_fl t n (vI h (v0 + 1) 1) (vI h cm 12) (vI h cm 13) (vI h cm 14); first | exact (x_fl_no (by (first | grind (ematch := 0) | grind)) (by (first | grind (ematch := 0) | grind)) (by (first | grind (ematch := 0) | grind))).symm | exact (x_fl_all hc3 (by assumption)).symm), (by show c_FL h cm (x_fW t n (vI h (v0 + 1) 1) (vI h cm 12) (vI h cm 13) (vI h cm 14)); first | (rw [x_fW_n (by (first | grind (ematch := 0) | grind)) (by (first | grind (ematch := 0) | grind)) (by (first | grind (ematch := 0) | grind))]; exact ⟨rfl, rfl, rfl⟩) | (rw [x_fW_a hc3 (by assumption)]; exact ⟨rfl, rfl, rfl⟩)), (fun a k na => by rfl), (fun a na => by rfl), (fun a na => by rfl)⟩⟩
    · skip
      refine l_gR T (d_Pa_0 T kv0) ?_
      have kk2 := e_Pa_0 T kv0
      refine l_gO ?_
      refine jj_Cur_look (v0 := (v0 + 1)) (v1 := (0 : Int32)) (tx := (pg + 1)) (t := t) (n := n) (e := (x_lk t n (vI h (v0 + 1) 1))) T kk2 ktx ptx ht hn (by simp only [Int32.add_zero, x_am1, x_s11, x_s12, x_s21, x_s13, x_s22, x_s31]) ?_
      try dsimp only
      refine qi_bs ?_
      refine qi_if (fun cc4 => ?_) (fun cc4 => ?_)
      · skip
        refine l_gR T pcm ?_
        refine l_gI (e := (vI h cm 12)) rfl ?_
        refine qi_if (fun cc5 => ?_) (fun cc5 => ?_)
        · skip
          refine l_gR T pcm ?_
          refine o_sI T kcm (by decide) rfl ?_
          intro h11_6 Th11_6 ih11_6 ah11_6 lh11_6
          unfold f_Pa_readFlags_108
          refine l_gR Th11_6 (d_Pa_0 Th11_6 kv0) ?_
          refine l_gI (e := (vI h (v0 + 1) 1)) (by rw [ih11_6 (v0 + 1) 1, if_neg (fun z => absurd z.2 (by decide))]) ?_
          refine o_sI Th11_6 kk2 (by decide) rfl ?_
          intro h3i7_8 Th3i7_8 ih3i7_8 ah3i7_8 lh3i7_8
          refine qi_bs ?_
          refine qi_mono (ih v0 (v1 + 1) h3i7_8 Th3i7_8 kv0 kpg ppg kcm pcm ptx (by show ∀ j, 0 ≤ j → j < n → vA h3i7_8 ((pg + 1) + 1) j = t j; rw [show vA h3i7_8 ((pg + 1) + 1) = vA h ((pg + 1) + 1) from (by rw [ah3i7_8 ((pg + 1) + 1), ah11_6 ((pg + 1) + 1)])] <;> ((try simp only [Int32.add_zero, x_am1, x_s11, x_s12, x_s21, x_s13, x_s22, x_s31]) <;> (first | assumption | with_reducible rfl | grind))) (by show vI h3i7_8 (pg + 1) 1 = n; rw [show vI h3i7_8 (pg + 1) 1 = (vI h (pg + 1) 1) from (by rw [ih3i7_8 (pg + 1) 1, if_neg (fun z => absurd z.1 (by omega)), ih11_6 (pg + 1) 1, if_neg (fun z => absurd z.2 (by decide))])] <;> (first | assumption | with_reducible rfl | grind)) n1 tp D hc (by show 0 ≤ vI h3i7_8 (v0 + 1) 1; rw [show vI h3i7_8 (v0 + 1) 1 = ((vI h (v0 + 1) 1) + 1) from (by rw [ih3i7_8 (v0 + 1) 1, if_pos ⟨rfl, rfl⟩])] <;> (exact x_0le a0 (x_lp1 n2 (t := t) (by first | exact x_ne (by assumption) | exact x_ne2 (by assumption))))) (by show (v1 + 1) = x_cn (vI h3i7_8 cm 12) (vI h3i7_8 cm 13) (vI h3i7_8 cm 14); rw [show vI h3i7_8 cm 12 = 1 from (by rw [ih3i7_8 cm 12, if_neg (fun z => absurd z.2 (by decide)), ih11_6 cm 12, if_pos ⟨rfl, rfl⟩]), show vI h3i7_8 cm 13 = (vI h cm 13) from (by rw [ih3i7_8 cm 13, if_neg (fun z => absurd z.2 (by decide)), ih11_6 cm 13, if_neg (fun z => absurd z.2 (by decide))]), show vI h3i7_8 cm 14 = (vI h cm 14) from (by rw [ih3i7_8 cm 14, if_neg (fun z => absurd z.2 (by decide)), ih11_6 cm 14, if_neg (fun z => absurd z.2 (by decide))])] <;> (exact x_cng hc3 cc5))) ?_
          rintro ⟨y, hrz9_10⟩ ⟨Thrz9_10, ⟨ey, g1rz9_10_0, g1rz9_10_1, f1rz9_10_I, f1rz9_10_A, f1rz9_10_L⟩⟩
          · dsimp only at *
            subst ey
            rw [show vI h3i7_8 (v0 + 1) 1 = ((vI h (v0 + 1) 1) + 1) from (by rw [ih3i7_8 (v0 + 1) 1, if_pos ⟨rfl, rfl⟩]), show vI h3i7_8 cm 12 = 1 from (by rw [ih3i7_8 cm 12, if_neg (fun z => absurd z.2 (by decide)), ih11_6 cm 12, if_pos ⟨rfl, rfl⟩]), show vI h3i7_8 cm 13 = (vI h cm 13) from (by rw [ih3i7_8 cm 13, if_neg (fun z => absurd z.2 (by decide)), ih11_6 cm 13, if_neg (fun z => absurd z.2 (by decide))]), show vI h3i7_8 cm 14 = (vI h cm 14) from (by rw [ih3i7_8 cm 14, if_neg (fun z => absurd z.2 (by decide)), ih11_6 cm 14, if_neg (fun z => absurd z.2 (by decide))])] at g1rz9_10_0
            rw [show vI h3i7_8 (v0 + 1) 1 = ((vI h (v0 + 1) 1) + 1) from (by rw [ih3i7_8 (v0 + 1) 1, if_pos ⟨rfl, rfl⟩]), show vI h3i7_8 cm 12 = 1 from (by rw [ih3i7_8 cm 12, if_neg (fun z => absurd z.2 (by decide)), ih11_6 cm 12, if_pos ⟨rfl, rfl⟩]), show vI h3i7_8 cm 13 = (vI h cm 13) from (by rw [ih3i7_8 cm 13, if_neg (fun z => absurd z.2 (by decide)), ih11_6 cm 13, if_neg (fun z => absurd z.2 (by decide))]), show vI h3i7_8 cm 14 = (vI h cm 14) from (by rw [ih3i7_8 cm 14, if_neg (fun z => absurd z.2 (by decide)), ih11_6 cm 14, if_neg (fun z => absurd z.2 (by decide))])] at g1rz9_10_1
            exact ⟨Thrz9_10, ⟨rfl, (by show vI hrz9_10 (v0 + 1) 1 = x_fl t n (vI h (v0 + 1) 1) (vI h cm 12) (vI h cm 13) (vI h cm 14); rw [show vI hrz9_10 (v0 + 1) 1 = (x_fl t n ((vI h (v0 + 1) 1) + 1) 1 (vI h cm 13) (vI h cm 14)) from (by rw [g1rz9_10_0])] <;> (rw [cc5, x_fl_g n2 (by assumption)])), (by show c_FL hrz9_10 cm (x_fW t n (vI h (v0 + 1) 1) (vI h cm 12) (vI h cm 13) (vI h cm 14)); rw [x_fW_g (by assumption) cc5]; exact g1rz9_10_1), (fun a k na => by rw [f1rz9_10_I a k (fun z => na (z.elim (fun z => Or.inl z) (fun z => z.elim (fun z => Or.inr (Or.inl z)) (fun z => z.elim (fun z => Or.inr (Or.inr (Or.inl z))) (fun z => Or.inr (Or.inr (Or.inr (z)))))))), ih3i7_8 a k, if_neg (fun z => na (Or.inr (Or.inl z))), ih11_6 a k, if_neg (fun z => na (Or.inl z))]), (fun a na => by rw [f1rz9_10_A a (by omega), ah3i7_8 a, ah11_6 a]), (fun a na => by rw [f1rz9_10_L a (by omega), lh3i7_8 a, lh11_6 a])⟩⟩
        · skip
          unfold f_Pa_readFlags_43
          refine qi_if (fun cc12 => ?_) (fun cc12 => ?_)
          · skip
            refine l_gR T pcm ?_
            refine l_gI (e := (vI h cm 13)) rfl ?_
            refine qi_if (fun cc13 => ?_) (fun cc13 => ?_)
            · skip
              refine l_gR T pcm ?_
              refine o_sI T kcm (by decide) rfl ?_
              intro h6i11_14 Th6i11_14 ih6i11_14 ah6i11_14 lh6i11_14
              unfold f_Pa_readFlags_108
              refine l_gR Th6i11_14 (d_Pa_0 Th6i11_14 kv0) ?_
              refine l_gI (e := (vI h (v0 + 1) 1)) (by rw [ih6i11_14 (v0 + 1) 1, if_neg (fun z => absurd z.2 (by decide))]) ?_
              refine o_sI Th6i11_14 kk2 (by decide) rfl ?_
              intro h3i15_16 Th3i15_16 ih3i15_16 ah3i15_16 lh3i15_16
              refine qi_bs ?_
              refine qi_mono (ih v0 (v1 + 1) h3i15_16 Th3i15_16 kv0 kpg ppg kcm pcm ptx (by show ∀ j, 0 ≤ j → j < n → vA h3i15_16 ((pg + 1) + 1) j = t j; rw [show vA h3i15_16 ((pg + 1) + 1) = vA h ((pg + 1) + 1) from (by rw [ah3i15_16 ((pg + 1) + 1), ah6i11_14 ((pg + 1) + 1)])] <;> ((try simp only [Int32.add_zero, x_am1, x_s11, x_s12, x_s21, x_s13, x_s22, x_s31]) <;> (first | assumption | with_reducible rfl | grind))) (by show vI h3i15_16 (pg + 1) 1 = n; rw [show vI h3i15_16 (pg + 1) 1 = (vI h (pg + 1) 1) from (by rw [ih3i15_16 (pg + 1) 1, if_neg (fun z => absurd z.1 (by omega)), ih6i11_14 (pg + 1) 1, if_neg (fun z => absurd z.2 (by decide))])] <;> (first | assumption | with_reducible rfl | grind)) n1 tp D hc (by show 0 ≤ vI h3i15_16 (v0 + 1) 1; rw [show vI h3i15_16 (v0 + 1) 1 = ((vI h (v0 + 1) 1) + 1) from (by rw [ih3i15_16 (v0 + 1) 1, if_pos ⟨rfl, rfl⟩])] <;> (exact x_0le a0 (x_lp1 n2 (t := t) (by first | exact x_ne (by assumption) | exact x_ne2 (by assumption))))) (by show (v1 + 1) = x_cn (vI h3i15_16 cm 12) (vI h3i15_16 cm 13) (vI h3i15_16 cm 14); rw [show vI h3i15_16 cm 12 = (vI h cm 12) from (by rw [ih3i15_16 cm 12, if_neg (fun z => absurd z.2 (by decide)), ih6i11_14 cm 12, if_neg (fun z => absurd z.2 (by decide))]), show vI h3i15_16 cm 13 = 1 from (by rw [ih3i15_16 cm 13, if_neg (fun z => absurd z.2 (by decide)), ih6i11_14 cm 13, if_pos ⟨rfl, rfl⟩]), show vI h3i15_16 cm 14 = (vI h cm 14) from (by rw [ih3i15_16 cm 14, if_neg (fun z => absurd z.2 (by decide)), ih6i11_14 cm 14, if_neg (fun z => absurd z.2 (by decide))])] <;> (exact x_cnp hc3 cc13))) ?_
              rintro ⟨y, hrz17_18⟩ ⟨Thrz17_18, ⟨ey, g1rz17_18_0, g1rz17_18_1, f1rz17_18_I, f1rz17_18_A, f1rz17_18_L⟩⟩
              · dsimp only at *
                subst ey
                rw [show vI h3i15_16 (v0 + 1) 1 = ((vI h (v0 + 1) 1) + 1) from (by rw [ih3i15_16 (v0 + 1) 1, if_pos ⟨rfl, rfl⟩]), show vI h3i15_16 cm 12 = (vI h cm 12) from (by rw [ih3i15_16 cm 12, if_neg (fun z => absurd z.2 (by decide)), ih6i11_14 cm 12, if_neg (fun z => absurd z.2 (by decide))]), show vI h3i15_16 cm 13 = 1 from (by rw [ih3i15_16 cm 13, if_neg (fun z => absurd z.2 (by decide)), ih6i11_14 cm 13, if_pos ⟨rfl, rfl⟩]), show vI h3i15_16 cm 14 = (vI h cm 14) from (by rw [ih3i15_16 cm 14, if_neg (fun z => absurd z.2 (by decide)), ih6i11_14 cm 14, if_neg (fun z => absurd z.2 (by decide))])] at g1rz17_18_0
                rw [show vI h3i15_16 (v0 + 1) 1 = ((vI h (v0 + 1) 1) + 1) from (by rw [ih3i15_16 (v0 + 1) 1, if_pos ⟨rfl, rfl⟩]), show vI h3i15_16 cm 12 = (vI h cm 12) from (by rw [ih3i15_16 cm 12, if_neg (fun z => absurd z.2 (by decide)), ih6i11_14 cm 12, if_neg (fun z => absurd z.2 (by decide))]), show vI h3i15_16 cm 13 = 1 from (by rw [ih3i15_16 cm 13, if_neg (fun z => absurd z.2 (by decide)), ih6i11_14 cm 13, if_pos ⟨rfl, rfl⟩]), show vI h3i15_16 cm 14 = (vI h cm 14) from (by rw [ih3i15_16 cm 14, if_neg (fun z => absurd z.2 (by decide)), ih6i11_14 cm 14, if_neg (fun z => absurd z.2 (by decide))])] at g1rz17_18_1
                exact ⟨Thrz17_18, ⟨rfl, (by show vI hrz17_18 (v0 + 1) 1 = x_fl t n (vI h (v0 + 1) 1) (vI h cm 12) (vI h cm 13) (vI h cm 14); rw [show vI hrz17_18 (v0 + 1) 1 = (x_fl t n ((vI h (v0 + 1) 1) + 1) (vI h cm 12) 1 (vI h cm 14)) from (by rw [g1rz17_18_0])] <;> (rw [cc13, x_fl_p n2 (by assumption)])), (by show c_FL hrz17_18 cm (x_fW t n (vI h (v0 + 1) 1) (vI h cm 12) (vI h cm 13) (vI h cm 14)); rw [x_fW_p (by assumption) cc13]; exact g1rz17_18_1), (fun a k na => by rw [f1rz17_18_I a k (fun z => na (z.elim (fun z => Or.inl z) (fun z => z.elim (fun z => Or.inr (Or.inl z)) (fun z => z.elim (fun z => Or.inr (Or.inr (Or.inl z))) (fun z => Or.inr (Or.inr (Or.inr (z)))))))), ih3i15_16 a k, if_neg (fun z => na (Or.inr (Or.inl z))), ih6i11_14 a k, if_neg (fun z => na (Or.inr (Or.inr (Or.inl z))))]), (fun a na => by rw [f1rz17_18_A a (by omega), ah3i15_16 a, ah6i11_14 a]), (fun a na => by rw [f1rz17_18_L a (by omega), lh3i15_16 a, lh6i11_14 a])⟩⟩
            · skip
              unfold f_Pa_readFlags_70
              refine qi_if (fun cc20 => ?_) (fun cc20 => ?_)
              · skip
                refine qi_some ?_
                exact ⟨T, ⟨rfl, (by show vI h (v0 + 1) 1 = x_fl t n (vI h (v0 + 1) 1) (vI h cm 12) (vI h cm 13) (vI h cm 14); first | exact (x_fl_no (by (first | grind (ematch := 0) | grind)) (by (first | grind (ematch := 0) | grind)) (by (first | grind (ematch := 0) | grind))).symm | exact (x_fl_all hc3 (by assumption)).symm), (by show c_FL h cm (x_fW t n (vI h (v0 + 1) 1) (vI h cm 12) (vI h cm 13) (vI h cm 14)); first | (rw [x_fW_n (by (first | grind (ematch := 0) | grind)) (by (first | grind (ematch := 0) | grind)) (by (first | grind (ematch := 0) | grind))]; exact ⟨rfl, rfl, rfl⟩) | (rw [x_fW_a hc3 (by assumption)]; exact ⟨rfl, rfl, rfl⟩)), (fun a k na => by rfl), (fun a na => by rfl), (fun a na => by rfl)⟩⟩
              · skip
                refine qi_if (fun cc21 => ?_) (fun cc21 => ?_)
                · skip
                  refine qi_some ?_
                  exact ⟨T, ⟨rfl, (by show vI h (v0 + 1) 1 = x_fl t n (vI h (v0 + 1) 1) (vI h cm 12) (vI h cm 13) (vI h cm 14); first | exact (x_fl_no (by (first | grind (ematch := 0) | grind)) (by (first | grind (ematch := 0) | grind)) (by (first | grind (ematch := 0) | grind))).symm | exact (x_fl_all hc3 (by assumption)).symm), (by show c_FL h cm (x_fW t n (vI h (v0 + 1) 1) (vI h cm 12) (vI h cm 13) (vI h cm 14)); first | (rw [x_fW_n (by (first | grind (ematch := 0) | grind)) (by (first | grind (ematch := 0) | grind)) (by (first | grind (ematch := 0) | grind))]; exact ⟨rfl, rfl, rfl⟩) | (rw [x_fW_a hc3 (by assumption)]; exact ⟨rfl, rfl, rfl⟩)), (fun a k na => by rfl), (fun a na => by rfl), (fun a na => by rfl)⟩⟩
                · skip
                  refine l_gR T pcm ?_
                  refine l_gI (e := (vI h cm 14)) rfl ?_
                  refine qi_if (fun cc22 => ?_) (fun cc22 => ?_)
                  · skip
                    refine l_gR T pcm ?_
                    refine o_sI T kcm (by decide) rfl ?_
                    intro h7i19_23 Th7i19_23 ih7i19_23 ah7i19_23 lh7i19_23
                    unfold f_Pa_readFlags_108
                    refine l_gR Th7i19_23 (d_Pa_0 Th7i19_23 kv0) ?_
                    refine l_gI (e := (vI h (v0 + 1) 1)) (by rw [ih7i19_23 (v0 + 1) 1, if_neg (fun z => absurd z.2 (by decide))]) ?_
                    refine o_sI Th7i19_23 kk2 (by decide) rfl ?_
                    intro h3i24_25 Th3i24_25 ih3i24_25 ah3i24_25 lh3i24_25
                    refine qi_bs ?_
                    refine qi_mono (ih v0 (v1 + 1) h3i24_25 Th3i24_25 kv0 kpg ppg kcm pcm ptx (by show ∀ j, 0 ≤ j → j < n → vA h3i24_25 ((pg + 1) + 1) j = t j; rw [show vA h3i24_25 ((pg + 1) + 1) = vA h ((pg + 1) + 1) from (by rw [ah3i24_25 ((pg + 1) + 1), ah7i19_23 ((pg + 1) + 1)])] <;> ((try simp only [Int32.add_zero, x_am1, x_s11, x_s12, x_s21, x_s13, x_s22, x_s31]) <;> (first | assumption | with_reducible rfl | grind))) (by show vI h3i24_25 (pg + 1) 1 = n; rw [show vI h3i24_25 (pg + 1) 1 = (vI h (pg + 1) 1) from (by rw [ih3i24_25 (pg + 1) 1, if_neg (fun z => absurd z.1 (by omega)), ih7i19_23 (pg + 1) 1, if_neg (fun z => absurd z.2 (by decide))])] <;> (first | assumption | with_reducible rfl | grind)) n1 tp D hc (by show 0 ≤ vI h3i24_25 (v0 + 1) 1; rw [show vI h3i24_25 (v0 + 1) 1 = ((vI h (v0 + 1) 1) + 1) from (by rw [ih3i24_25 (v0 + 1) 1, if_pos ⟨rfl, rfl⟩])] <;> (exact x_0le a0 (x_lp1 n2 (t := t) (by first | exact x_ne (by assumption) | exact x_ne2 (by assumption))))) (by show (v1 + 1) = x_cn (vI h3i24_25 cm 12) (vI h3i24_25 cm 13) (vI h3i24_25 cm 14); rw [show vI h3i24_25 cm 12 = (vI h cm 12) from (by rw [ih3i24_25 cm 12, if_neg (fun z => absurd z.2 (by decide)), ih7i19_23 cm 12, if_neg (fun z => absurd z.2 (by decide))]), show vI h3i24_25 cm 13 = (vI h cm 13) from (by rw [ih3i24_25 cm 13, if_neg (fun z => absurd z.2 (by decide)), ih7i19_23 cm 13, if_neg (fun z => absurd z.2 (by decide))]), show vI h3i24_25 cm 14 = ((x_lk t n (vI h (v0 + 1) 1)) - 48) from (by rw [ih3i24_25 cm 14, if_neg (fun z => absurd z.2 (by decide)), ih7i19_23 cm 14, if_pos ⟨rfl, rfl⟩])] <;> (exact x_cnd hc3 cc22 (Int32.not_lt.mp (by assumption)) (Int32.not_lt.mp (by assumption))))) ?_
                    rintro ⟨y, hrz26_27⟩ ⟨Thrz26_27, ⟨ey, g1rz26_27_0, g1rz26_27_1, f1rz26_27_I, f1rz26_27_A, f1rz26_27_L⟩⟩
                    · dsimp only at *
                      subst ey
                      rw [show vI h3i24_25 (v0 + 1) 1 = ((vI h (v0 + 1) 1) + 1) from (by rw [ih3i24_25 (v0 + 1) 1, if_pos ⟨rfl, rfl⟩]), show vI h3i24_25 cm 12 = (vI h cm 12) from (by rw [ih3i24_25 cm 12, if_neg (fun z => absurd z.2 (by decide)), ih7i19_23 cm 12, if_neg (fun z => absurd z.2 (by decide))]), show vI h3i24_25 cm 13 = (vI h cm 13) from (by rw [ih3i24_25 cm 13, if_neg (fun z => absurd z.2 (by decide)), ih7i19_23 cm 13, if_neg (fun z => absurd z.2 (by decide))]), show vI h3i24_25 cm 14 = ((x_lk t n (vI h (v0 + 1) 1)) - 48) from (by rw [ih3i24_25 cm 14, if_neg (fun z => absurd z.2 (by decide)), ih7i19_23 cm 14, if_pos ⟨rfl, rfl⟩])] at g1rz26_27_0
                      rw [show vI h3i24_25 (v0 + 1) 1 = ((vI h (v0 + 1) 1) + 1) from (by rw [ih3i24_25 (v0 + 1) 1, if_pos ⟨rfl, rfl⟩]), show vI h3i24_25 cm 12 = (vI h cm 12) from (by rw [ih3i24_25 cm 12, if_neg (fun z => absurd z.2 (by decide)), ih7i19_23 cm 12, if_neg (fun z => absurd z.2 (by decide))]), show vI h3i24_25 cm 13 = (vI h cm 13) from (by rw [ih3i24_25 cm 13, if_neg (fun z => absurd z.2 (by decide)), ih7i19_23 cm 13, if_neg (fun z => absurd z.2 (by decide))]), show vI h3i24_25 cm 14 = ((x_lk t n (vI h (v0 + 1) 1)) - 48) from (by rw [ih3i24_25 cm 14, if_neg (fun z => absurd z.2 (by decide)), ih7i19_23 cm 14, if_pos ⟨rfl, rfl⟩])] at g1rz26_27_1
                      exact ⟨Thrz26_27, ⟨rfl, (by show vI hrz26_27 (v0 + 1) 1 = x_fl t n (vI h (v0 + 1) 1) (vI h cm 12) (vI h cm 13) (vI h cm 14); rw [show vI hrz26_27 (v0 + 1) 1 = (x_fl t n ((vI h (v0 + 1) 1) + 1) (vI h cm 12) (vI h cm 13) ((x_lk t n (vI h (v0 + 1) 1)) - 48)) from (by rw [g1rz26_27_0])] <;> (rw [cc22, x_fl_d n2 ⟨Int32.not_lt.mp (by assumption), Int32.not_lt.mp (by assumption)⟩])), (by show c_FL hrz26_27 cm (x_fW t n (vI h (v0 + 1) 1) (vI h cm 12) (vI h cm 13) (vI h cm 14)); rw [x_fW_d (Int32.not_lt.mp (by assumption)) (Int32.not_lt.mp (by assumption)) cc22]; exact g1rz26_27_1), (fun a k na => by rw [f1rz26_27_I a k (fun z => na (z.elim (fun z => Or.inl z) (fun z => z.elim (fun z => Or.inr (Or.inl z)) (fun z => z.elim (fun z => Or.inr (Or.inr (Or.inl z))) (fun z => Or.inr (Or.inr (Or.inr (z)))))))), ih3i24_25 a k, if_neg (fun z => na (Or.inr (Or.inl z))), ih7i19_23 a k, if_neg (fun z => na (Or.inr (Or.inr (Or.inr (z)))))]), (fun a na => by rw [f1rz26_27_A a (by omega), ah3i24_25 a, ah7i19_23 a]), (fun a na => by rw [f1rz26_27_L a (by omega), lh3i24_25 a, lh7i19_23 a])⟩⟩
                  · skip
                    refine qi_some ?_
                    exact ⟨T, ⟨rfl, (by show vI h (v0 + 1) 1 = x_fl t n (vI h (v0 + 1) 1) (vI h cm 12) (vI h cm 13) (vI h cm 14); first | exact (x_fl_no (by (first | grind (ematch := 0) | grind)) (by (first | grind (ematch := 0) | grind)) (by (first | grind (ematch := 0) | grind))).symm | exact (x_fl_all hc3 (by assumption)).symm), (by show c_FL h cm (x_fW t n (vI h (v0 + 1) 1) (vI h cm 12) (vI h cm 13) (vI h cm 14)); first | (rw [x_fW_n (by (first | grind (ematch := 0) | grind)) (by (first | grind (ematch := 0) | grind)) (by (first | grind (ematch := 0) | grind))]; exact ⟨rfl, rfl, rfl⟩) | (rw [x_fW_a hc3 (by assumption)]; exact ⟨rfl, rfl, rfl⟩)), (fun a k na => by rfl), (fun a na => by rfl), (fun a na => by rfl)⟩⟩
          · skip
            unfold f_Pa_readFlags_70
            refine qi_if (fun cc29 => ?_) (fun cc29 => ?_)
            · skip
              refine qi_some ?_
              exact ⟨T, ⟨rfl, (by show vI h (v0 + 1) 1 = x_fl t n (vI h (v0 + 1) 1) (vI h cm 12) (vI h cm 13) (vI h cm 14); first | exact (x_fl_no (by (first | grind (ematch := 0) | grind)) (by (first | grind (ematch := 0) | grind)) (by (first | grind (ematch := 0) | grind))).symm | exact (x_fl_all hc3 (by assumption)).symm), (by show c_FL h cm (x_fW t n (vI h (v0 + 1) 1) (vI h cm 12) (vI h cm 13) (vI h cm 14)); first | (rw [x_fW_n (by (first | grind (ematch := 0) | grind)) (by (first | grind (ematch := 0) | grind)) (by (first | grind (ematch := 0) | grind))]; exact ⟨rfl, rfl, rfl⟩) | (rw [x_fW_a hc3 (by assumption)]; exact ⟨rfl, rfl, rfl⟩)), (fun a k na => by rfl), (fun a na => by rfl), (fun a na => by rfl)⟩⟩
            · skip
              refine qi_if (fun cc30 => ?_) (fun cc30 => ?_)
              · skip
                refine qi_some ?_
                exact ⟨T, ⟨rfl, (by show vI h (v0 + 1) 1 = x_fl t n (vI h (v0 + 1) 1) (vI h cm 12) (vI h cm 13) (vI h cm 14); first | exact (x_fl_no (by (first | grind (ematch := 0) | grind)) (by (first | grind (ematch := 0) | grind)) (by (first | grind (ematch := 0) | grind))).symm | exact (x_fl_all hc3 (by assumption)).symm), (by show c_FL h cm (x_fW t n (vI h (v0 + 1) 1) (vI h cm 12) (vI h cm 13) (vI h cm 14)); first | (rw [x_fW_n (by (first | grind (ematch := 0) | grind)) (by (first | grind (ematch := 0) | grind)) (by (first | grind (ematch := 0) | grind))]; exact ⟨rfl, rfl, rfl⟩) | (rw [x_fW_a hc3 (by assumption)]; exact ⟨rfl, rfl, rfl⟩)), (fun a k na => by rfl), (fun a na => by rfl), (fun a na => by rfl)⟩⟩
              · skip
                refine l_gR T pcm ?_
                refine l_gI (e := (vI h cm 14)) rfl ?_
                refine qi_if (fun cc31 => ?_) (fun cc31 => ?_)
                · skip
                  refine l_gR T pcm ?_
                  refine o_sI T kcm (by decide) rfl ?_
                  intro h7i28_32 Th7i28_32 ih7i28_32 ah7i28_32 lh7i28_32
                  unfold f_Pa_readFlags_108
                  refine l_gR Th7i28_32 (d_Pa_0 Th7i28_32 kv0) ?_
                  refine l_gI (e := (vI h (v0 + 1) 1)) (by rw [ih7i28_32 (v0 + 1) 1, if_neg (fun z => absurd z.2 (by decide))]) ?_
                  refine o_sI Th7i28_32 kk2 (by decide) rfl ?_
                  intro h3i33_34 Th3i33_34 ih3i33_34 ah3i33_34 lh3i33_34
                  refine qi_bs ?_
                  refine qi_mono (ih v0 (v1 + 1) h3i33_34 Th3i33_34 kv0 kpg ppg kcm pcm ptx (by show ∀ j, 0 ≤ j → j < n → vA h3i33_34 ((pg + 1) + 1) j = t j; rw [show vA h3i33_34 ((pg + 1) + 1) = vA h ((pg + 1) + 1) from (by rw [ah3i33_34 ((pg + 1) + 1), ah7i28_32 ((pg + 1) + 1)])] <;> ((try simp only [Int32.add_zero, x_am1, x_s11, x_s12, x_s21, x_s13, x_s22, x_s31]) <;> (first | assumption | with_reducible rfl | grind))) (by show vI h3i33_34 (pg + 1) 1 = n; rw [show vI h3i33_34 (pg + 1) 1 = (vI h (pg + 1) 1) from (by rw [ih3i33_34 (pg + 1) 1, if_neg (fun z => absurd z.1 (by omega)), ih7i28_32 (pg + 1) 1, if_neg (fun z => absurd z.2 (by decide))])] <;> (first | assumption | with_reducible rfl | grind)) n1 tp D hc (by show 0 ≤ vI h3i33_34 (v0 + 1) 1; rw [show vI h3i33_34 (v0 + 1) 1 = ((vI h (v0 + 1) 1) + 1) from (by rw [ih3i33_34 (v0 + 1) 1, if_pos ⟨rfl, rfl⟩])] <;> (exact x_0le a0 (x_lp1 n2 (t := t) (by first | exact x_ne (by assumption) | exact x_ne2 (by assumption))))) (by show (v1 + 1) = x_cn (vI h3i33_34 cm 12) (vI h3i33_34 cm 13) (vI h3i33_34 cm 14); rw [show vI h3i33_34 cm 12 = (vI h cm 12) from (by rw [ih3i33_34 cm 12, if_neg (fun z => absurd z.2 (by decide)), ih7i28_32 cm 12, if_neg (fun z => absurd z.2 (by decide))]), show vI h3i33_34 cm 13 = (vI h cm 13) from (by rw [ih3i33_34 cm 13, if_neg (fun z => absurd z.2 (by decide)), ih7i28_32 cm 13, if_neg (fun z => absurd z.2 (by decide))]), show vI h3i33_34 cm 14 = ((x_lk t n (vI h (v0 + 1) 1)) - 48) from (by rw [ih3i33_34 cm 14, if_neg (fun z => absurd z.2 (by decide)), ih7i28_32 cm 14, if_pos ⟨rfl, rfl⟩])] <;> (exact x_cnd hc3 cc31 (Int32.not_lt.mp (by assumption)) (Int32.not_lt.mp (by assumption))))) ?_
                  rintro ⟨y, hrz35_36⟩ ⟨Thrz35_36, ⟨ey, g1rz35_36_0, g1rz35_36_1, f1rz35_36_I, f1rz35_36_A, f1rz35_36_L⟩⟩
                  · dsimp only at *
                    subst ey
                    rw [show vI h3i33_34 (v0 + 1) 1 = ((vI h (v0 + 1) 1) + 1) from (by rw [ih3i33_34 (v0 + 1) 1, if_pos ⟨rfl, rfl⟩]), show vI h3i33_34 cm 12 = (vI h cm 12) from (by rw [ih3i33_34 cm 12, if_neg (fun z => absurd z.2 (by decide)), ih7i28_32 cm 12, if_neg (fun z => absurd z.2 (by decide))]), show vI h3i33_34 cm 13 = (vI h cm 13) from (by rw [ih3i33_34 cm 13, if_neg (fun z => absurd z.2 (by decide)), ih7i28_32 cm 13, if_neg (fun z => absurd z.2 (by decide))]), show vI h3i33_34 cm 14 = ((x_lk t n (vI h (v0 + 1) 1)) - 48) from (by rw [ih3i33_34 cm 14, if_neg (fun z => absurd z.2 (by decide)), ih7i28_32 cm 14, if_pos ⟨rfl, rfl⟩])] at g1rz35_36_0
                    rw [show vI h3i33_34 (v0 + 1) 1 = ((vI h (v0 + 1) 1) + 1) from (by rw [ih3i33_34 (v0 + 1) 1, if_pos ⟨rfl, rfl⟩]), show vI h3i33_34 cm 12 = (vI h cm 12) from (by rw [ih3i33_34 cm 12, if_neg (fun z => absurd z.2 (by decide)), ih7i28_32 cm 12, if_neg (fun z => absurd z.2 (by decide))]), show vI h3i33_34 cm 13 = (vI h cm 13) from (by rw [ih3i33_34 cm 13, if_neg (fun z => absurd z.2 (by decide)), ih7i28_32 cm 13, if_neg (fun z => absurd z.2 (by decide))]), show vI h3i33_34 cm 14 = ((x_lk t n (vI h (v0 + 1) 1)) - 48) from (by rw [ih3i33_34 cm 14, if_neg (fun z => absurd z.2 (by decide)), ih7i28_32 cm 14, if_pos ⟨rfl, rfl⟩])] at g1rz35_36_1
                    exact ⟨Thrz35_36, ⟨rfl, (by show vI hrz35_36 (v0 + 1) 1 = x_fl t n (vI h (v0 + 1) 1) (vI h cm 12) (vI h cm 13) (vI h cm 14); rw [show vI hrz35_36 (v0 + 1) 1 = (x_fl t n ((vI h (v0 + 1) 1) + 1) (vI h cm 12) (vI h cm 13) ((x_lk t n (vI h (v0 + 1) 1)) - 48)) from (by rw [g1rz35_36_0])] <;> (rw [cc31, x_fl_d n2 ⟨Int32.not_lt.mp (by assumption), Int32.not_lt.mp (by assumption)⟩])), (by show c_FL hrz35_36 cm (x_fW t n (vI h (v0 + 1) 1) (vI h cm 12) (vI h cm 13) (vI h cm 14)); rw [x_fW_d (Int32.not_lt.mp (by assumption)) (Int32.not_lt.mp (by assumption)) cc31]; exact g1rz35_36_1), (fun a k na => by rw [f1rz35_36_I a k (fun z => na (z.elim (fun z => Or.inl z) (fun z => z.elim (fun z => Or.inr (Or.inl z)) (fun z => z.elim (fun z => Or.inr (Or.inr (Or.inl z))) (fun z => Or.inr (Or.inr (Or.inr (z)))))))), ih3i33_34 a k, if_neg (fun z => na (Or.inr (Or.inl z))), ih7i28_32 a k, if_neg (fun z => na (Or.inr (Or.inr (Or.inr (z)))))]), (fun a na => by rw [f1rz35_36_A a (by omega), ah3i33_34 a, ah7i28_32 a]), (fun a na => by rw [f1rz35_36_L a (by omega), lh3i33_34 a, lh7i28_32 a])⟩⟩
                · skip
                  refine qi_some ?_
                  exact ⟨T, ⟨rfl, (by show vI h (v0 + 1) 1 = x_fl t n (vI h (v0 + 1) 1) (vI h cm 12) (vI h cm 13) (vI h cm 14); first | exact (x_fl_no (by (first | grind (ematch := 0) | grind)) (by (first | grind (ematch := 0) | grind)) (by (first | grind (ematch := 0) | grind))).symm | exact (x_fl_all hc3 (by assumption)).symm), (by show c_FL h cm (x_fW t n (vI h (v0 + 1) 1) (vI h cm 12) (vI h cm 13) (vI h cm 14)); first | (rw [x_fW_n (by (first | grind (ematch := 0) | grind)) (by (first | grind (ematch := 0) | grind)) (by (first | grind (ematch := 0) | grind))]; exact ⟨rfl, rfl, rfl⟩) | (rw [x_fW_a hc3 (by assumption)]; exact ⟨rfl, rfl, rfl⟩)), (fun a k na => by rfl), (fun a na => by rfl), (fun a na => by rfl)⟩⟩
      · skip
        unfold f_Pa_readFlags_43
        refine qi_if (fun cc38 => ?_) (fun cc38 => ?_)
        · skip
          refine l_gR T pcm ?_
          refine l_gI (e := (vI h cm 13)) rfl ?_
          refine qi_if (fun cc39 => ?_) (fun cc39 => ?_)
          · skip
            refine l_gR T pcm ?_
            refine o_sI T kcm (by decide) rfl ?_
            intro h6i37_40 Th6i37_40 ih6i37_40 ah6i37_40 lh6i37_40
            unfold f_Pa_readFlags_108
            refine l_gR Th6i37_40 (d_Pa_0 Th6i37_40 kv0) ?_
            refine l_gI (e := (vI h (v0 + 1) 1)) (by rw [ih6i37_40 (v0 + 1) 1, if_neg (fun z => absurd z.2 (by decide))]) ?_
            refine o_sI Th6i37_40 kk2 (by decide) rfl ?_
            intro h3i41_42 Th3i41_42 ih3i41_42 ah3i41_42 lh3i41_42
            refine qi_bs ?_
            refine qi_mono (ih v0 (v1 + 1) h3i41_42 Th3i41_42 kv0 kpg ppg kcm pcm ptx (by show ∀ j, 0 ≤ j → j < n → vA h3i41_42 ((pg + 1) + 1) j = t j; rw [show vA h3i41_42 ((pg + 1) + 1) = vA h ((pg + 1) + 1) from (by rw [ah3i41_42 ((pg + 1) + 1), ah6i37_40 ((pg + 1) + 1)])] <;> ((try simp only [Int32.add_zero, x_am1, x_s11, x_s12, x_s21, x_s13, x_s22, x_s31]) <;> (first | assumption | with_reducible rfl | grind))) (by show vI h3i41_42 (pg + 1) 1 = n; rw [show vI h3i41_42 (pg + 1) 1 = (vI h (pg + 1) 1) from (by rw [ih3i41_42 (pg + 1) 1, if_neg (fun z => absurd z.1 (by omega)), ih6i37_40 (pg + 1) 1, if_neg (fun z => absurd z.2 (by decide))])] <;> (first | assumption | with_reducible rfl | grind)) n1 tp D hc (by show 0 ≤ vI h3i41_42 (v0 + 1) 1; rw [show vI h3i41_42 (v0 + 1) 1 = ((vI h (v0 + 1) 1) + 1) from (by rw [ih3i41_42 (v0 + 1) 1, if_pos ⟨rfl, rfl⟩])] <;> (exact x_0le a0 (x_lp1 n2 (t := t) (by first | exact x_ne (by assumption) | exact x_ne2 (by assumption))))) (by show (v1 + 1) = x_cn (vI h3i41_42 cm 12) (vI h3i41_42 cm 13) (vI h3i41_42 cm 14); rw [show vI h3i41_42 cm 12 = (vI h cm 12) from (by rw [ih3i41_42 cm 12, if_neg (fun z => absurd z.2 (by decide)), ih6i37_40 cm 12, if_neg (fun z => absurd z.2 (by decide))]), show vI h3i41_42 cm 13 = 1 from (by rw [ih3i41_42 cm 13, if_neg (fun z => absurd z.2 (by decide)), ih6i37_40 cm 13, if_pos ⟨rfl, rfl⟩]), show vI h3i41_42 cm 14 = (vI h cm 14) from (by rw [ih3i41_42 cm 14, if_neg (fun z => absurd z.2 (by decide)), ih6i37_40 cm 14, if_neg (fun z => absurd z.2 (by decide))])] <;> (exact x_cnp hc3 cc39))) ?_
            rintro ⟨y, hrz43_44⟩ ⟨Thrz43_44, ⟨ey, g1rz43_44_0, g1rz43_44_1, f1rz43_44_I, f1rz43_44_A, f1rz43_44_L⟩⟩
            · dsimp only at *
              subst ey
              rw [show vI h3i41_42 (v0 + 1) 1 = ((vI h (v0 + 1) 1) + 1) from (by rw [ih3i41_42 (v0 + 1) 1, if_pos ⟨rfl, rfl⟩]), show vI h3i41_42 cm 12 = (vI h cm 12) from (by rw [ih3i41_42 cm 12, if_neg (fun z => absurd z.2 (by decide)), ih6i37_40 cm 12, if_neg (fun z => absurd z.2 (by decide))]), show vI h3i41_42 cm 13 = 1 from (by rw [ih3i41_42 cm 13, if_neg (fun z => absurd z.2 (by decide)), ih6i37_40 cm 13, if_pos ⟨rfl, rfl⟩]), show vI h3i41_42 cm 14 = (vI h cm 14) from (by rw [ih3i41_42 cm 14, if_neg (fun z => absurd z.2 (by decide)), ih6i37_40 cm 14, if_neg (fun z => absurd z.2 (by decide))])] at g1rz43_44_0
              rw [show vI h3i41_42 (v0 + 1) 1 = ((vI h (v0 + 1) 1) + 1) from (by rw [ih3i41_42 (v0 + 1) 1, if_pos ⟨rfl, rfl⟩]), show vI h3i41_42 cm 12 = (vI h cm 12) from (by rw [ih3i41_42 cm 12, if_neg (fun z => absurd z.2 (by decide)), ih6i37_40 cm 12, if_neg (fun z => absurd z.2 (by decide))]), show vI h3i41_42 cm 13 = 1 from (by rw [ih3i41_42 cm 13, if_neg (fun z => absurd z.2 (by decide)), ih6i37_40 cm 13, if_pos ⟨rfl, rfl⟩]), show vI h3i41_42 cm 14 = (vI h cm 14) from (by rw [ih3i41_42 cm 14, if_neg (fun z => absurd z.2 (by decide)), ih6i37_40 cm 14, if_neg (fun z => absurd z.2 (by decide))])] at g1rz43_44_1
              exact ⟨Thrz43_44, ⟨rfl, (by show vI hrz43_44 (v0 + 1) 1 = x_fl t n (vI h (v0 + 1) 1) (vI h cm 12) (vI h cm 13) (vI h cm 14); rw [show vI hrz43_44 (v0 + 1) 1 = (x_fl t n ((vI h (v0 + 1) 1) + 1) (vI h cm 12) 1 (vI h cm 14)) from (by rw [g1rz43_44_0])] <;> (rw [cc39, x_fl_p n2 (by assumption)])), (by show c_FL hrz43_44 cm (x_fW t n (vI h (v0 + 1) 1) (vI h cm 12) (vI h cm 13) (vI h cm 14)); rw [x_fW_p (by assumption) cc39]; exact g1rz43_44_1), (fun a k na => by rw [f1rz43_44_I a k (fun z => na (z.elim (fun z => Or.inl z) (fun z => z.elim (fun z => Or.inr (Or.inl z)) (fun z => z.elim (fun z => Or.inr (Or.inr (Or.inl z))) (fun z => Or.inr (Or.inr (Or.inr (z)))))))), ih3i41_42 a k, if_neg (fun z => na (Or.inr (Or.inl z))), ih6i37_40 a k, if_neg (fun z => na (Or.inr (Or.inr (Or.inl z))))]), (fun a na => by rw [f1rz43_44_A a (by omega), ah3i41_42 a, ah6i37_40 a]), (fun a na => by rw [f1rz43_44_L a (by omega), lh3i41_42 a, lh6i37_40 a])⟩⟩
          · skip
            unfold f_Pa_readFlags_70
            refine qi_if (fun cc46 => ?_) (fun cc46 => ?_)
            · skip
              refine qi_some ?_
              exact ⟨T, ⟨rfl, (by show vI h (v0 + 1) 1 = x_fl t n (vI h (v0 + 1) 1) (vI h cm 12) (vI h cm 13) (vI h cm 14); first | exact (x_fl_no (by (first | grind (ematch := 0) | grind)) (by (first | grind (ematch := 0) | grind)) (by (first | grind (ematch := 0) | grind))).symm | exact (x_fl_all hc3 (by assumption)).symm), (by show c_FL h cm (x_fW t n (vI h (v0 + 1) 1) (vI h cm 12) (vI h cm 13) (vI h cm 14)); first | (rw [x_fW_n (by (first | grind (ematch := 0) | grind)) (by (first | grind (ematch := 0) | grind)) (by (first | grind (ematch := 0) | grind))]; exact ⟨rfl, rfl, rfl⟩) | (rw [x_fW_a hc3 (by assumption)]; exact ⟨rfl, rfl, rfl⟩)), (fun a k na => by rfl), (fun a na => by rfl), (fun a na => by rfl)⟩⟩
            · skip
              refine qi_if (fun cc47 => ?_) (fun cc47 => ?_)
              · skip
                refine qi_some ?_
                exact ⟨T, ⟨rfl, (by show vI h (v0 + 1) 1 = x_fl t n (vI h (v0 + 1) 1) (vI h cm 12) (vI h cm 13) (vI h cm 14); first | exact (x_fl_no (by (first | grind (ematch := 0) | grind)) (by (first | grind (ematch := 0) | grind)) (by (first | grind (ematch := 0) | grind))).symm | exact (x_fl_all hc3 (by assumption)).symm), (by show c_FL h cm (x_fW t n (vI h (v0 + 1) 1) (vI h cm 12) (vI h cm 13) (vI h cm 14)); first | (rw [x_fW_n (by (first | grind (ematch := 0) | grind)) (by (first | grind (ematch := 0) | grind)) (by (first | grind (ematch := 0) | grind))]; exact ⟨rfl, rfl, rfl⟩) | (rw [x_fW_a hc3 (by assumption)]; exact ⟨rfl, rfl, rfl⟩)), (fun a k na => by rfl), (fun a na => by rfl), (fun a na => by rfl)⟩⟩
              · skip
                refine l_gR T pcm ?_
                refine l_gI (e := (vI h cm 14)) rfl ?_
                refine qi_if (fun cc48 => ?_) (fun cc48 => ?_)
                · skip
                  refine l_gR T pcm ?_
                  refine o_sI T kcm (by decide) rfl ?_
                  intro h7i45_49 Th7i45_49 ih7i45_49 ah7i45_49 lh7i45_49
                  unfold f_Pa_readFlags_108
                  refine l_gR Th7i45_49 (d_Pa_0 Th7i45_49 kv0) ?_
                  refine l_gI (e := (vI h (v0 + 1) 1)) (by rw [ih7i45_49 (v0 + 1) 1, if_neg (fun z => absurd z.2 (by decide))]) ?_
                  refine o_sI Th7i45_49 kk2 (by decide) rfl ?_
                  intro h3i50_51 Th3i50_51 ih3i50_51 ah3i50_51 lh3i50_51
                  refine qi_bs ?_
                  refine qi_mono (ih v0 (v1 + 1) h3i50_51 Th3i50_51 kv0 kpg ppg kcm pcm ptx (by show ∀ j, 0 ≤ j → j < n → vA h3i50_51 ((pg + 1) + 1) j = t j; rw [show vA h3i50_51 ((pg + 1) + 1) = vA h ((pg + 1) + 1) from (by rw [ah3i50_51 ((pg + 1) + 1), ah7i45_49 ((pg + 1) + 1)])] <;> ((try simp only [Int32.add_zero, x_am1, x_s11, x_s12, x_s21, x_s13, x_s22, x_s31]) <;> (first | assumption | with_reducible rfl | grind))) (by show vI h3i50_51 (pg + 1) 1 = n; rw [show vI h3i50_51 (pg + 1) 1 = (vI h (pg + 1) 1) from (by rw [ih3i50_51 (pg + 1) 1, if_neg (fun z => absurd z.1 (by omega)), ih7i45_49 (pg + 1) 1, if_neg (fun z => absurd z.2 (by decide))])] <;> (first | assumption | with_reducible rfl | grind)) n1 tp D hc (by show 0 ≤ vI h3i50_51 (v0 + 1) 1; rw [show vI h3i50_51 (v0 + 1) 1 = ((vI h (v0 + 1) 1) + 1) from (by rw [ih3i50_51 (v0 + 1) 1, if_pos ⟨rfl, rfl⟩])] <;> (exact x_0le a0 (x_lp1 n2 (t := t) (by first | exact x_ne (by assumption) | exact x_ne2 (by assumption))))) (by show (v1 + 1) = x_cn (vI h3i50_51 cm 12) (vI h3i50_51 cm 13) (vI h3i50_51 cm 14); rw [show vI h3i50_51 cm 12 = (vI h cm 12) from (by rw [ih3i50_51 cm 12, if_neg (fun z => absurd z.2 (by decide)), ih7i45_49 cm 12, if_neg (fun z => absurd z.2 (by decide))]), show vI h3i50_51 cm 13 = (vI h cm 13) from (by rw [ih3i50_51 cm 13, if_neg (fun z => absurd z.2 (by decide)), ih7i45_49 cm 13, if_neg (fun z => absurd z.2 (by decide))]), show vI h3i50_51 cm 14 = ((x_lk t n (vI h (v0 + 1) 1)) - 48) from (by rw [ih3i50_51 cm 14, if_neg (fun z => absurd z.2 (by decide)), ih7i45_49 cm 14, if_pos ⟨rfl, rfl⟩])] <;> (exact x_cnd hc3 cc48 (Int32.not_lt.mp (by assumption)) (Int32.not_lt.mp (by assumption))))) ?_
                  rintro ⟨y, hrz52_53⟩ ⟨Thrz52_53, ⟨ey, g1rz52_53_0, g1rz52_53_1, f1rz52_53_I, f1rz52_53_A, f1rz52_53_L⟩⟩
                  · dsimp only at *
                    subst ey
                    rw [show vI h3i50_51 (v0 + 1) 1 = ((vI h (v0 + 1) 1) + 1) from (by rw [ih3i50_51 (v0 + 1) 1, if_pos ⟨rfl, rfl⟩]), show vI h3i50_51 cm 12 = (vI h cm 12) from (by rw [ih3i50_51 cm 12, if_neg (fun z => absurd z.2 (by decide)), ih7i45_49 cm 12, if_neg (fun z => absurd z.2 (by decide))]), show vI h3i50_51 cm 13 = (vI h cm 13) from (by rw [ih3i50_51 cm 13, if_neg (fun z => absurd z.2 (by decide)), ih7i45_49 cm 13, if_neg (fun z => absurd z.2 (by decide))]), show vI h3i50_51 cm 14 = ((x_lk t n (vI h (v0 + 1) 1)) - 48) from (by rw [ih3i50_51 cm 14, if_neg (fun z => absurd z.2 (by decide)), ih7i45_49 cm 14, if_pos ⟨rfl, rfl⟩])] at g1rz52_53_0
                    rw [show vI h3i50_51 (v0 + 1) 1 = ((vI h (v0 + 1) 1) + 1) from (by rw [ih3i50_51 (v0 + 1) 1, if_pos ⟨rfl, rfl⟩]), show vI h3i50_51 cm 12 = (vI h cm 12) from (by rw [ih3i50_51 cm 12, if_neg (fun z => absurd z.2 (by decide)), ih7i45_49 cm 12, if_neg (fun z => absurd z.2 (by decide))]), show vI h3i50_51 cm 13 = (vI h cm 13) from (by rw [ih3i50_51 cm 13, if_neg (fun z => absurd z.2 (by decide)), ih7i45_49 cm 13, if_neg (fun z => absurd z.2 (by decide))]), show vI h3i50_51 cm 14 = ((x_lk t n (vI h (v0 + 1) 1)) - 48) from (by rw [ih3i50_51 cm 14, if_neg (fun z => absurd z.2 (by decide)), ih7i45_49 cm 14, if_pos ⟨rfl, rfl⟩])] at g1rz52_53_1
                    exact ⟨Thrz52_53, ⟨rfl, (by show vI hrz52_53 (v0 + 1) 1 = x_fl t n (vI h (v0 + 1) 1) (vI h cm 12) (vI h cm 13) (vI h cm 14); rw [show vI hrz52_53 (v0 + 1) 1 = (x_fl t n ((vI h (v0 + 1) 1) + 1) (vI h cm 12) (vI h cm 13) ((x_lk t n (vI h (v0 + 1) 1)) - 48)) from (by rw [g1rz52_53_0])] <;> (rw [cc48, x_fl_d n2 ⟨Int32.not_lt.mp (by assumption), Int32.not_lt.mp (by assumption)⟩])), (by show c_FL hrz52_53 cm (x_fW t n (vI h (v0 + 1) 1) (vI h cm 12) (vI h cm 13) (vI h cm 14)); rw [x_fW_d (Int32.not_lt.mp (by assumption)) (Int32.not_lt.mp (by assumption)) cc48]; exact g1rz52_53_1), (fun a k na => by rw [f1rz52_53_I a k (fun z => na (z.elim (fun z => Or.inl z) (fun z => z.elim (fun z => Or.inr (Or.inl z)) (fun z => z.elim (fun z => Or.inr (Or.inr (Or.inl z))) (fun z => Or.inr (Or.inr (Or.inr (z)))))))), ih3i50_51 a k, if_neg (fun z => na (Or.inr (Or.inl z))), ih7i45_49 a k, if_neg (fun z => na (Or.inr (Or.inr (Or.inr (z)))))]), (fun a na => by rw [f1rz52_53_A a (by omega), ah3i50_51 a, ah7i45_49 a]), (fun a na => by rw [f1rz52_53_L a (by omega), lh3i50_51 a, lh7i45_49 a])⟩⟩
                · skip
                  refine qi_some ?_
                  exact ⟨T, ⟨rfl, (by show vI h (v0 + 1) 1 = x_fl t n (vI h (v0 + 1) 1) (vI h cm 12) (vI h cm 13) (vI h cm 14); first | exact (x_fl_no (by (first | grind (ematch := 0) | grind)) (by (first | grind (ematch := 0) | grind)) (by (first | grind (ematch := 0) | grind))).symm | exact (x_fl_all hc3 (by assumption)).symm), (by show c_FL h cm (x_fW t n (vI h (v0 + 1) 1) (vI h cm 12) (vI h cm 13) (vI h cm 14)); first | (rw [x_fW_n (by (first | grind (ematch := 0) | grind)) (by (first | grind (ematch := 0) | grind)) (by (first | grind (ematch := 0) | grind))]; exact ⟨rfl, rfl, rfl⟩) | (rw [x_fW_a hc3 (by assumption)]; exact ⟨rfl, rfl, rfl⟩)), (fun a k na => by rfl), (fun a na => by rfl), (fun a na => by rfl)⟩⟩
        · skip
          unfold f_Pa_readFlags_70
          refine qi_if (fun cc55 => ?_) (fun cc55 => ?_)
          · skip
            refine qi_some ?_
            exact ⟨T, ⟨rfl, (by show vI h (v0 + 1) 1 = x_fl t n (vI h (v0 + 1) 1) (vI h cm 12) (vI h cm 13) (vI h cm 14); first | exact (x_fl_no (by (first | grind (ematch := 0) | grind)) (by (first | grind (ematch := 0) | grind)) (by (first | grind (ematch := 0) | grind))).symm | exact (x_fl_all hc3 (by assumption)).symm), (by show c_FL h cm (x_fW t n (vI h (v0 + 1) 1) (vI h cm 12) (vI h cm 13) (vI h cm 14)); first | (rw [x_fW_n (by (first | grind (ematch := 0) | grind)) (by (first | grind (ematch := 0) | grind)) (by (first | grind (ematch := 0) | grind))]; exact ⟨rfl, rfl, rfl⟩) | (rw [x_fW_a hc3 (by assumption)]; exact ⟨rfl, rfl, rfl⟩)), (fun a k na => by rfl), (fun a na => by rfl), (fun a na => by rfl)⟩⟩
          · skip
            refine qi_if (fun cc56 => ?_) (fun cc56 => ?_)
            · skip
              refine qi_some ?_
              exact ⟨T, ⟨rfl, (by show vI h (v0 + 1) 1 = x_fl t n (vI h (v0 + 1) 1) (vI h cm 12) (vI h cm 13) (vI h cm 14); first | exact (x_fl_no (by (first | grind (ematch := 0) | grind)) (by (first | grind (ematch := 0) | grind)) (by (first | grind (ematch := 0) | grind))).symm | exact (x_fl_all hc3 (by assumption)).symm), (by show c_FL h cm (x_fW t n (vI h (v0 + 1) 1) (vI h cm 12) (vI h cm 13) (vI h cm 14)); first | (rw [x_fW_n (by (first | grind (ematch := 0) | grind)) (by (first | grind (ematch := 0) | grind)) (by (first | grind (ematch := 0) | grind))]; exact ⟨rfl, rfl, rfl⟩) | (rw [x_fW_a hc3 (by assumption)]; exact ⟨rfl, rfl, rfl⟩)), (fun a k na => by rfl), (fun a na => by rfl), (fun a na => by rfl)⟩⟩
            · skip
              refine l_gR T pcm ?_
              refine l_gI (e := (vI h cm 14)) rfl ?_
              refine qi_if (fun cc57 => ?_) (fun cc57 => ?_)
              · skip
                refine l_gR T pcm ?_
                refine o_sI T kcm (by decide) rfl ?_
                intro h7i54_58 Th7i54_58 ih7i54_58 ah7i54_58 lh7i54_58
                unfold f_Pa_readFlags_108
                refine l_gR Th7i54_58 (d_Pa_0 Th7i54_58 kv0) ?_
                refine l_gI (e := (vI h (v0 + 1) 1)) (by rw [ih7i54_58 (v0 + 1) 1, if_neg (fun z => absurd z.2 (by decide))]) ?_
                refine o_sI Th7i54_58 kk2 (by decide) rfl ?_
                intro h3i59_60 Th3i59_60 ih3i59_60 ah3i59_60 lh3i59_60
                refine qi_bs ?_
                refine qi_mono (ih v0 (v1 + 1) h3i59_60 Th3i59_60 kv0 kpg ppg kcm pcm ptx (by show ∀ j, 0 ≤ j → j < n → vA h3i59_60 ((pg + 1) + 1) j = t j; rw [show vA h3i59_60 ((pg + 1) + 1) = vA h ((pg + 1) + 1) from (by rw [ah3i59_60 ((pg + 1) + 1), ah7i54_58 ((pg + 1) + 1)])] <;> ((try simp only [Int32.add_zero, x_am1, x_s11, x_s12, x_s21, x_s13, x_s22, x_s31]) <;> (first | assumption | with_reducible rfl | grind))) (by show vI h3i59_60 (pg + 1) 1 = n; rw [show vI h3i59_60 (pg + 1) 1 = (vI h (pg + 1) 1) from (by rw [ih3i59_60 (pg + 1) 1, if_neg (fun z => absurd z.1 (by omega)), ih7i54_58 (pg + 1) 1, if_neg (fun z => absurd z.2 (by decide))])] <;> (first | assumption | with_reducible rfl | grind)) n1 tp D hc (by show 0 ≤ vI h3i59_60 (v0 + 1) 1; rw [show vI h3i59_60 (v0 + 1) 1 = ((vI h (v0 + 1) 1) + 1) from (by rw [ih3i59_60 (v0 + 1) 1, if_pos ⟨rfl, rfl⟩])] <;> (exact x_0le a0 (x_lp1 n2 (t := t) (by first | exact x_ne (by assumption) | exact x_ne2 (by assumption))))) (by show (v1 + 1) = x_cn (vI h3i59_60 cm 12) (vI h3i59_60 cm 13) (vI h3i59_60 cm 14); rw [show vI h3i59_60 cm 12 = (vI h cm 12) from (by rw [ih3i59_60 cm 12, if_neg (fun z => absurd z.2 (by decide)), ih7i54_58 cm 12, if_neg (fun z => absurd z.2 (by decide))]), show vI h3i59_60 cm 13 = (vI h cm 13) from (by rw [ih3i59_60 cm 13, if_neg (fun z => absurd z.2 (by decide)), ih7i54_58 cm 13, if_neg (fun z => absurd z.2 (by decide))]), show vI h3i59_60 cm 14 = ((x_lk t n (vI h (v0 + 1) 1)) - 48) from (by rw [ih3i59_60 cm 14, if_neg (fun z => absurd z.2 (by decide)), ih7i54_58 cm 14, if_pos ⟨rfl, rfl⟩])] <;> (exact x_cnd hc3 cc57 (Int32.not_lt.mp (by assumption)) (Int32.not_lt.mp (by assumption))))) ?_
                rintro ⟨y, hrz61_62⟩ ⟨Thrz61_62, ⟨ey, g1rz61_62_0, g1rz61_62_1, f1rz61_62_I, f1rz61_62_A, f1rz61_62_L⟩⟩
                · dsimp only at *
                  subst ey
                  rw [show vI h3i59_60 (v0 + 1) 1 = ((vI h (v0 + 1) 1) + 1) from (by rw [ih3i59_60 (v0 + 1) 1, if_pos ⟨rfl, rfl⟩]), show vI h3i59_60 cm 12 = (vI h cm 12) from (by rw [ih3i59_60 cm 12, if_neg (fun z => absurd z.2 (by decide)), ih7i54_58 cm 12, if_neg (fun z => absurd z.2 (by decide))]), show vI h3i59_60 cm 13 = (vI h cm 13) from (by rw [ih3i59_60 cm 13, if_neg (fun z => absurd z.2 (by decide)), ih7i54_58 cm 13, if_neg (fun z => absurd z.2 (by decide))]), show vI h3i59_60 cm 14 = ((x_lk t n (vI h (v0 + 1) 1)) - 48) from (by rw [ih3i59_60 cm 14, if_neg (fun z => absurd z.2 (by decide)), ih7i54_58 cm 14, if_pos ⟨rfl, rfl⟩])] at g1rz61_62_0
                  rw [show vI h3i59_60 (v0 + 1) 1 = ((vI h (v0 + 1) 1) + 1) from (by rw [ih3i59_60 (v0 + 1) 1, if_pos ⟨rfl, rfl⟩]), show vI h3i59_60 cm 12 = (vI h cm 12) from (by rw [ih3i59_60 cm 12, if_neg (fun z => absurd z.2 (by decide)), ih7i54_58 cm 12, if_neg (fun z => absurd z.2 (by decide))]), show vI h3i59_60 cm 13 = (vI h cm 13) from (by rw [ih3i59_60 cm 13, if_neg (fun z => absurd z.2 (by decide)), ih7i54_58 cm 13, if_neg (fun z => absurd z.2 (by decide))]), show vI h3i59_60 cm 14 = ((x_lk t n (vI h (v0 + 1) 1)) - 48) from (by rw [ih3i59_60 cm 14, if_neg (fun z => absurd z.2 (by decide)), ih7i54_58 cm 14, if_pos ⟨rfl, rfl⟩])] at g1rz61_62_1
                  exact ⟨Thrz61_62, ⟨rfl, (by show vI hrz61_62 (v0 + 1) 1 = x_fl t n (vI h (v0 + 1) 1) (vI h cm 12) (vI h cm 13) (vI h cm 14); rw [show vI hrz61_62 (v0 + 1) 1 = (x_fl t n ((vI h (v0 + 1) 1) + 1) (vI h cm 12) (vI h cm 13) ((x_lk t n (vI h (v0 + 1) 1)) - 48)) from (by rw [g1rz61_62_0])] <;> (rw [cc57, x_fl_d n2 ⟨Int32.not_lt.mp (by assumption), Int32.not_lt.mp (by assumption)⟩])), (by show c_FL hrz61_62 cm (x_fW t n (vI h (v0 + 1) 1) (vI h cm 12) (vI h cm 13) (vI h cm 14)); rw [x_fW_d (Int32.not_lt.mp (by assumption)) (Int32.not_lt.mp (by assumption)) cc57]; exact g1rz61_62_1), (fun a k na => by rw [f1rz61_62_I a k (fun z => na (z.elim (fun z => Or.inl z) (fun z => z.elim (fun z => Or.inr (Or.inl z)) (fun z => z.elim (fun z => Or.inr (Or.inr (Or.inl z))) (fun z => Or.inr (Or.inr (Or.inr (z)))))))), ih3i59_60 a k, if_neg (fun z => na (Or.inr (Or.inl z))), ih7i54_58 a k, if_neg (fun z => na (Or.inr (Or.inr (Or.inr (z)))))]), (fun a na => by rw [f1rz61_62_A a (by omega), ah3i59_60 a, ah7i54_58 a]), (fun a na => by rw [f1rz61_62_L a (by omega), lh3i59_60 a, lh7i54_58 a])⟩⟩
              · skip
                refine qi_some ?_
                exact ⟨T, ⟨rfl, (by show vI h (v0 + 1) 1 = x_fl t n (vI h (v0 + 1) 1) (vI h cm 12) (vI h cm 13) (vI h cm 14); first | exact (x_fl_no (by (first | grind (ematch := 0) | grind)) (by (first | grind (ematch := 0) | grind)) (by (first | grind (ematch := 0) | grind))).symm | exact (x_fl_all hc3 (by assumption)).symm), (by show c_FL h cm (x_fW t n (vI h (v0 + 1) 1) (vI h cm 12) (vI h cm 13) (vI h cm 14)); first | (rw [x_fW_n (by (first | grind (ematch := 0) | grind)) (by (first | grind (ematch := 0) | grind)) (by (first | grind (ematch := 0) | grind))]; exact ⟨rfl, rfl, rfl⟩) | (rw [x_fW_a hc3 (by assumption)]; exact ⟨rfl, rfl, rfl⟩)), (fun a k na => by rfl), (fun a na => by rfl), (fun a na => by rfl)⟩⟩
theorem jj_Pa_readFlags_2 {L : q_L} {π : Nat → Nat → Option Nat} {N : Nat} {pg : Nat} {cm : Nat} {t : Int32 → Int32} {n : Int32} {m9 : Nat} {h : z_H} {v0 : Nat} {v1 : Int32} {β : Type} {f : Int32 × z_H → Option β} {Q : β → Prop} (T : x_U L π h) (kv0 : qκ L v0 = 7) (kpg : qκ L pg = 10) (ppg : π v0 5 = some pg) (kcm : qκ L cm = 2) (pcm : π v0 6 = some cm) (ptx : π (v0 + 1) 0 = some (pg + 1)) (ht : ∀ j, 0 ≤ j → j < n → vA h ((pg + 1) + 1) j = t j) (hn : vI h (pg + 1) 1 = n) (n1 : n ≤ 240) (tp : ∀ j, t j ≠ -1) (D : v0 + 5 ≤ pg) (hc : pg + 9 ≤ cm ∧ cm + 6 ≤ pg + 249) (a0 : 0 ≤ vI h (v0 + 1) 1) (hc3 : v1 = x_cn (vI h cm 12) (vI h cm 13) (vI h cm 14)) (H1 : ∀ h', x_U L π h' → (vI h' (v0 + 1) 1 = x_fl t n (vI h (v0 + 1) 1) (vI h cm 12) (vI h cm 13) (vI h cm 14)) → (c_FL h' cm (x_fW t n (vI h (v0 + 1) 1) (vI h cm 12) (vI h cm 13) (vI h cm 14))) → (∀ a k, ¬ ((a = cm ∧ k = 12) ∨ (a = (v0 + 1) ∧ k = 1) ∨ (a = cm ∧ k = 13) ∨ (a = cm ∧ k = 14)) → vI h' a k = vI h a k) → (∀ a, ¬ (a < a) → vA h' a = vA h a) → (∀ a, ¬ (a < a) → vL h' a = vL h a) → qi (f (1, h')) Q) : qi (z_b (f_Pa_readFlags_2 N m9 v0 v1 h) f) Q := by
  refine qi_b (ii_Pa_readFlags_2 m9 v0 v1 h  T kv0 kpg ppg kcm pcm ptx ht hn n1 tp D hc a0 hc3) ?_
  rintro ⟨y, hz⟩ ⟨Tz, ey, g0, g1, g2, g3, g4⟩
  · dsimp only at *; subst ey; exact H1 hz Tz g0 g1 g2 g3 g4

set_option maxHeartbeats 2000000 in
theorem ii_Pa_readFlags {L : q_L} {π : Nat → Nat → Option Nat} {N : Nat} {pg : Nat} {cm : Nat} {t : Int32 → Int32} {n : Int32} {h : z_H} {v0 : Nat} (T : x_U L π h) (kv0 : qκ L v0 = 7) (kpg : qκ L pg = 10) (ppg : π v0 5 = some pg) (kcm : qκ L cm = 2) (pcm : π v0 6 = some cm) (ptx : π (v0 + 1) 0 = some (pg + 1)) (ht : ∀ j, 0 ≤ j → j < n → vA h ((pg + 1) + 1) j = t j) (hn : vI h (pg + 1) 1 = n) (n1 : n ≤ 240) (tp : ∀ j, t j ≠ -1) (D : v0 + 5 ≤ pg) (hc : pg + 9 ≤ cm ∧ cm + 6 ≤ pg + 249) (a0 : 0 ≤ vI h (v0 + 1) 1) (f12 : vI h cm 12 = 0) (f13 : vI h cm 13 = 0) (f14 : vI h cm 14 = 0) : qi (f_Pa_readFlags N v0 h) (fun r => x_U L π r.2 ∧ r.1 = 1 ∧ (vI r.2 (v0 + 1) 1 = x_fl t n (vI h (v0 + 1) 1) 0 0 0) ∧ (c_FL r.2 cm (x_fW t n (vI h (v0 + 1) 1) 0 0 0)) ∧ (∀ a k, ¬ ((a = cm ∧ k = 12) ∨ (a = (v0 + 1) ∧ k = 1) ∨ (a = cm ∧ k = 13) ∨ (a = cm ∧ k = 14)) → vI r.2 a k = vI h a k) ∧ (∀ a, ¬ (a < a) → vA r.2 a = vA h a) ∧ (∀ a, ¬ (a < a) → vL r.2 a = vL h a)) := by
  have n2 : n ≤ 1000 := Int32.le_trans n1 (by decide)
  have ktx := e_Prog_0 T kpg
  unfold f_Pa_readFlags
  refine qi_tailp ?_
  refine jj_Pa_readFlags_2 (v0 := v0) (v1 := (0 : Int32)) (pg := pg) (cm := cm) (t := t) (n := n) T kv0 kpg ppg kcm pcm ptx ht hn n1 tp D hc a0 (by show (0 : Int32) = x_cn (vI h cm 12) (vI h cm 13) (vI h cm 14); rw [f12, f13, f14]; rfl) ?_
  · intro hrz1_2 Thrz1_2 g1rz1_2_0 g1rz1_2_1 f1rz1_2_I f1rz1_2_A f1rz1_2_L
    try dsimp only
    refine qi_some ?_
    exact ⟨Thrz1_2, ⟨rfl, (by show vI hrz1_2 (v0 + 1) 1 = x_fl t n (vI h (v0 + 1) 1) 0 0 0; rw [show vI hrz1_2 (v0 + 1) 1 = (x_fl t n (vI h (v0 + 1) 1) (vI h cm 12) (vI h cm 13) (vI h cm 14)) from (by rw [g1rz1_2_0])] <;> (rw [f12, f13, f14])), (by show c_FL hrz1_2 cm (x_fW t n (vI h (v0 + 1) 1) 0 0 0); have q := g1rz1_2_1; rw [f12, f13, f14] at q; exact q), (fun a k na => by rw [f1rz1_2_I a k (fun z => na (z.elim (fun z => Or.inl z) (fun z => z.elim (fun z => Or.inr (Or.inl z)) (fun z => z.elim (fun z => Or.inr (Or.inr (Or.inl z))) (fun z => Or.inr (Or.inr (Or.inr (z))))))))]), (fun a na => by rw [f1rz1_2_A a (by omega)]), (fun a na => by rw [f1rz1_2_L a (by omega)])⟩⟩
theorem jj_Pa_readFlags {L : q_L} {π : Nat → Nat → Option Nat} {N : Nat} {pg : Nat} {cm : Nat} {t : Int32 → Int32} {n : Int32} {h : z_H} {v0 : Nat} {β : Type} {f : Int32 × z_H → Option β} {Q : β → Prop} (T : x_U L π h) (kv0 : qκ L v0 = 7) (kpg : qκ L pg = 10) (ppg : π v0 5 = some pg) (kcm : qκ L cm = 2) (pcm : π v0 6 = some cm) (ptx : π (v0 + 1) 0 = some (pg + 1)) (ht : ∀ j, 0 ≤ j → j < n → vA h ((pg + 1) + 1) j = t j) (hn : vI h (pg + 1) 1 = n) (n1 : n ≤ 240) (tp : ∀ j, t j ≠ -1) (D : v0 + 5 ≤ pg) (hc : pg + 9 ≤ cm ∧ cm + 6 ≤ pg + 249) (a0 : 0 ≤ vI h (v0 + 1) 1) (f12 : vI h cm 12 = 0) (f13 : vI h cm 13 = 0) (f14 : vI h cm 14 = 0) (H1 : ∀ h', x_U L π h' → (vI h' (v0 + 1) 1 = x_fl t n (vI h (v0 + 1) 1) 0 0 0) → (c_FL h' cm (x_fW t n (vI h (v0 + 1) 1) 0 0 0)) → (∀ a k, ¬ ((a = cm ∧ k = 12) ∨ (a = (v0 + 1) ∧ k = 1) ∨ (a = cm ∧ k = 13) ∨ (a = cm ∧ k = 14)) → vI h' a k = vI h a k) → (∀ a, ¬ (a < a) → vA h' a = vA h a) → (∀ a, ¬ (a < a) → vL h' a = vL h a) → qi (f (1, h')) Q) : qi (z_b (f_Pa_readFlags N v0 h) f) Q := by
  refine qi_b (ii_Pa_readFlags  T kv0 kpg ppg kcm pcm ptx ht hn n1 tp D hc a0 f12 f13 f14) ?_
  rintro ⟨y, hz⟩ ⟨Tz, ey, g0, g1, g2, g3, g4⟩
  · dsimp only at *; subst ey; exact H1 hz Tz g0 g1 g2 g3 g4

set_option maxHeartbeats 2000000 in
theorem ii_Pa_wasExchanged_8 {L : q_L} {π : Nat → Nat → Option Nat} {N : Nat} {pg : Nat} {t : Int32 → Int32} {n : Int32} : ∀ (m9 : Nat) (v0 : Nat) (v1 : Int32) (v2 : Int32) (h : z_H), x_U L π h → qκ L v0 = 7 → (qκ L pg = 10) → (π v0 5 = some pg) → (π (v0 + 1) 0 = some (pg + 1)) → (∀ j, 0 ≤ j → j < n → vA h ((pg + 1) + 1) j = t j) → (vI h (pg + 1) 1 = n) → (n ≤ 240) → (∀ j, t j ≠ -1) → (v0 + 5 ≤ pg) → (0 ≤ vI h (v0 + 1) 1) → (0 ≤ v2) → (vI h (v0 + 1) 1 ≤ n) → qi (f_Pa_wasExchanged_8 N m9 v0 v1 v2 h) (fun r => r.2 = h ∧ (r.1 = 1 ∧ (x_seen t v2 (vI h (v0 + 1) 1) v1 = 1) ∨ r.1 = 0 ∧ (x_seen t v2 (vI h (v0 + 1) 1) v1 = 0))) := by
  intro m9
  induction m9 with
  | zero => intro v0 v1 v2 h T kv0 kpg ppg ptx ht hn n1 tp D a0 w0 wn r e; rw [f_Pa_wasExchanged_8] at e; cases e
  | succ m9 ih =>
    intro v0 v1 v2 h T kv0 kpg ppg ptx ht hn n1 tp D a0 w0 wn
    rw [f_Pa_wasExchanged_8]
    have n2 : n ≤ 1000 := Int32.le_trans n1 (by decide)
    have ktx := e_Prog_0 T kpg
    refine l_gR T (d_Pa_0 T kv0) ?_
    have kk1 := e_Pa_0 T kv0
    refine l_gI (e := (vI h (v0 + 1) 1)) rfl ?_
    refine qi_if (fun cc2 => ?_) (fun cc2 => ?_)
    · skip
      refine qi_some ?_
      exact ⟨rfl, Or.inr ⟨rfl, (by show x_seen t v2 (vI h (v0 + 1) 1) v1 = 0; exact x_seen0 (Int32.not_lt.mpr (by assumption)))⟩⟩
    · skip
      refine l_gR T ppg ?_
      refine l_gR T (d_Prog_0 T kpg) ?_
      refine l_gO ?_
      refine jj_Row_at (v0 := (pg + 1)) (v1 := v2) (e := (if 0 ≤ v2 ∧ v2 < vI h (pg + 1) 1 then vA h (pg + 2) v2 else -1)) T ktx (by simp only [Int32.add_zero, x_am1, x_s11, x_s12, x_s21, x_s13, x_s22, x_s31]) ?_
      try dsimp only
      refine qi_if (fun cc4 => ?_) (fun cc4 => ?_)
      · skip
        refine qi_some ?_
        exact ⟨rfl, Or.inl ⟨rfl, (by show x_seen t v2 (vI h (v0 + 1) 1) v1 = 1; exact x_seen1 ⟨(Int32.not_le.mp (by assumption)), Int32.le_trans wn n2⟩ (by have e := x_rat w0 (Int32.lt_of_lt_of_le (Int32.not_le.mp (by assumption)) wn) hn ht; grind))⟩⟩
      · skip
        refine qi_bs ?_
        refine qi_mono (ih v0 v1 (v2 + 1) h T kv0 kpg ppg ptx ht hn n1 tp D a0 (by show 0 ≤ (v2 + 1); exact x_inc w0 (Int32.not_le.mp (by assumption)) (Int32.le_trans (Int32.le_trans wn n2) (by decide))) wn) ?_
        rintro ⟨y, hz⟩ ⟨ez, ⟨ey, g1rz5_6_0⟩ | ⟨ey, g0rz5_6_0⟩⟩
        · dsimp only at *; subst ey; have ez9 := ez.symm; subst ez9
          exact ⟨rfl, Or.inl ⟨rfl, (by show x_seen t v2 (vI h (v0 + 1) 1) v1 = 1; rw [x_seens ⟨(Int32.not_le.mp (by assumption)), Int32.le_trans wn n2⟩ (by have e := x_rat w0 (Int32.lt_of_lt_of_le (Int32.not_le.mp (by assumption)) wn) hn ht; grind)]; exact g1rz5_6_0)⟩⟩
        · dsimp only at *; subst ey; have ez9 := ez.symm; subst ez9
          exact ⟨rfl, Or.inr ⟨rfl, (by show x_seen t v2 (vI h (v0 + 1) 1) v1 = 0; rw [x_seens ⟨(Int32.not_le.mp (by assumption)), Int32.le_trans wn n2⟩ (by have e := x_rat w0 (Int32.lt_of_lt_of_le (Int32.not_le.mp (by assumption)) wn) hn ht; grind)]; exact g0rz5_6_0)⟩⟩
theorem jj_Pa_wasExchanged_8 {L : q_L} {π : Nat → Nat → Option Nat} {N : Nat} {pg : Nat} {t : Int32 → Int32} {n : Int32} {m9 : Nat} {h : z_H} {v0 : Nat} {v1 : Int32} {v2 : Int32} {β : Type} {f : Int32 × z_H → Option β} {Q : β → Prop} (T : x_U L π h) (kv0 : qκ L v0 = 7) (kpg : qκ L pg = 10) (ppg : π v0 5 = some pg) (ptx : π (v0 + 1) 0 = some (pg + 1)) (ht : ∀ j, 0 ≤ j → j < n → vA h ((pg + 1) + 1) j = t j) (hn : vI h (pg + 1) 1 = n) (n1 : n ≤ 240) (tp : ∀ j, t j ≠ -1) (D : v0 + 5 ≤ pg) (a0 : 0 ≤ vI h (v0 + 1) 1) (w0 : 0 ≤ v2) (wn : vI h (v0 + 1) 1 ≤ n) (H1 : ∀ _u : Unit, (x_seen t v2 (vI h (v0 + 1) 1) v1 = 1) → qi (f (1, h)) Q) (H0 : ∀ _u : Unit, (x_seen t v2 (vI h (v0 + 1) 1) v1 = 0) → qi (f (0, h)) Q) : qi (z_b (f_Pa_wasExchanged_8 N m9 v0 v1 v2 h) f) Q := by
  refine qi_b (ii_Pa_wasExchanged_8 m9 v0 v1 v2 h  T kv0 kpg ppg ptx ht hn n1 tp D a0 w0 wn) ?_
  rintro ⟨y, hz⟩ ⟨e, ⟨ey, g0⟩ | ⟨ey, g0⟩⟩
  · dsimp only at *; subst ey; subst e; exact H1 () g0
  · dsimp only at *; subst ey; subst e; exact H0 () g0

set_option maxHeartbeats 2000000 in
theorem ii_Pa_wasExchanged {L : q_L} {π : Nat → Nat → Option Nat} {N : Nat} {pg : Nat} {cm : Nat} {t : Int32 → Int32} {n : Int32} {h : z_H} {v0 : Nat} {v1 : Int32} (T : x_U L π h) (kv0 : qκ L v0 = 7) (kpg : qκ L pg = 10) (ppg : π v0 5 = some pg) (kcm : qκ L cm = 2) (pcm : π v0 6 = some cm) (ptx : π (v0 + 1) 0 = some (pg + 1)) (ht : ∀ j, 0 ≤ j → j < n → vA h ((pg + 1) + 1) j = t j) (hn : vI h (pg + 1) 1 = n) (n1 : n ≤ 240) (tp : ∀ j, t j ≠ -1) (D : v0 + 5 ≤ pg) (hc : pg + 9 ≤ cm ∧ cm + 6 ≤ pg + 249) (a0 : 0 ≤ vI h (v0 + 1) 1) (w0 : 0 ≤ vI h cm 9) (wn : vI h (v0 + 1) 1 ≤ n) : qi (f_Pa_wasExchanged N v0 v1 h) (fun r => r.2 = h ∧ (r.1 = 1 ∧ (x_seen t (vI h cm 9) (vI h (v0 + 1) 1) v1 = 1) ∨ r.1 = 0 ∧ (x_seen t (vI h cm 9) (vI h (v0 + 1) 1) v1 = 0))) := by
  have n2 : n ≤ 1000 := Int32.le_trans n1 (by decide)
  have ktx := e_Prog_0 T kpg
  unfold f_Pa_wasExchanged
  refine l_gR T pcm ?_
  refine l_gI (e := (vI h cm 9)) rfl ?_
  refine qi_tailp ?_
  refine jj_Pa_wasExchanged_8 (v0 := v0) (v1 := v1) (v2 := (vI h cm 9)) (pg := pg) (t := t) (n := n) T kv0 kpg ppg ptx ht hn n1 tp D a0 (by show 0 ≤ (vI h cm 9); first | assumption | with_reducible rfl | grind) wn (fun _ g1rz1_2_0 => ?_) (fun _ g0rz1_2_0 => ?_)
  · try dsimp only
    refine qi_some ?_
    exact ⟨rfl, Or.inl ⟨rfl, g1rz1_2_0⟩⟩
  · try dsimp only
    refine qi_some ?_
    exact ⟨rfl, Or.inr ⟨rfl, g0rz1_2_0⟩⟩
theorem jj_Pa_wasExchanged {L : q_L} {π : Nat → Nat → Option Nat} {N : Nat} {pg : Nat} {cm : Nat} {t : Int32 → Int32} {n : Int32} {h : z_H} {v0 : Nat} {v1 : Int32} {β : Type} {f : Int32 × z_H → Option β} {Q : β → Prop} (T : x_U L π h) (kv0 : qκ L v0 = 7) (kpg : qκ L pg = 10) (ppg : π v0 5 = some pg) (kcm : qκ L cm = 2) (pcm : π v0 6 = some cm) (ptx : π (v0 + 1) 0 = some (pg + 1)) (ht : ∀ j, 0 ≤ j → j < n → vA h ((pg + 1) + 1) j = t j) (hn : vI h (pg + 1) 1 = n) (n1 : n ≤ 240) (tp : ∀ j, t j ≠ -1) (D : v0 + 5 ≤ pg) (hc : pg + 9 ≤ cm ∧ cm + 6 ≤ pg + 249) (a0 : 0 ≤ vI h (v0 + 1) 1) (w0 : 0 ≤ vI h cm 9) (wn : vI h (v0 + 1) 1 ≤ n) (H1 : ∀ _u : Unit, (x_seen t (vI h cm 9) (vI h (v0 + 1) 1) v1 = 1) → qi (f (1, h)) Q) (H0 : ∀ _u : Unit, (x_seen t (vI h cm 9) (vI h (v0 + 1) 1) v1 = 0) → qi (f (0, h)) Q) : qi (z_b (f_Pa_wasExchanged N v0 v1 h) f) Q := by
  refine qi_b (ii_Pa_wasExchanged  T kv0 kpg ppg kcm pcm ptx ht hn n1 tp D hc a0 w0 wn) ?_
  rintro ⟨y, hz⟩ ⟨e, ⟨ey, g0⟩ | ⟨ey, g0⟩⟩
  · dsimp only at *; subst ey; subst e; exact H1 () g0
  · dsimp only at *; subst ey; subst e; exact H0 () g0

