set_option maxHeartbeats 4000000 in
theorem i_Pa_readAddress {L : q_L} {π : Nat → Nat → Option Nat} {N : Nat} {pg : Nat} {t : Int32 → Int32} {n : Int32} {h : z_H} {v0 : Nat} {v1 : Nat} (T : x_U L π h) (kv0 : qκ L v0 = 7) (kv1 : qκ L v1 = 1) (kpg : qκ L pg = 10) (ppg : π v0 5 = some pg) (ptx : π (v0 + 1) 0 = some (pg + 1)) (ppc : π (v0 + 2) 0 = some (v0 + 1)) (ht : ∀ j, 0 ≤ j → j < n → vA h ((pg + 1) + 1) j = t j) (hn : vI h (pg + 1) 1 = n) (n1 : n ≤ 240) (tp : ∀ j, t j ≠ -1) (D : v0 + 5 ≤ pg) (a0 : 0 ≤ vI h (v0 + 1) 1) (hv : pg + 9 ≤ v1 ∧ v1 + 2 ≤ pg + 249) : qi (f_Pa_readAddress N v0 v1 h) (fun r => ∃ π1, x_U L π1 r.2 ∧ (∀ a k, ¬ ((a = (v0 + 2) ∧ k = 1) ∨ (a = (v0 + 2) ∧ k = 2)) → π1 a k = π a k) ∧ ((r.1 = 1 ∧ (x_adr t n (vI h (v0 + 1) 1) = some (vI r.2 (v0 + 1) 1)) ∧ (∀ a k, ¬ ((a = (v0 + 1) ∧ k = 1) ∨ (a = v1 ∧ k = 1) ∨ (a = (v1 + 1) ∧ k = 2) ∨ (a = (v1 + 1) ∧ k = 6) ∨ (a = (v1 + 1) ∧ k = 1) ∨ (a = (v1 + 1) ∧ k = 0) ∨ (a = (v0 + 2) ∧ k = 3) ∨ (a = (v0 + 2) ∧ k = 4) ∨ (a = (v0 + 2) ∧ k = 5) ∨ (a = (v0 + 2) ∧ k = 6) ∨ (a = (v1 + 1) ∧ k = 3) ∨ (a = (v1 + 1) ∧ k = 5) ∨ (a = (v1 + 1) ∧ k = 4) ∨ (a = (v0 + 1) ∧ k = 2) ∨ (a = (pg + 3) ∧ k = 4) ∨ (a = v1 ∧ k = 2)) → vI r.2 a k = vI h a k) ∧ (∀ a, ¬ (a = ((pg + 3) + 1) ∨ a = ((pg + 3) + 2)) → vA r.2 a = vA h a)) ∨ (r.1 = 0 ∧ (x_adr t n (vI h (v0 + 1) 1) = none)))) := by
  have n2 : n ≤ 1000 := Int32.le_trans n1 (by decide)
  have ktx := e_Prog_0 T kpg
  have kpc := e_Pa_0 T kv0
  unfold f_Pa_readAddress
  refine l_gR T (d_Pa_0 T kv0) ?_
  refine l_gO ?_
  refine j_Cur_look (v0 := (v0 + 1)) (v1 := (0 : Int32)) (tx := (pg + 1)) (t := t) (n := n) (e := (x_lk t n (vI h (v0 + 1) 1))) T kpc ktx ptx ht hn (by simp only [Int32.add_zero, x_s11, x_s12, x_s21, x_s13, x_s22, x_s31]) ?_
  try dsimp only
  refine qi_bs ?_
  refine j_Pa_startsAddress (v0 := (x_lk t n (vI h (v0 + 1) 1))) T (fun _ g1r5_2_0 => ?_) (fun _ g0r5_2_0 => ?_)
  · try dsimp only
    refine qi_if (fun cc3 => absurd cc3 (by decide)) (fun _ => ?_)
    refine l_gR T (d_Pa_0 T kv0) ?_
    refine l_gI (e := (vI h (v0 + 1) 1)) rfl ?_
    refine l_sI T kpc (by decide) rfl ?_
    intro h9_4 Th9_4 ih9_4 ah9_4
    refine qi_if (fun cc5 => ?_) (fun cc5 => ?_)
    · skip
      refine l_sI Th9_4 kv1 (by decide) rfl ?_
      intro h26_6 Th26_6 ih26_6 ah26_6
      refine l_gR Th26_6 (d_Pa_1 Th26_6 kv0) ?_
      have kk7 := e_Pa_1 Th26_6 kv0
      refine l_gR Th26_6 (d_Addr_0 Th26_6 kv1) ?_
      have kk8 := e_Addr_0 Th26_6 kv1
      refine l_gR Th26_6 ppg ?_
      refine l_gR Th26_6 (d_Prog_1 Th26_6 kpg) ?_
      have kk9 := e_Prog_1 Th26_6 kpg
      refine l_gO ?_
      refine j_Pr_read (v0 := (v0 + 2)) (v1 := (v1 + 1)) (v2 := (pg + 3)) (cu := (v0 + 1)) (tx := (pg + 1)) (t := t) (n := n) Th26_6 kk7 kk8 kk9 kpc ppc ktx ptx (by show ∀ j, 0 ≤ j → j < n → vA h26_6 ((pg + 1) + 1) j = t j; rw [show vA h26_6 ((pg + 1) + 1) = vA h ((pg + 1) + 1) from (by rw [ah26_6 ((pg + 1) + 1), ah9_4 ((pg + 1) + 1)])] <;> ((try simp only [Int32.add_zero, x_s11, x_s12, x_s21, x_s13, x_s22, x_s31]) <;> (first | assumption | with_reducible rfl | grind))) (by show vI h26_6 (pg + 1) 1 = n; rw [show vI h26_6 (pg + 1) 1 = (vI h (pg + 1) 1) from (by rw [ih26_6 (pg + 1) 1, if_neg (fun z => absurd z.1 (by omega)), ih9_4 (pg + 1) 1, if_neg (fun z => absurd z.1 (by omega))])] <;> (first | assumption | with_reducible rfl | grind)) n1 tp (by show (v0 + 1) + 1 = (v0 + 2) ∧ (v0 + 2) + 4 ≤ (pg + 1) ∧ (pg + 3) = (pg + 1) + 2 ∧ (pg + 3) + 6 ≤ (v1 + 1); omega) (by show 0 ≤ vI h26_6 (v0 + 1) 1; rw [show vI h26_6 (v0 + 1) 1 = ((vI h (v0 + 1) 1) + 1) from (by rw [ih26_6 (v0 + 1) 1, if_neg (fun z => absurd z.1 (by omega)), ih9_4 (v0 + 1) 1, if_pos ⟨rfl, rfl⟩])] <;> (exact x_0le a0 (x_lp1 n2 (t := t) (by first | exact x_ne (by assumption) | exact x_nst (by assumption))))) ?_ ?_
      · intro πhr32_10 hr32_10 Thr32_10 zhr32_10 zhr32_10_0 zhr32_10_1 g1r32_10_0 f1r32_10_I f1r32_10_A
        have pp11 : πhr32_10 v0 5 = some pg := by rw [zhr32_10 v0 5 (by omega)]; exact ppg
        have pp12 : πhr32_10 (v0 + 1) 0 = some (pg + 1) := by rw [zhr32_10 (v0 + 1) 0 (by omega)]; exact ptx
        have pp13 : πhr32_10 (v0 + 2) 0 = some (v0 + 1) := by rw [zhr32_10 (v0 + 2) 0 (by omega)]; exact ppc
        try dsimp only
        rw [show vI h26_6 (v0 + 1) 1 = ((vI h (v0 + 1) 1) + 1) from (by rw [ih26_6 (v0 + 1) 1, if_neg (fun z => absurd z.1 (by omega)), ih9_4 (v0 + 1) 1, if_pos ⟨rfl, rfl⟩])] at g1r32_10_0
        refine qi_zB (fun zb14 => ?_)
        refine qi_some ?_
        exact ⟨_, Thr32_10, (fun a k na => by rw [zhr32_10 a k (by omega)]), Or.inl ⟨rfl, (by show x_adr t n (vI h (v0 + 1) 1) = some (vI hr32_10 (v0 + 1) 1); exact x_adr47 (by assumption) g1r32_10_0), (fun a k na => by rw [f1r32_10_I a k (fun z => na (z.elim (fun z => Or.inr (Or.inr (Or.inl z))) (fun z => z.elim (fun z => Or.inr (Or.inr (Or.inr (Or.inl z)))) (fun z => z.elim (fun z => Or.inr (Or.inr (Or.inr (Or.inr (Or.inl z))))) (fun z => z.elim (fun z => Or.inr (Or.inr (Or.inr (Or.inr (Or.inr (Or.inl z)))))) (fun z => z.elim (fun z => Or.inl z) (fun z => z.elim (fun z => Or.inr (Or.inr (Or.inr (Or.inr (Or.inr (Or.inr (Or.inl z))))))) (fun z => z.elim (fun z => Or.inr (Or.inr (Or.inr (Or.inr (Or.inr (Or.inr (Or.inr (Or.inl z)))))))) (fun z => z.elim (fun z => Or.inr (Or.inr (Or.inr (Or.inr (Or.inr (Or.inr (Or.inr (Or.inr (Or.inl z))))))))) (fun z => z.elim (fun z => Or.inr (Or.inr (Or.inr (Or.inr (Or.inr (Or.inr (Or.inr (Or.inr (Or.inr (Or.inl z)))))))))) (fun z => z.elim (fun z => Or.inr (Or.inr (Or.inr (Or.inr (Or.inr (Or.inr (Or.inr (Or.inr (Or.inr (Or.inr (Or.inl z))))))))))) (fun z => z.elim (fun z => Or.inr (Or.inr (Or.inr (Or.inr (Or.inr (Or.inr (Or.inr (Or.inr (Or.inr (Or.inr (Or.inr (Or.inl z)))))))))))) (fun z => z.elim (fun z => Or.inr (Or.inr (Or.inr (Or.inr (Or.inr (Or.inr (Or.inr (Or.inr (Or.inr (Or.inr (Or.inr (Or.inr (Or.inl z))))))))))))) (fun z => z.elim (fun z => Or.inr (Or.inr (Or.inr (Or.inr (Or.inr (Or.inr (Or.inr (Or.inr (Or.inr (Or.inr (Or.inr (Or.inr (Or.inr (Or.inl z)))))))))))))) (fun z => Or.inr (Or.inr (Or.inr (Or.inr (Or.inr (Or.inr (Or.inr (Or.inr (Or.inr (Or.inr (Or.inr (Or.inr (Or.inr (Or.inr (Or.inl z))))))))))))))))))))))))))))), ih26_6 a k, if_neg (fun z => na (Or.inr (Or.inl z))), ih9_4 a k, if_neg (fun z => na (Or.inl z))]), (fun a na => by rw [f1r32_10_A a (fun z => na (z.elim (fun z => Or.inl z) (fun z => Or.inr (z)))), ah26_6 a, ah9_4 a])⟩⟩
      · intro πhr32_10 hr32_10 Thr32_10 zhr32_10 g0r32_10_0
        have pp15 : πhr32_10 v0 5 = some pg := by rw [zhr32_10 v0 5 (by omega)]; exact ppg
        have pp16 : πhr32_10 (v0 + 1) 0 = some (pg + 1) := by rw [zhr32_10 (v0 + 1) 0 (by omega)]; exact ptx
        have pp17 : πhr32_10 (v0 + 2) 0 = some (v0 + 1) := by rw [zhr32_10 (v0 + 2) 0 (by omega)]; exact ppc
        try dsimp only
        rw [show vI h26_6 (v0 + 1) 1 = ((vI h (v0 + 1) 1) + 1) from (by rw [ih26_6 (v0 + 1) 1, if_neg (fun z => absurd z.1 (by omega)), ih9_4 (v0 + 1) 1, if_pos ⟨rfl, rfl⟩])] at g0r32_10_0
        refine qi_zB (fun zb18 => ?_)
        refine qi_some ?_
        exact ⟨_, Thr32_10, (fun a k na => by rw [zhr32_10 a k (by omega)]), Or.inr ⟨rfl, (by show x_adr t n (vI h (v0 + 1) 1) = none; exact x_adr47n (by assumption) g0r32_10_0)⟩⟩
    · skip
      refine qi_if (fun cc19 => ?_) (fun cc19 => ?_)
      · skip
        refine l_sI Th9_4 kv1 (by decide) rfl ?_
        intro h25_20 Th25_20 ih25_20 ah25_20
        refine qi_some ?_
        exact ⟨_, Th25_20, (fun a k na => by rfl), Or.inl ⟨rfl, (by show x_adr t n (vI h (v0 + 1) 1) = some (vI h25_20 (v0 + 1) 1); rw [show vI h25_20 (v0 + 1) 1 = ((vI h (v0 + 1) 1) + 1) from (by rw [ih25_20 (v0 + 1) 1, if_neg (fun z => absurd z.1 (by omega)), ih9_4 (v0 + 1) 1, if_pos ⟨rfl, rfl⟩])] <;> (exact x_adr36 cc19)), (fun a k na => by rw [ih25_20 a k, if_neg (fun z => na (Or.inr (Or.inl z))), ih9_4 a k, if_neg (fun z => na (Or.inl z))]), (fun a na => by rw [ah25_20 a, ah9_4 a])⟩⟩
      · skip
        refine l_sI Th9_4 kv1 (by decide) rfl ?_
        intro h12_21 Th12_21 ih12_21 ah12_21
        refine l_sI Th12_21 kv1 (by decide) rfl ?_
        intro h13_22 Th13_22 ih13_22 ah13_22
        refine l_gR Th13_22 (d_Pa_0 Th13_22 kv0) ?_
        refine l_gO ?_
        refine j_Cur_look (v0 := (v0 + 1)) (v1 := (0 : Int32)) (tx := (pg + 1)) (t := t) (n := n) (e := (x_lk t n (((vI h (v0 + 1) 1) + 1)))) Th13_22 kpc ktx ptx (by show ∀ j, 0 ≤ j → j < n → vA h13_22 ((pg + 1) + 1) j = t j; rw [show vA h13_22 ((pg + 1) + 1) = vA h ((pg + 1) + 1) from (by rw [ah13_22 ((pg + 1) + 1), ah12_21 ((pg + 1) + 1), ah9_4 ((pg + 1) + 1)])] <;> ((try simp only [Int32.add_zero, x_s11, x_s12, x_s21, x_s13, x_s22, x_s31]) <;> (first | assumption | with_reducible rfl | grind))) (by show vI h13_22 (pg + 1) 1 = n; rw [show vI h13_22 (pg + 1) 1 = (vI h (pg + 1) 1) from (by rw [ih13_22 (pg + 1) 1, if_neg (fun z => absurd z.2 (by decide)), ih12_21 (pg + 1) 1, if_neg (fun z => absurd z.1 (by omega)), ih9_4 (pg + 1) 1, if_neg (fun z => absurd z.1 (by omega))])] <;> (first | assumption | with_reducible rfl | grind)) (by rw [show vI h13_22 (v0 + 1) 1 = ((vI h (v0 + 1) 1) + 1) from (by rw [ih13_22 (v0 + 1) 1, if_neg (fun z => absurd z.2 (by decide)), ih12_21 (v0 + 1) 1, if_neg (fun z => absurd z.1 (by omega)), ih9_4 (v0 + 1) 1, if_pos ⟨rfl, rfl⟩])]; try simp only [Int32.add_zero, x_s11, x_s12, x_s21, x_s13, x_s22, x_s31]) ?_
        try dsimp only
        refine qi_bs ?_
        refine qi_if (fun cc24 => ?_) (fun cc24 => ?_)
        · skip
          refine qi_some ?_
          exact ⟨_, Th13_22, (fun a k na => by rfl), Or.inl ⟨rfl, (by show x_adr t n (vI h (v0 + 1) 1) = some (vI h13_22 (v0 + 1) 1); rw [show vI h13_22 (v0 + 1) 1 = ((vI h (v0 + 1) 1) + 1) from (by rw [ih13_22 (v0 + 1) 1, if_neg (fun z => absurd z.2 (by decide)), ih12_21 (v0 + 1) 1, if_neg (fun z => absurd z.1 (by omega)), ih9_4 (v0 + 1) 1, if_pos ⟨rfl, rfl⟩])] <;> (exact x_adrd0 (by assumption) (by assumption) (by assumption) (fun z => by first | exact absurd z.1 (Int32.not_le.mpr (by assumption)) | exact absurd z.2 (Int32.not_le.mpr (by assumption))))), (fun a k na => by rw [ih13_22 a k, if_neg (fun z => na (Or.inr (Or.inr (Or.inr (Or.inr (Or.inr (Or.inr (Or.inr (Or.inr (Or.inr (Or.inr (Or.inr (Or.inr (Or.inr (Or.inr (Or.inr (z))))))))))))))))), ih12_21 a k, if_neg (fun z => na (Or.inr (Or.inl z))), ih9_4 a k, if_neg (fun z => na (Or.inl z))]), (fun a na => by rw [ah13_22 a, ah12_21 a, ah9_4 a])⟩⟩
        · skip
          refine qi_if (fun cc25 => ?_) (fun cc25 => ?_)
          · skip
            refine qi_some ?_
            exact ⟨_, Th13_22, (fun a k na => by rfl), Or.inl ⟨rfl, (by show x_adr t n (vI h (v0 + 1) 1) = some (vI h13_22 (v0 + 1) 1); rw [show vI h13_22 (v0 + 1) 1 = ((vI h (v0 + 1) 1) + 1) from (by rw [ih13_22 (v0 + 1) 1, if_neg (fun z => absurd z.2 (by decide)), ih12_21 (v0 + 1) 1, if_neg (fun z => absurd z.1 (by omega)), ih9_4 (v0 + 1) 1, if_pos ⟨rfl, rfl⟩])] <;> (exact x_adrd0 (by assumption) (by assumption) (by assumption) (fun z => by first | exact absurd z.1 (Int32.not_le.mpr (by assumption)) | exact absurd z.2 (Int32.not_le.mpr (by assumption))))), (fun a k na => by rw [ih13_22 a k, if_neg (fun z => na (Or.inr (Or.inr (Or.inr (Or.inr (Or.inr (Or.inr (Or.inr (Or.inr (Or.inr (Or.inr (Or.inr (Or.inr (Or.inr (Or.inr (Or.inr (z))))))))))))))))), ih12_21 a k, if_neg (fun z => na (Or.inr (Or.inl z))), ih9_4 a k, if_neg (fun z => na (Or.inl z))]), (fun a na => by rw [ah13_22 a, ah12_21 a, ah9_4 a])⟩⟩
          · skip
            refine l_gI (e := ((x_lk t n (vI h (v0 + 1) 1)) - 48)) (by rw [ih13_22 v1 2, if_pos ⟨rfl, rfl⟩]) ?_
            refine l_sI Th13_22 kv1 (by decide) rfl ?_
            intro h21_26 Th21_26 ih21_26 ah21_26
            refine l_gR Th21_26 (d_Pa_0 Th21_26 kv0) ?_
            refine l_gI (e := ((vI h (v0 + 1) 1) + 1)) (by rw [ih21_26 (v0 + 1) 1, if_neg (fun z => absurd z.2 (by decide)), ih13_22 (v0 + 1) 1, if_neg (fun z => absurd z.2 (by decide)), ih12_21 (v0 + 1) 1, if_neg (fun z => absurd z.1 (by omega)), ih9_4 (v0 + 1) 1, if_pos ⟨rfl, rfl⟩]) ?_
            refine l_sI Th21_26 kpc (by decide) rfl ?_
            intro h24_27 Th24_27 ih24_27 ah24_27
            refine qi_some ?_
            exact ⟨_, Th24_27, (fun a k na => by rfl), Or.inl ⟨rfl, (by show x_adr t n (vI h (v0 + 1) 1) = some (vI h24_27 (v0 + 1) 1); rw [show vI h24_27 (v0 + 1) 1 = (((vI h (v0 + 1) 1) + 1) + 1) from (by rw [ih24_27 (v0 + 1) 1, if_pos ⟨rfl, rfl⟩])] <;> ((try simp only [Int32.add_zero, x_s11, x_s12, x_s21, x_s13, x_s22, x_s31]) <;> (exact x_adrd1 (by assumption) (by assumption) (by assumption) ⟨Int32.not_lt.mp (by assumption), Int32.not_lt.mp (by assumption)⟩))), (fun a k na => by rw [ih24_27 a k, if_neg (fun z => na (Or.inl z)), ih21_26 a k, if_neg (fun z => na (Or.inr (Or.inr (Or.inr (Or.inr (Or.inr (Or.inr (Or.inr (Or.inr (Or.inr (Or.inr (Or.inr (Or.inr (Or.inr (Or.inr (Or.inr (z))))))))))))))))), ih13_22 a k, if_neg (fun z => na (Or.inr (Or.inr (Or.inr (Or.inr (Or.inr (Or.inr (Or.inr (Or.inr (Or.inr (Or.inr (Or.inr (Or.inr (Or.inr (Or.inr (Or.inr (z))))))))))))))))), ih12_21 a k, if_neg (fun z => na (Or.inr (Or.inl z))), ih9_4 a k, if_neg (fun z => na (Or.inl z))]), (fun a na => by rw [ah24_27 a, ah21_26 a, ah13_22 a, ah12_21 a, ah9_4 a])⟩⟩
  · try dsimp only
    refine qi_if (fun _ => ?_) (fun cc28 => absurd (by decide) cc28)
    refine l_gR T (d_Pa_0 T kv0) ?_
    refine l_gO ?_
    refine j_Cur_refuse (v0 := (v0 + 1)) (v1 := (0 : Int32)) T kpc ?_
    · intro hr36_29 Thr36_29
      try dsimp only
      refine qi_zB (fun zb30 => ?_)
      refine qi_some ?_
      exact ⟨_, Thr36_29, (fun a k na => by rfl), Or.inr ⟨rfl, (by show x_adr t n (vI h (v0 + 1) 1) = none; exact x_adrn (by assumption))⟩⟩
theorem j_Pa_readAddress {L : q_L} {π : Nat → Nat → Option Nat} {N : Nat} {pg : Nat} {t : Int32 → Int32} {n : Int32} {h : z_H} {v0 : Nat} {v1 : Nat} {β : Type} {f : Int32 × z_H → Option β} {Q : β → Prop} (T : x_U L π h) (kv0 : qκ L v0 = 7) (kv1 : qκ L v1 = 1) (kpg : qκ L pg = 10) (ppg : π v0 5 = some pg) (ptx : π (v0 + 1) 0 = some (pg + 1)) (ppc : π (v0 + 2) 0 = some (v0 + 1)) (ht : ∀ j, 0 ≤ j → j < n → vA h ((pg + 1) + 1) j = t j) (hn : vI h (pg + 1) 1 = n) (n1 : n ≤ 240) (tp : ∀ j, t j ≠ -1) (D : v0 + 5 ≤ pg) (a0 : 0 ≤ vI h (v0 + 1) 1) (hv : pg + 9 ≤ v1 ∧ v1 + 2 ≤ pg + 249) (H1 : ∀ π1 h', x_U L π1 h' → (∀ a k, ¬ ((a = (v0 + 2) ∧ k = 1) ∨ (a = (v0 + 2) ∧ k = 2)) → π1 a k = π a k) → (x_adr t n (vI h (v0 + 1) 1) = some (vI h' (v0 + 1) 1)) → (∀ a k, ¬ ((a = (v0 + 1) ∧ k = 1) ∨ (a = v1 ∧ k = 1) ∨ (a = (v1 + 1) ∧ k = 2) ∨ (a = (v1 + 1) ∧ k = 6) ∨ (a = (v1 + 1) ∧ k = 1) ∨ (a = (v1 + 1) ∧ k = 0) ∨ (a = (v0 + 2) ∧ k = 3) ∨ (a = (v0 + 2) ∧ k = 4) ∨ (a = (v0 + 2) ∧ k = 5) ∨ (a = (v0 + 2) ∧ k = 6) ∨ (a = (v1 + 1) ∧ k = 3) ∨ (a = (v1 + 1) ∧ k = 5) ∨ (a = (v1 + 1) ∧ k = 4) ∨ (a = (v0 + 1) ∧ k = 2) ∨ (a = (pg + 3) ∧ k = 4) ∨ (a = v1 ∧ k = 2)) → vI h' a k = vI h a k) → (∀ a, ¬ (a = ((pg + 3) + 1) ∨ a = ((pg + 3) + 2)) → vA h' a = vA h a) → qi (f (1, h')) Q) (H0 : ∀ π1 h', x_U L π1 h' → (∀ a k, ¬ ((a = (v0 + 2) ∧ k = 1) ∨ (a = (v0 + 2) ∧ k = 2)) → π1 a k = π a k) → (x_adr t n (vI h (v0 + 1) 1) = none) → qi (f (0, h')) Q) : qi (z_b (f_Pa_readAddress N v0 v1 h) f) Q := by
  refine qi_b (i_Pa_readAddress  T kv0 kv1 kpg ppg ptx ppc ht hn n1 tp D a0 hv) ?_
  rintro ⟨y, hz⟩ ⟨π1, Tz, q0, ⟨ey, g0, g1, g2⟩ | ⟨ey, g0⟩⟩
  · dsimp only at *; subst ey; exact H1 π1 hz Tz q0 g0 g1 g2
  · dsimp only at *; subst ey; exact H0 π1 hz Tz q0 g0

set_option maxHeartbeats 2000000 in
theorem i_Cmd_reset {L : q_L} {π : Nat → Nat → Option Nat} {N : Nat} {h : z_H} {v0 : Nat} (T : x_U L π h) (kv0 : qκ L v0 = 2)  : qi (f_Cmd_reset N v0 h) (fun r => x_U L π r ∧ (vI r v0 5 = 0) ∧ (vI r v0 6 = 0) ∧ (vI r v0 8 = -1) ∧ (vI r v0 12 = 0) ∧ (vI r v0 13 = 0) ∧ (vI r v0 14 = 0) ∧ (∀ a k, ¬ ((a = v0 ∧ k = 5) ∨ (a = v0 ∧ k = 6) ∨ (a = v0 ∧ k = 8) ∨ (a = v0 ∧ k = 12) ∨ (a = v0 ∧ k = 13) ∨ (a = v0 ∧ k = 14)) → vI r a k = vI h a k) ∧ (∀ a, ¬ (a < a) → vA r a = vA h a)) := by
  unfold f_Cmd_reset
  refine l_sI T kv0 (by decide) rfl ?_
  intro h1_1 Th1_1 ih1_1 ah1_1
  refine l_sI Th1_1 kv0 (by decide) rfl ?_
  intro h2_2 Th2_2 ih2_2 ah2_2
  refine l_sI Th2_2 kv0 (by decide) rfl ?_
  intro h3_3 Th3_3 ih3_3 ah3_3
  refine l_sI Th3_3 kv0 (by decide) rfl ?_
  intro h4_4 Th4_4 ih4_4 ah4_4
  refine l_sI Th4_4 kv0 (by decide) rfl ?_
  intro h5_5 Th5_5 ih5_5 ah5_5
  refine l_sI Th5_5 kv0 (by decide) rfl ?_
  intro h6_6 Th6_6 ih6_6 ah6_6
  refine qi_some ?_
  exact ⟨Th6_6, (by show vI h6_6 v0 5 = 0; rw [show vI h6_6 v0 5 = 0 from (by rw [ih6_6 v0 5, if_neg (fun z => absurd z.2 (by decide)), ih5_5 v0 5, if_neg (fun z => absurd z.2 (by decide)), ih4_4 v0 5, if_neg (fun z => absurd z.2 (by decide)), ih3_3 v0 5, if_neg (fun z => absurd z.2 (by decide)), ih2_2 v0 5, if_neg (fun z => absurd z.2 (by decide)), ih1_1 v0 5, if_pos ⟨rfl, rfl⟩])] <;> (first | assumption | with_reducible rfl | grind)), (by show vI h6_6 v0 6 = 0; rw [show vI h6_6 v0 6 = 0 from (by rw [ih6_6 v0 6, if_neg (fun z => absurd z.2 (by decide)), ih5_5 v0 6, if_neg (fun z => absurd z.2 (by decide)), ih4_4 v0 6, if_neg (fun z => absurd z.2 (by decide)), ih3_3 v0 6, if_neg (fun z => absurd z.2 (by decide)), ih2_2 v0 6, if_pos ⟨rfl, rfl⟩])] <;> (first | assumption | with_reducible rfl | grind)), (by show vI h6_6 v0 8 = -1; rw [show vI h6_6 v0 8 = (-1) from (by rw [ih6_6 v0 8, if_neg (fun z => absurd z.2 (by decide)), ih5_5 v0 8, if_neg (fun z => absurd z.2 (by decide)), ih4_4 v0 8, if_neg (fun z => absurd z.2 (by decide)), ih3_3 v0 8, if_pos ⟨rfl, rfl⟩])] <;> (first | assumption | with_reducible rfl | grind)), (by show vI h6_6 v0 12 = 0; rw [show vI h6_6 v0 12 = 0 from (by rw [ih6_6 v0 12, if_neg (fun z => absurd z.2 (by decide)), ih5_5 v0 12, if_neg (fun z => absurd z.2 (by decide)), ih4_4 v0 12, if_pos ⟨rfl, rfl⟩])] <;> (first | assumption | with_reducible rfl | grind)), (by show vI h6_6 v0 13 = 0; rw [show vI h6_6 v0 13 = 0 from (by rw [ih6_6 v0 13, if_neg (fun z => absurd z.2 (by decide)), ih5_5 v0 13, if_pos ⟨rfl, rfl⟩])] <;> (first | assumption | with_reducible rfl | grind)), (by show vI h6_6 v0 14 = 0; rw [show vI h6_6 v0 14 = 0 from (by rw [ih6_6 v0 14, if_pos ⟨rfl, rfl⟩])] <;> (first | assumption | with_reducible rfl | grind)), (fun a k na => by rw [ih6_6 a k, if_neg (fun z => na (Or.inr (Or.inr (Or.inr (Or.inr (Or.inr (z))))))), ih5_5 a k, if_neg (fun z => na (Or.inr (Or.inr (Or.inr (Or.inr (Or.inl z)))))), ih4_4 a k, if_neg (fun z => na (Or.inr (Or.inr (Or.inr (Or.inl z))))), ih3_3 a k, if_neg (fun z => na (Or.inr (Or.inr (Or.inl z)))), ih2_2 a k, if_neg (fun z => na (Or.inr (Or.inl z))), ih1_1 a k, if_neg (fun z => na (Or.inl z))]), (fun a na => by rw [ah6_6 a, ah5_5 a, ah4_4 a, ah3_3 a, ah2_2 a, ah1_1 a])⟩
theorem j_Cmd_reset {L : q_L} {π : Nat → Nat → Option Nat} {N : Nat} {h : z_H} {v0 : Nat} {β : Type} {f : z_H → Option β} {Q : β → Prop} (T : x_U L π h) (kv0 : qκ L v0 = 2)  (H : ∀ h', x_U L π h' → (vI h' v0 5 = 0) → (vI h' v0 6 = 0) → (vI h' v0 8 = -1) → (vI h' v0 12 = 0) → (vI h' v0 13 = 0) → (vI h' v0 14 = 0) → (∀ a k, ¬ ((a = v0 ∧ k = 5) ∨ (a = v0 ∧ k = 6) ∨ (a = v0 ∧ k = 8) ∨ (a = v0 ∧ k = 12) ∨ (a = v0 ∧ k = 13) ∨ (a = v0 ∧ k = 14)) → vI h' a k = vI h a k) → (∀ a, ¬ (a < a) → vA h' a = vA h a) → qi (f h') Q) : qi (z_b (f_Cmd_reset N v0 h) f) Q := by
  refine qi_b (i_Cmd_reset  T kv0 ) ?_
  rintro hz ⟨Tz, g0, g1, g2, g3, g4, g5, g6, g7⟩
  exact H hz Tz g0 g1 g2 g3 g4 g5 g6 g7

set_option maxHeartbeats 2000000 in
theorem i_Pa_beginCommand {L : q_L} {π : Nat → Nat → Option Nat} {N : Nat} {pg : Nat} {h : z_H} {v0 : Nat} (T : x_U L π h) (kv0 : qκ L v0 = 7) (kpg : qκ L pg = 10) (ppg : π v0 5 = some pg) (D : v0 + 5 ≤ pg) : qi (f_Pa_beginCommand N v0 h) (fun r => ∃ π1, x_U L π1 r.2 ∧ (∀ a k, ¬ ((a = v0 ∧ k = 6)) → π1 a k = π a k) ∧ ((r.1 = 1 ∧ (π1 v0 6 = some (pg + (9 + 6 * Int32.toNatClampNeg (vI h pg 3)))) ∧ (vI r.2 pg 3 = vI h pg 3 + 1) ∧ (vI r.2 (pg + (9 + 6 * Int32.toNatClampNeg (vI h pg 3))) 5 = 0) ∧ (vI r.2 (pg + (9 + 6 * Int32.toNatClampNeg (vI h pg 3))) 6 = 0) ∧ (vI r.2 (pg + (9 + 6 * Int32.toNatClampNeg (vI h pg 3))) 8 = -1) ∧ (vI r.2 (pg + (9 + 6 * Int32.toNatClampNeg (vI h pg 3))) 12 = 0) ∧ (vI r.2 (pg + (9 + 6 * Int32.toNatClampNeg (vI h pg 3))) 13 = 0) ∧ (vI r.2 (pg + (9 + 6 * Int32.toNatClampNeg (vI h pg 3))) 14 = 0) ∧ (¬ vI h pg 3 = 40) ∧ (0 ≤ vI h pg 3) ∧ (vI h pg 3 < 40) ∧ (qκ L (pg + (9 + 6 * Int32.toNatClampNeg (vI h pg 3))) = 2) ∧ (Int32.toNatClampNeg (vI h pg 3) < 40) ∧ (∀ a k, ¬ ((a = (v0 + 1) ∧ k = 2) ∨ (a = (pg + (9 + 6 * Int32.toNatClampNeg (vI h pg 3))) ∧ k = 5) ∨ (a = (pg + (9 + 6 * Int32.toNatClampNeg (vI h pg 3))) ∧ k = 6) ∨ (a = (pg + (9 + 6 * Int32.toNatClampNeg (vI h pg 3))) ∧ k = 8) ∨ (a = (pg + (9 + 6 * Int32.toNatClampNeg (vI h pg 3))) ∧ k = 12) ∨ (a = (pg + (9 + 6 * Int32.toNatClampNeg (vI h pg 3))) ∧ k = 13) ∨ (a = (pg + (9 + 6 * Int32.toNatClampNeg (vI h pg 3))) ∧ k = 14) ∨ (a = pg ∧ k = 3)) → vI r.2 a k = vI h a k) ∧ (∀ a, ¬ (a < a) → vA r.2 a = vA h a)) ∨ (r.1 = 0 ∧ (vI h pg 3 = 40)))) := by
  unfold f_Pa_beginCommand
  refine l_gR T ppg ?_
  refine l_gI (e := (vI h pg 3)) rfl ?_
  refine qi_if (fun cc1 => ?_) (fun cc1 => ?_)
  · skip
    refine l_gR T (d_Pa_0 T kv0) ?_
    have kk2 := e_Pa_0 T kv0
    refine l_gO ?_
    refine j_Cur_refuse (v0 := (v0 + 1)) (v1 := (0 : Int32)) T kk2 ?_
    · intro hr18_3 Thr18_3
      try dsimp only
      refine qi_zB (fun zb4 => ?_)
      refine qi_some ?_
      exact ⟨_, Thr18_3, (fun a k na => by rfl), Or.inr ⟨rfl, (by show vI h pg 3 = 40; first | assumption | with_reducible rfl | grind)⟩⟩
  · skip
    refine l_gR T ppg ?_
    refine l_gR T (d_Prog_2 T kpg) ?_
    refine l_gR T ppg ?_
    refine l_gI (e := (vI h pg 3)) rfl ?_
    refine l_Prog_e8 T kpg ?_
    intro ij5 ik5 kc5
    have in5 := q_clp ij5 ik5
    refine l_Pa_6 (q := (pg + (9 + 6 * Int32.toNatClampNeg (vI h pg 3)))) T kv0 ?_
    intro πh9_6 h9_6 Th9_6 ph9_6 ih9_6 ah9_6
    have pp7 : πh9_6 v0 5 = some pg := by rw [ph9_6, if_neg (by omega)]; exact ppg
    have pp8 : πh9_6 v0 6 = some (pg + (9 + 6 * Int32.toNatClampNeg (vI h pg 3))) := by rw [ph9_6, if_pos ⟨rfl, rfl⟩]
    refine l_gR Th9_6 pp8 ?_
    refine l_gO ?_
    refine j_Cmd_reset (v0 := (pg + (9 + 6 * Int32.toNatClampNeg (vI h pg 3)))) Th9_6 kc5 ?_
    intro hr12_9 Thr12_9 gr12_9_0 gr12_9_1 gr12_9_2 gr12_9_3 gr12_9_4 gr12_9_5 fr12_9_I fr12_9_A
    try dsimp only
    refine l_gR Thr12_9 pp7 ?_
    refine l_gI (e := (vI h pg 3)) (by rw [fr12_9_I pg 3 (by omega), ih9_6 pg 3]) ?_
    refine l_sI Thr12_9 kpg (by decide) rfl ?_
    intro h15_10 Th15_10 ih15_10 ah15_10
    refine qi_some ?_
    exact ⟨_, Th15_10, (fun a k na => by rw [ph9_6 a k, if_neg (by omega)]), Or.inl ⟨rfl, pp8, (by show vI h15_10 pg 3 = vI h pg 3 + 1; rw [show vI h15_10 pg 3 = ((vI h pg 3) + 1) from (by rw [ih15_10 pg 3, if_pos ⟨rfl, rfl⟩])] <;> (first | assumption | with_reducible rfl | grind)), (by show vI h15_10 (pg + (9 + 6 * Int32.toNatClampNeg (vI h pg 3))) 5 = 0; rw [show vI h15_10 (pg + (9 + 6 * Int32.toNatClampNeg (vI h pg 3))) 5 = 0 from (by rw [ih15_10 (pg + (9 + 6 * Int32.toNatClampNeg (vI h pg 3))) 5, if_neg (fun z => absurd z.2 (by decide)), gr12_9_0])] <;> (first | assumption | with_reducible rfl | grind)), (by show vI h15_10 (pg + (9 + 6 * Int32.toNatClampNeg (vI h pg 3))) 6 = 0; rw [show vI h15_10 (pg + (9 + 6 * Int32.toNatClampNeg (vI h pg 3))) 6 = 0 from (by rw [ih15_10 (pg + (9 + 6 * Int32.toNatClampNeg (vI h pg 3))) 6, if_neg (fun z => absurd z.2 (by decide)), gr12_9_1])] <;> (first | assumption | with_reducible rfl | grind)), (by show vI h15_10 (pg + (9 + 6 * Int32.toNatClampNeg (vI h pg 3))) 8 = -1; rw [show vI h15_10 (pg + (9 + 6 * Int32.toNatClampNeg (vI h pg 3))) 8 = (-1) from (by rw [ih15_10 (pg + (9 + 6 * Int32.toNatClampNeg (vI h pg 3))) 8, if_neg (fun z => absurd z.2 (by decide)), gr12_9_2])] <;> (first | assumption | with_reducible rfl | grind)), (by show vI h15_10 (pg + (9 + 6 * Int32.toNatClampNeg (vI h pg 3))) 12 = 0; rw [show vI h15_10 (pg + (9 + 6 * Int32.toNatClampNeg (vI h pg 3))) 12 = 0 from (by rw [ih15_10 (pg + (9 + 6 * Int32.toNatClampNeg (vI h pg 3))) 12, if_neg (fun z => absurd z.2 (by decide)), gr12_9_3])] <;> (first | assumption | with_reducible rfl | grind)), (by show vI h15_10 (pg + (9 + 6 * Int32.toNatClampNeg (vI h pg 3))) 13 = 0; rw [show vI h15_10 (pg + (9 + 6 * Int32.toNatClampNeg (vI h pg 3))) 13 = 0 from (by rw [ih15_10 (pg + (9 + 6 * Int32.toNatClampNeg (vI h pg 3))) 13, if_neg (fun z => absurd z.2 (by decide)), gr12_9_4])] <;> (first | assumption | with_reducible rfl | grind)), (by show vI h15_10 (pg + (9 + 6 * Int32.toNatClampNeg (vI h pg 3))) 14 = 0; rw [show vI h15_10 (pg + (9 + 6 * Int32.toNatClampNeg (vI h pg 3))) 14 = 0 from (by rw [ih15_10 (pg + (9 + 6 * Int32.toNatClampNeg (vI h pg 3))) 14, if_neg (fun z => absurd z.2 (by decide)), gr12_9_5])] <;> (first | assumption | with_reducible rfl | grind)), (by show ¬ vI h pg 3 = 40; first | assumption | with_reducible rfl | grind), (by show 0 ≤ vI h pg 3; first | assumption | with_reducible rfl | grind), (by show vI h pg 3 < 40; first | assumption | with_reducible rfl | grind), (by show qκ L (pg + (9 + 6 * Int32.toNatClampNeg (vI h pg 3))) = 2; first | assumption | with_reducible rfl | grind), (by show Int32.toNatClampNeg (vI h pg 3) < 40; omega), (fun a k na => by rw [ih15_10 a k, if_neg (fun z => na (Or.inr (Or.inr (Or.inr (Or.inr (Or.inr (Or.inr (Or.inr (z))))))))), fr12_9_I a k (fun z => na (z.elim (fun z => Or.inr (Or.inl z)) (fun z => z.elim (fun z => Or.inr (Or.inr (Or.inl z))) (fun z => z.elim (fun z => Or.inr (Or.inr (Or.inr (Or.inl z)))) (fun z => z.elim (fun z => Or.inr (Or.inr (Or.inr (Or.inr (Or.inl z))))) (fun z => z.elim (fun z => Or.inr (Or.inr (Or.inr (Or.inr (Or.inr (Or.inl z)))))) (fun z => Or.inr (Or.inr (Or.inr (Or.inr (Or.inr (Or.inr (Or.inl z))))))))))))), ih9_6 a k]), (fun a na => by rw [ah15_10 a, fr12_9_A a (by omega), ah9_6 a])⟩⟩
theorem j_Pa_beginCommand {L : q_L} {π : Nat → Nat → Option Nat} {N : Nat} {pg : Nat} {h : z_H} {v0 : Nat} {β : Type} {f : Int32 × z_H → Option β} {Q : β → Prop} (T : x_U L π h) (kv0 : qκ L v0 = 7) (kpg : qκ L pg = 10) (ppg : π v0 5 = some pg) (D : v0 + 5 ≤ pg) (H1 : ∀ π1 h', x_U L π1 h' → (∀ a k, ¬ ((a = v0 ∧ k = 6)) → π1 a k = π a k) → (π1 v0 6 = some (pg + (9 + 6 * Int32.toNatClampNeg (vI h pg 3)))) → (vI h' pg 3 = vI h pg 3 + 1) → (vI h' (pg + (9 + 6 * Int32.toNatClampNeg (vI h pg 3))) 5 = 0) → (vI h' (pg + (9 + 6 * Int32.toNatClampNeg (vI h pg 3))) 6 = 0) → (vI h' (pg + (9 + 6 * Int32.toNatClampNeg (vI h pg 3))) 8 = -1) → (vI h' (pg + (9 + 6 * Int32.toNatClampNeg (vI h pg 3))) 12 = 0) → (vI h' (pg + (9 + 6 * Int32.toNatClampNeg (vI h pg 3))) 13 = 0) → (vI h' (pg + (9 + 6 * Int32.toNatClampNeg (vI h pg 3))) 14 = 0) → (¬ vI h pg 3 = 40) → (0 ≤ vI h pg 3) → (vI h pg 3 < 40) → (qκ L (pg + (9 + 6 * Int32.toNatClampNeg (vI h pg 3))) = 2) → (Int32.toNatClampNeg (vI h pg 3) < 40) → (∀ a k, ¬ ((a = (v0 + 1) ∧ k = 2) ∨ (a = (pg + (9 + 6 * Int32.toNatClampNeg (vI h pg 3))) ∧ k = 5) ∨ (a = (pg + (9 + 6 * Int32.toNatClampNeg (vI h pg 3))) ∧ k = 6) ∨ (a = (pg + (9 + 6 * Int32.toNatClampNeg (vI h pg 3))) ∧ k = 8) ∨ (a = (pg + (9 + 6 * Int32.toNatClampNeg (vI h pg 3))) ∧ k = 12) ∨ (a = (pg + (9 + 6 * Int32.toNatClampNeg (vI h pg 3))) ∧ k = 13) ∨ (a = (pg + (9 + 6 * Int32.toNatClampNeg (vI h pg 3))) ∧ k = 14) ∨ (a = pg ∧ k = 3)) → vI h' a k = vI h a k) → (∀ a, ¬ (a < a) → vA h' a = vA h a) → qi (f (1, h')) Q) (H0 : ∀ π1 h', x_U L π1 h' → (∀ a k, ¬ ((a = v0 ∧ k = 6)) → π1 a k = π a k) → (vI h pg 3 = 40) → qi (f (0, h')) Q) : qi (z_b (f_Pa_beginCommand N v0 h) f) Q := by
  refine qi_b (i_Pa_beginCommand  T kv0 kpg ppg D) ?_
  rintro ⟨y, hz⟩ ⟨π1, Tz, q0, ⟨ey, g0, g1, g2, g3, g4, g5, g6, g7, g8, g9, g10, g11, g12, g13, g14⟩ | ⟨ey, g0⟩⟩
  · dsimp only at *; subst ey; exact H1 π1 hz Tz q0 g0 g1 g2 g3 g4 g5 g6 g7 g8 g9 g10 g11 g12 g13 g14
  · dsimp only at *; subst ey; exact H0 π1 hz Tz q0 g0

set_option maxHeartbeats 2000000 in
theorem i_Pa_readAddresses_88 {L : q_L} {π : Nat → Nat → Option Nat} {N : Nat} {pg : Nat} {cm : Nat} {t : Int32 → Int32} {n : Int32} {h : z_H} {v0 : Nat} (T : x_U L π h) (kv0 : qκ L v0 = 7) (kpg : qκ L pg = 10) (ppg : π v0 5 = some pg) (kcm : qκ L cm = 2) (pcm : π v0 6 = some cm) (ptx : π (v0 + 1) 0 = some (pg + 1)) (ht : ∀ j, 0 ≤ j → j < n → vA h ((pg + 1) + 1) j = t j) (hn : vI h (pg + 1) 1 = n) (n1 : n ≤ 240) (tp : ∀ j, t j ≠ -1) (D : v0 + 5 ≤ pg) (hc : pg + 9 ≤ cm ∧ cm + 6 ≤ pg + 249) (a0 : 0 ≤ vI h (v0 + 1) 1) (i6 : vI h cm 6 = 0) : qi (f_Pa_readAddresses_88 N v0 h) (fun r => x_U L π r.2 ∧ r.1 = 1 ∧ (vI r.2 (v0 + 1) 1 = (x_neg t n (vI h (v0 + 1) 1)).1) ∧ (vI r.2 cm 6 = (x_neg t n (vI h (v0 + 1) 1)).2) ∧ (∀ a k, ¬ ((a = (v0 + 1) ∧ k = 1) ∨ (a = cm ∧ k = 6)) → vI r.2 a k = vI h a k) ∧ (∀ a, ¬ (a < a) → vA r.2 a = vA h a)) := by
  have n2 : n ≤ 1000 := Int32.le_trans n1 (by decide)
  have ktx := e_Prog_0 T kpg
  unfold f_Pa_readAddresses_88
  refine l_gO ?_
  refine j_Pa_passBlanks (v0 := v0) (pg := pg) (t := t) (n := n) T kv0 kpg ppg ptx ht hn n1 tp D a0 ?_
  intro hr2_1 Thr2_1 gr2_1_0 fr2_1_I fr2_1_A
  try dsimp only
  refine l_gR Thr2_1 (d_Pa_0 Thr2_1 kv0) ?_
  have kk2 := e_Pa_0 Thr2_1 kv0
  refine l_gO ?_
  refine j_Cur_look (v0 := (v0 + 1)) (v1 := (0 : Int32)) (tx := (pg + 1)) (t := t) (n := n) (e := (x_lk t n ((x_bl t n (vI h (v0 + 1) 1))))) Thr2_1 kk2 ktx ptx (by show ∀ j, 0 ≤ j → j < n → vA hr2_1 ((pg + 1) + 1) j = t j; rw [show vA hr2_1 ((pg + 1) + 1) = vA h ((pg + 1) + 1) from (by rw [fr2_1_A ((pg + 1) + 1) (by omega)])] <;> ((try simp only [Int32.add_zero, x_s11, x_s12, x_s21, x_s13, x_s22, x_s31]) <;> (first | assumption | with_reducible rfl | grind))) (by show vI hr2_1 (pg + 1) 1 = n; rw [show vI hr2_1 (pg + 1) 1 = (vI h (pg + 1) 1) from (by rw [fr2_1_I (pg + 1) 1 (by omega)])] <;> (first | assumption | with_reducible rfl | grind)) (by rw [show vI hr2_1 (v0 + 1) 1 = (x_bl t n (vI h (v0 + 1) 1)) from (by rw [gr2_1_0])]; try simp only [Int32.add_zero, x_s11, x_s12, x_s21, x_s13, x_s22, x_s31]) ?_
  try dsimp only
  refine qi_if (fun cc4 => ?_) (fun cc4 => ?_)
  · skip
    refine l_gR Thr2_1 pcm ?_
    refine l_sI Thr2_1 kcm (by decide) rfl ?_
    intro h8_5 Th8_5 ih8_5 ah8_5
    refine l_gR Th8_5 (d_Pa_0 Th8_5 kv0) ?_
    refine l_gI (e := (x_bl t n (vI h (v0 + 1) 1))) (by rw [ih8_5 (v0 + 1) 1, if_neg (fun z => absurd z.2 (by decide)), gr2_1_0]) ?_
    refine l_sI Th8_5 kk2 (by decide) rfl ?_
    intro h11_6 Th11_6 ih11_6 ah11_6
    refine l_gO ?_
    refine j_Pa_passBlanks (v0 := v0) (pg := pg) (t := t) (n := n) Th11_6 kv0 kpg ppg ptx (by show ∀ j, 0 ≤ j → j < n → vA h11_6 ((pg + 1) + 1) j = t j; rw [show vA h11_6 ((pg + 1) + 1) = vA h ((pg + 1) + 1) from (by rw [ah11_6 ((pg + 1) + 1), ah8_5 ((pg + 1) + 1), fr2_1_A ((pg + 1) + 1) (by omega)])] <;> ((try simp only [Int32.add_zero, x_s11, x_s12, x_s21, x_s13, x_s22, x_s31]) <;> (first | assumption | with_reducible rfl | grind))) (by show vI h11_6 (pg + 1) 1 = n; rw [show vI h11_6 (pg + 1) 1 = (vI h (pg + 1) 1) from (by rw [ih11_6 (pg + 1) 1, if_neg (fun z => absurd z.1 (by omega)), ih8_5 (pg + 1) 1, if_neg (fun z => absurd z.2 (by decide)), fr2_1_I (pg + 1) 1 (by omega)])] <;> (first | assumption | with_reducible rfl | grind)) n1 tp D (by show 0 ≤ vI h11_6 (v0 + 1) 1; rw [show vI h11_6 (v0 + 1) 1 = ((x_bl t n (vI h (v0 + 1) 1)) + 1) from (by rw [ih11_6 (v0 + 1) 1, if_pos ⟨rfl, rfl⟩])] <;> (exact x_0le (x_blle a0) (x_lp1 n2 (t := t) (x_ne (by assumption))))) ?_
    intro hr13_7 Thr13_7 gr13_7_0 fr13_7_I fr13_7_A
    try dsimp only
    rw [show vI h11_6 (v0 + 1) 1 = ((x_bl t n (vI h (v0 + 1) 1)) + 1) from (by rw [ih11_6 (v0 + 1) 1, if_pos ⟨rfl, rfl⟩])] at gr13_7_0
    refine qi_some ?_
    exact ⟨Thr13_7, ⟨rfl, (by show vI hr13_7 (v0 + 1) 1 = (x_neg t n (vI h (v0 + 1) 1)).1; rw [show vI hr13_7 (v0 + 1) 1 = (x_bl t n ((x_bl t n (vI h (v0 + 1) 1)) + 1)) from (by rw [gr13_7_0])] <;> (first | (rw [x_neg1 (by assumption)]) | (rw [x_neg0 (by assumption)]))), (by show vI hr13_7 cm 6 = (x_neg t n (vI h (v0 + 1) 1)).2; rw [show vI hr13_7 cm 6 = 1 from (by rw [fr13_7_I cm 6 (by omega), ih11_6 cm 6, if_neg (fun z => absurd z.2 (by decide)), ih8_5 cm 6, if_pos ⟨rfl, rfl⟩])] <;> (first | (rw [x_neg1 (by assumption)]) | (rw [x_neg0 (by assumption)]; exact i6))), (fun a k na => by rw [fr13_7_I a k (fun z => na (Or.inl z)), ih11_6 a k, if_neg (fun z => na (Or.inl z)), ih8_5 a k, if_neg (fun z => na (Or.inr (z))), fr2_1_I a k (fun z => na (Or.inl z))]), (fun a na => by rw [fr13_7_A a (by omega), ah11_6 a, ah8_5 a, fr2_1_A a (by omega)])⟩⟩
  · skip
    refine qi_some ?_
    exact ⟨Thr2_1, ⟨rfl, (by show vI hr2_1 (v0 + 1) 1 = (x_neg t n (vI h (v0 + 1) 1)).1; rw [show vI hr2_1 (v0 + 1) 1 = (x_bl t n (vI h (v0 + 1) 1)) from (by rw [gr2_1_0])] <;> (first | (rw [x_neg1 (by assumption)]) | (rw [x_neg0 (by assumption)]))), (by show vI hr2_1 cm 6 = (x_neg t n (vI h (v0 + 1) 1)).2; rw [show vI hr2_1 cm 6 = (vI h cm 6) from (by rw [fr2_1_I cm 6 (by omega)])] <;> (first | (rw [x_neg1 (by assumption)]) | (rw [x_neg0 (by assumption)]; exact i6))), (fun a k na => by rw [fr2_1_I a k (fun z => na (Or.inl z))]), (fun a na => by rw [fr2_1_A a (by omega)])⟩⟩
theorem j_Pa_readAddresses_88 {L : q_L} {π : Nat → Nat → Option Nat} {N : Nat} {pg : Nat} {cm : Nat} {t : Int32 → Int32} {n : Int32} {h : z_H} {v0 : Nat} {β : Type} {f : Int32 × z_H → Option β} {Q : β → Prop} (T : x_U L π h) (kv0 : qκ L v0 = 7) (kpg : qκ L pg = 10) (ppg : π v0 5 = some pg) (kcm : qκ L cm = 2) (pcm : π v0 6 = some cm) (ptx : π (v0 + 1) 0 = some (pg + 1)) (ht : ∀ j, 0 ≤ j → j < n → vA h ((pg + 1) + 1) j = t j) (hn : vI h (pg + 1) 1 = n) (n1 : n ≤ 240) (tp : ∀ j, t j ≠ -1) (D : v0 + 5 ≤ pg) (hc : pg + 9 ≤ cm ∧ cm + 6 ≤ pg + 249) (a0 : 0 ≤ vI h (v0 + 1) 1) (i6 : vI h cm 6 = 0) (H1 : ∀ h', x_U L π h' → (vI h' (v0 + 1) 1 = (x_neg t n (vI h (v0 + 1) 1)).1) → (vI h' cm 6 = (x_neg t n (vI h (v0 + 1) 1)).2) → (∀ a k, ¬ ((a = (v0 + 1) ∧ k = 1) ∨ (a = cm ∧ k = 6)) → vI h' a k = vI h a k) → (∀ a, ¬ (a < a) → vA h' a = vA h a) → qi (f (1, h')) Q) : qi (z_b (f_Pa_readAddresses_88 N v0 h) f) Q := by
  refine qi_b (i_Pa_readAddresses_88  T kv0 kpg ppg kcm pcm ptx ht hn n1 tp D hc a0 i6) ?_
  rintro ⟨y, hz⟩ ⟨Tz, ey, g0, g1, g2, g3⟩
  · dsimp only at *; subst ey; exact H1 hz Tz g0 g1 g2 g3

