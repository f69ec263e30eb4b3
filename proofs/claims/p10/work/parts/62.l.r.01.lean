set_option maxHeartbeats 4000000 in
theorem i_Mod_escaped {L : q_L} {π : Nat → Nat → Option Nat} {N : Nat} {t : Int32 → Int32} {n : Int32} {h : z_H} {v0 : Nat} {v1 : Int32} (T : x_U L π h) (kv0 : q_M L π v0) (ht : ∀ j, 0 ≤ j → j < n → vA h (v0 + 1) j = t j) (hn : vI h v0 3 = n) (n1 : n ≤ 240) (tp : ∀ j, t j ≠ -1) (bd : vI h v0 48 = 0) (gb : 0 ≤ vI h v0 44 ∧ vI h v0 44 ≤ 3) (a0 : 0 ≤ vI h v0 41) (c : x_lk t n (vI h v0 41) = 92) : qi (f_Mod_escaped N v0 v1 h) (fun r => x_U L π r ∧ (((vI r v0 48 = 0) ∧ (x_pat t n (vI h v0 41) (vI h v0 46) (vI h v0 45) (vI h v0 44) (vI h v0 49) (vI h v0 50) = x_pat t n (vI r v0 41) (vI r v0 46) (vI r v0 45) (vI r v0 44) (vI r v0 49) (vI r v0 50)) ∧ (vI h v0 41 < vI r v0 41) ∧ (0 ≤ vI r v0 44 ∧ vI r v0 44 ≤ 3) ∧ (∀ a k, ¬ ((a = v0 ∧ k = 5) ∨ (a = v0 ∧ k = 48) ∨ (a = v0 ∧ k = 41) ∨ (a = v0 ∧ k = 50) ∨ (a = v0 ∧ k = 46) ∨ (a = v0 ∧ k = 49) ∨ (a = v0 ∧ k = 44)) → vI r a k = vI h a k) ∧ (∀ a, ¬ (a = (v0 + 26) ∨ a = (v0 + 27) ∨ a = (v0 + 29) ∨ a = (v0 + 21)) → vA r a = vA h a)) ∨ ((¬ vI r v0 48 = 0) ∧ (x_pat t n (vI h v0 41) (vI h v0 46) (vI h v0 45) (vI h v0 44) (vI h v0 49) (vI h v0 50) = none) ∧ (∀ a k, ¬ ((a = v0 ∧ k = 5) ∨ (a = v0 ∧ k = 48) ∨ (a = v0 ∧ k = 41) ∨ (a = v0 ∧ k = 50) ∨ (a = v0 ∧ k = 46) ∨ (a = v0 ∧ k = 49) ∨ (a = v0 ∧ k = 44)) → vI r a k = vI h a k) ∧ (∀ a, ¬ (a = (v0 + 26) ∨ a = (v0 + 27) ∨ a = (v0 + 29) ∨ a = (v0 + 21)) → vA r a = vA h a)))) := by
  have n2 : n ≤ 1000 := Int32.le_trans n1 (by decide)
  unfold f_Mod_escaped
  refine l_gO ?_
  refine j_Mod_behind (v0 := v0) (t := t) (n := n) (e := (x_lk t n (vI h v0 41 + 1))) T kv0 ht hn rfl ?_
  try dsimp only
  refine qi_bs ?_
  refine qi_if (fun cc2 => ?_) (fun cc2 => ?_)
  · skip
    refine l_gI (e := (vI h v0 46)) rfl ?_
    refine qi_if (fun cc3 => ?_) (fun cc3 => ?_)
    · skip
      refine l_gI (e := (vI h v0 49)) rfl ?_
      refine qi_if (fun cc4 => ?_) (fun cc4 => ?_)
      · skip
        refine l_gI (e := (vI h v0 44)) rfl ?_
        refine qi_if (fun cc5 => ?_) (fun cc5 => ?_)
        · skip
          unfold f_Mod_escaped_43
          refine l_gO ?_
          refine j_Mod_wrong (v0 := v0) (v1 := v1) T kv0 ?_
          intro hr2i6_7 Thr2i6_7 gr2i6_7_0 fr2i6_7_I fr2i6_7_A
          try dsimp only
          refine qi_some ?_
          exact ⟨Thr2i6_7, Or.inr ⟨(by show ¬ vI hr2i6_7 v0 48 = 0; rw [show vI hr2i6_7 v0 48 = 1 from (by rw [gr2i6_7_0])] <;> (first | assumption | decide)), (by show x_pat t n (vI h v0 41) (vI h v0 46) (vI h v0 45) (vI h v0 44) (vI h v0 49) (vI h v0 50) = none; rw [x_q92 n2 c, cc2, if_neg (by decide), if_neg (by decide), if_neg (by decide), if_neg (by decide)]), (fun a k na => by rw [fr2i6_7_I a k (fun z => na (z.elim (fun z => Or.inl z) (fun z => Or.inr (Or.inl z))))]), (fun a na => by rw [fr2i6_7_A a (by omega)])⟩⟩
        · skip
          refine l_gI (e := (vI h v0 3)) rfl ?_
          unfold f_Mod_escaped_43
          refine l_gO ?_
          refine j_Mod_wrong (v0 := v0) (v1 := (vI h v0 3)) T kv0 ?_
          intro hr2i8_9 Thr2i8_9 gr2i8_9_0 fr2i8_9_I fr2i8_9_A
          try dsimp only
          refine qi_some ?_
          exact ⟨Thr2i8_9, Or.inr ⟨(by show ¬ vI hr2i8_9 v0 48 = 0; rw [show vI hr2i8_9 v0 48 = 1 from (by rw [gr2i8_9_0])] <;> (first | assumption | decide)), (by show x_pat t n (vI h v0 41) (vI h v0 46) (vI h v0 45) (vI h v0 44) (vI h v0 49) (vI h v0 50) = none; rw [x_q92 n2 c, cc2, if_neg (by decide), if_neg (by decide), if_neg (by decide), if_neg (by decide)]), (fun a k na => by rw [fr2i8_9_I a k (fun z => na (z.elim (fun z => Or.inl z) (fun z => Or.inr (Or.inl z))))]), (fun a na => by rw [fr2i8_9_A a (by omega)])⟩⟩
      · skip
        refine l_gI (e := (vI h v0 3)) rfl ?_
        unfold f_Mod_escaped_43
        refine l_gO ?_
        refine j_Mod_wrong (v0 := v0) (v1 := (vI h v0 3)) T kv0 ?_
        intro hr2i10_11 Thr2i10_11 gr2i10_11_0 fr2i10_11_I fr2i10_11_A
        try dsimp only
        refine qi_some ?_
        exact ⟨Thr2i10_11, Or.inr ⟨(by show ¬ vI hr2i10_11 v0 48 = 0; rw [show vI hr2i10_11 v0 48 = 1 from (by rw [gr2i10_11_0])] <;> (first | assumption | decide)), (by show x_pat t n (vI h v0 41) (vI h v0 46) (vI h v0 45) (vI h v0 44) (vI h v0 49) (vI h v0 50) = none; rw [x_q92 n2 c, cc2, if_neg (by decide), if_neg (by decide), if_neg (by decide), if_neg (by decide)]), (fun a k na => by rw [fr2i10_11_I a k (fun z => na (z.elim (fun z => Or.inl z) (fun z => Or.inr (Or.inl z))))]), (fun a na => by rw [fr2i10_11_A a (by omega)])⟩⟩
    · skip
      refine l_gI (e := (vI h v0 3)) rfl ?_
      unfold f_Mod_escaped_43
      refine l_gO ?_
      refine j_Mod_wrong (v0 := v0) (v1 := (vI h v0 3)) T kv0 ?_
      intro hr2i12_13 Thr2i12_13 gr2i12_13_0 fr2i12_13_I fr2i12_13_A
      try dsimp only
      refine qi_some ?_
      exact ⟨Thr2i12_13, Or.inr ⟨(by show ¬ vI hr2i12_13 v0 48 = 0; rw [show vI hr2i12_13 v0 48 = 1 from (by rw [gr2i12_13_0])] <;> (first | assumption | decide)), (by show x_pat t n (vI h v0 41) (vI h v0 46) (vI h v0 45) (vI h v0 44) (vI h v0 49) (vI h v0 50) = none; rw [x_q92 n2 c, cc2, if_neg (by decide), if_neg (by decide), if_neg (by decide), if_neg (by decide)]), (fun a k na => by rw [fr2i12_13_I a k (fun z => na (z.elim (fun z => Or.inl z) (fun z => Or.inr (Or.inl z))))]), (fun a na => by rw [fr2i12_13_A a (by omega)])⟩⟩
  · skip
    refine qi_if (fun cc14 => ?_) (fun cc14 => ?_)
    · skip
      refine l_gI (e := (vI h v0 49)) rfl ?_
      refine qi_if (fun cc15 => ?_) (fun cc15 => ?_)
      · skip
        refine l_gI (e := (vI h v0 44)) rfl ?_
        refine qi_if (fun cc16 => ?_) (fun cc16 => ?_)
        · skip
          unfold f_Mod_escaped_68
          refine l_gO ?_
          refine j_Mod_wrong (v0 := v0) (v1 := v1) T kv0 ?_
          intro hr2i17_18 Thr2i17_18 gr2i17_18_0 fr2i17_18_I fr2i17_18_A
          try dsimp only
          unfold f_Mod_escaped_263
          refine l_gI (e := (vI h v0 41)) (by rw [fr2i17_18_I v0 41 (by omega)]) ?_
          refine l_sI Thr2i17_18 (q_Mk kv0) (by decide) rfl ?_
          intro h2i19_20 Th2i19_20 ih2i19_20 ah2i19_20
          refine qi_some ?_
          exact ⟨Th2i19_20, Or.inr ⟨(by show ¬ vI h2i19_20 v0 48 = 0; rw [show vI h2i19_20 v0 48 = 1 from (by rw [ih2i19_20 v0 48, if_neg (fun z => absurd z.2 (by decide)), gr2i17_18_0])] <;> (first | assumption | decide)), (by show x_pat t n (vI h v0 41) (vI h v0 46) (vI h v0 45) (vI h v0 44) (vI h v0 49) (vI h v0 50) = none; rw [x_q92 n2 c, cc14, if_pos rfl, if_neg (by (first | grind (ematch := 0) | grind))]), (fun a k na => by rw [ih2i19_20 a k, if_neg (fun z => na (Or.inr (Or.inr (Or.inl z)))), fr2i17_18_I a k (fun z => na (z.elim (fun z => Or.inl z) (fun z => Or.inr (Or.inl z))))]), (fun a na => by rw [ah2i19_20 a, fr2i17_18_A a (by omega)])⟩⟩
        · skip
          refine l_gI (e := (vI h v0 44)) rfl ?_
          refine l_gO ?_
          refine j_Mod_addItem (v0 := v0) (v1 := (4 : Int32)) (v2 := ((vI h v0 44) + 1)) (v3 := v1) T kv0 bd ?_ ?_
          · intro hr37_21 Thr37_21 g1r37_21_0 g1r37_21_1 g1r37_21_2 g1r37_21_3 f1r37_21_I f1r37_21_A
            try dsimp only
            rw [if_pos (by decide)] at g1r37_21_1
            rw [if_pos (by decide)] at g1r37_21_2
            refine l_sI Thr37_21 (q_Mk kv0) (by decide) rfl ?_
            intro h38_22 Th38_22 ih38_22 ah38_22
            refine l_gI (e := (vI h v0 44)) (by rw [ih38_22 v0 44, if_neg (fun z => absurd z.2 (by decide)), f1r37_21_I v0 44 (by omega)]) ?_
            refine l_sI Th38_22 (q_Mk kv0) (by decide) rfl ?_
            intro h40_23 Th40_23 ih40_23 ah40_23
            unfold f_Mod_escaped_263
            refine l_gI (e := (vI h v0 41)) (by rw [ih40_23 v0 41, if_neg (fun z => absurd z.2 (by decide)), ih38_22 v0 41, if_neg (fun z => absurd z.2 (by decide)), f1r37_21_I v0 41 (by omega)]) ?_
            refine l_sI Th40_23 (q_Mk kv0) (by decide) rfl ?_
            intro h2i24_25 Th2i24_25 ih2i24_25 ah2i24_25
            refine qi_some ?_
            exact ⟨Th2i24_25, Or.inl ⟨(by show vI h2i24_25 v0 48 = 0; rw [show vI h2i24_25 v0 48 = 0 from (by rw [ih2i24_25 v0 48, if_neg (fun z => absurd z.2 (by decide)), ih40_23 v0 48, if_neg (fun z => absurd z.2 (by decide)), ih38_22 v0 48, if_neg (fun z => absurd z.2 (by decide)), g1r37_21_0])] <;> (first | assumption | with_reducible rfl | grind)), (by show x_pat t n (vI h v0 41) (vI h v0 46) (vI h v0 45) (vI h v0 44) (vI h v0 49) (vI h v0 50) = x_pat t n (vI h2i24_25 v0 41) (vI h2i24_25 v0 46) (vI h2i24_25 v0 45) (vI h2i24_25 v0 44) (vI h2i24_25 v0 49) (vI h2i24_25 v0 50); rw [show vI h2i24_25 v0 41 = ((vI h v0 41) + 2) from (by rw [ih2i24_25 v0 41, if_pos ⟨rfl, rfl⟩]), show vI h2i24_25 v0 46 = (vI h v0 46) from (by rw [ih2i24_25 v0 46, if_neg (fun z => absurd z.2 (by decide)), ih40_23 v0 46, if_neg (fun z => absurd z.2 (by decide)), ih38_22 v0 46, if_neg (fun z => absurd z.2 (by decide)), g1r37_21_1]), show vI h2i24_25 v0 45 = (vI h v0 45) from (by rw [ih2i24_25 v0 45, if_neg (fun z => absurd z.2 (by decide)), ih40_23 v0 45, if_neg (fun z => absurd z.2 (by decide)), ih38_22 v0 45, if_neg (fun z => absurd z.2 (by decide)), f1r37_21_I v0 45 (by omega)]), show vI h2i24_25 v0 44 = ((vI h v0 44) + 1) from (by rw [ih2i24_25 v0 44, if_neg (fun z => absurd z.2 (by decide)), ih40_23 v0 44, if_pos ⟨rfl, rfl⟩]), show vI h2i24_25 v0 49 = 1 from (by rw [ih2i24_25 v0 49, if_neg (fun z => absurd z.2 (by decide)), ih40_23 v0 49, if_neg (fun z => absurd z.2 (by decide)), ih38_22 v0 49, if_pos ⟨rfl, rfl⟩]), show vI h2i24_25 v0 50 = 0 from (by rw [ih2i24_25 v0 50, if_neg (fun z => absurd z.2 (by decide)), ih40_23 v0 50, if_neg (fun z => absurd z.2 (by decide)), ih38_22 v0 50, if_neg (fun z => absurd z.2 (by decide)), g1r37_21_2])] <;> (rw [x_q92 n2 c, cc14, if_pos rfl, if_pos (by (first | grind (ematch := 0) | grind))])), (by show vI h v0 41 < vI h2i24_25 v0 41; rw [show vI h2i24_25 v0 41 = ((vI h v0 41) + 2) from (by rw [ih2i24_25 v0 41, if_pos ⟨rfl, rfl⟩])] <;> (exact x_lp2 n2 (by rw [c]; decide))), (by show 0 ≤ vI h2i24_25 v0 44 ∧ vI h2i24_25 v0 44 ≤ 3; rw [show vI h2i24_25 v0 44 = ((vI h v0 44) + 1) from (by rw [ih2i24_25 v0 44, if_neg (fun z => absurd z.2 (by decide)), ih40_23 v0 44, if_pos ⟨rfl, rfl⟩])] <;> (exact x_g3 gb (by assumption))), (fun a k na => by rw [ih2i24_25 a k, if_neg (fun z => na (Or.inr (Or.inr (Or.inl z)))), ih40_23 a k, if_neg (fun z => na (Or.inr (Or.inr (Or.inr (Or.inr (Or.inr (Or.inr (z)))))))), ih38_22 a k, if_neg (fun z => na (Or.inr (Or.inr (Or.inr (Or.inr (Or.inr (Or.inl z))))))), f1r37_21_I a k (fun z => na (z.elim (fun z => Or.inr (Or.inr (Or.inr (Or.inl z)))) (fun z => z.elim (fun z => Or.inl z) (fun z => z.elim (fun z => Or.inr (Or.inl z)) (fun z => Or.inr (Or.inr (Or.inr (Or.inr (Or.inl z)))))))))]), (fun a na => by rw [ah2i24_25 a, ah40_23 a, ah38_22 a, f1r37_21_A a (fun z => na (z.elim (fun z => Or.inl z) (fun z => z.elim (fun z => Or.inr (Or.inl z)) (fun z => z.elim (fun z => Or.inr (Or.inr (Or.inl z))) (fun z => Or.inr (Or.inr (Or.inr (z))))))))])⟩⟩
          · intro hr37_21 Thr37_21 g0r37_21_0 g0r37_21_1 g0r37_21_2 f0r37_21_I f0r37_21_A
            try dsimp only
            exact absurd (by decide) g0r37_21_1
      · skip
        unfold f_Mod_escaped_68
        refine l_gO ?_
        refine j_Mod_wrong (v0 := v0) (v1 := v1) T kv0 ?_
        intro hr2i26_27 Thr2i26_27 gr2i26_27_0 fr2i26_27_I fr2i26_27_A
        try dsimp only
        unfold f_Mod_escaped_263
        refine l_gI (e := (vI h v0 41)) (by rw [fr2i26_27_I v0 41 (by omega)]) ?_
        refine l_sI Thr2i26_27 (q_Mk kv0) (by decide) rfl ?_
        intro h2i28_29 Th2i28_29 ih2i28_29 ah2i28_29
        refine qi_some ?_
        exact ⟨Th2i28_29, Or.inr ⟨(by show ¬ vI h2i28_29 v0 48 = 0; rw [show vI h2i28_29 v0 48 = 1 from (by rw [ih2i28_29 v0 48, if_neg (fun z => absurd z.2 (by decide)), gr2i26_27_0])] <;> (first | assumption | decide)), (by show x_pat t n (vI h v0 41) (vI h v0 46) (vI h v0 45) (vI h v0 44) (vI h v0 49) (vI h v0 50) = none; rw [x_q92 n2 c, cc14, if_pos rfl, if_neg (by (first | grind (ematch := 0) | grind))]), (fun a k na => by rw [ih2i28_29 a k, if_neg (fun z => na (Or.inr (Or.inr (Or.inl z)))), fr2i26_27_I a k (fun z => na (z.elim (fun z => Or.inl z) (fun z => Or.inr (Or.inl z))))]), (fun a na => by rw [ah2i28_29 a, fr2i26_27_A a (by omega)])⟩⟩
    · skip
      refine qi_if (fun cc30 => ?_) (fun cc30 => ?_)
      · skip
        refine l_gI (e := (vI h v0 49)) rfl ?_
        refine qi_if (fun cc31 => ?_) (fun cc31 => ?_)
        · skip
          refine l_gO ?_
          refine j_Mod_wrong (v0 := v0) (v1 := v1) T kv0 ?_
          intro hr30_32 Thr30_32 gr30_32_0 fr30_32_I fr30_32_A
          try dsimp only
          unfold f_Mod_escaped_137
          refine l_sI Thr30_32 (q_Mk kv0) (by decide) rfl ?_
          intro h1i33_34 Th1i33_34 ih1i33_34 ah1i33_34
          unfold f_Mod_escaped_263
          refine l_gI (e := (vI h v0 41)) (by rw [ih1i33_34 v0 41, if_neg (fun z => absurd z.2 (by decide)), fr30_32_I v0 41 (by omega)]) ?_
          refine l_sI Th1i33_34 (q_Mk kv0) (by decide) rfl ?_
          intro h2i35_36 Th2i35_36 ih2i35_36 ah2i35_36
          refine qi_some ?_
          exact ⟨Th2i35_36, Or.inr ⟨(by show ¬ vI h2i35_36 v0 48 = 0; rw [show vI h2i35_36 v0 48 = 1 from (by rw [ih2i35_36 v0 48, if_neg (fun z => absurd z.2 (by decide)), ih1i33_34 v0 48, if_neg (fun z => absurd z.2 (by decide)), gr30_32_0])] <;> (first | assumption | decide)), (by show x_pat t n (vI h v0 41) (vI h v0 46) (vI h v0 45) (vI h v0 44) (vI h v0 49) (vI h v0 50) = none; rw [x_q92 n2 c, cc30, if_neg (by decide), if_pos rfl, if_pos (by (first | grind (ematch := 0) | grind))]), (fun a k na => by rw [ih2i35_36 a k, if_neg (fun z => na (Or.inr (Or.inr (Or.inl z)))), ih1i33_34 a k, if_neg (fun z => na (Or.inr (Or.inr (Or.inr (Or.inr (Or.inr (Or.inl z))))))), fr30_32_I a k (fun z => na (z.elim (fun z => Or.inl z) (fun z => Or.inr (Or.inl z))))]), (fun a na => by rw [ah2i35_36 a, ah1i33_34 a, fr30_32_A a (by omega)])⟩⟩
        · skip
          refine l_gI (e := (vI h v0 44)) rfl ?_
          refine l_gO ?_
          refine j_Mod_addItem (v0 := v0) (v1 := (5 : Int32)) (v2 := (vI h v0 44)) (v3 := v1) T kv0 bd ?_ ?_
          · intro hr28_37 Thr28_37 g1r28_37_0 g1r28_37_1 g1r28_37_2 g1r28_37_3 f1r28_37_I f1r28_37_A
            try dsimp only
            rw [if_pos (by decide)] at g1r28_37_1
            rw [if_pos (by decide)] at g1r28_37_2
            unfold f_Mod_escaped_137
            refine l_sI Thr28_37 (q_Mk kv0) (by decide) rfl ?_
            intro h1i38_39 Th1i38_39 ih1i38_39 ah1i38_39
            unfold f_Mod_escaped_263
            refine l_gI (e := (vI h v0 41)) (by rw [ih1i38_39 v0 41, if_neg (fun z => absurd z.2 (by decide)), f1r28_37_I v0 41 (by omega)]) ?_
            refine l_sI Th1i38_39 (q_Mk kv0) (by decide) rfl ?_
            intro h2i40_41 Th2i40_41 ih2i40_41 ah2i40_41
            refine qi_some ?_
            exact ⟨Th2i40_41, Or.inl ⟨(by show vI h2i40_41 v0 48 = 0; rw [show vI h2i40_41 v0 48 = 0 from (by rw [ih2i40_41 v0 48, if_neg (fun z => absurd z.2 (by decide)), ih1i38_39 v0 48, if_neg (fun z => absurd z.2 (by decide)), g1r28_37_0])] <;> (first | assumption | with_reducible rfl | grind)), (by show x_pat t n (vI h v0 41) (vI h v0 46) (vI h v0 45) (vI h v0 44) (vI h v0 49) (vI h v0 50) = x_pat t n (vI h2i40_41 v0 41) (vI h2i40_41 v0 46) (vI h2i40_41 v0 45) (vI h2i40_41 v0 44) (vI h2i40_41 v0 49) (vI h2i40_41 v0 50); rw [show vI h2i40_41 v0 41 = ((vI h v0 41) + 2) from (by rw [ih2i40_41 v0 41, if_pos ⟨rfl, rfl⟩]), show vI h2i40_41 v0 46 = (vI h v0 46) from (by rw [ih2i40_41 v0 46, if_neg (fun z => absurd z.2 (by decide)), ih1i38_39 v0 46, if_neg (fun z => absurd z.2 (by decide)), g1r28_37_1]), show vI h2i40_41 v0 45 = (vI h v0 45) from (by rw [ih2i40_41 v0 45, if_neg (fun z => absurd z.2 (by decide)), ih1i38_39 v0 45, if_neg (fun z => absurd z.2 (by decide)), f1r28_37_I v0 45 (by omega)]), show vI h2i40_41 v0 44 = (vI h v0 44) from (by rw [ih2i40_41 v0 44, if_neg (fun z => absurd z.2 (by decide)), ih1i38_39 v0 44, if_neg (fun z => absurd z.2 (by decide)), f1r28_37_I v0 44 (by omega)]), show vI h2i40_41 v0 49 = 0 from (by rw [ih2i40_41 v0 49, if_neg (fun z => absurd z.2 (by decide)), ih1i38_39 v0 49, if_pos ⟨rfl, rfl⟩]), show vI h2i40_41 v0 50 = 0 from (by rw [ih2i40_41 v0 50, if_neg (fun z => absurd z.2 (by decide)), ih1i38_39 v0 50, if_neg (fun z => absurd z.2 (by decide)), g1r28_37_2])] <;> (rw [x_q92 n2 c, cc30, if_neg (by decide), if_pos rfl, if_neg (by (first | grind (ematch := 0) | grind))])), (by show vI h v0 41 < vI h2i40_41 v0 41; rw [show vI h2i40_41 v0 41 = ((vI h v0 41) + 2) from (by rw [ih2i40_41 v0 41, if_pos ⟨rfl, rfl⟩])] <;> (exact x_lp2 n2 (by rw [c]; decide))), (by show 0 ≤ vI h2i40_41 v0 44 ∧ vI h2i40_41 v0 44 ≤ 3; rw [show vI h2i40_41 v0 44 = (vI h v0 44) from (by rw [ih2i40_41 v0 44, if_neg (fun z => absurd z.2 (by decide)), ih1i38_39 v0 44, if_neg (fun z => absurd z.2 (by decide)), f1r28_37_I v0 44 (by omega)])] <;> (exact gb)), (fun a k na => by rw [ih2i40_41 a k, if_neg (fun z => na (Or.inr (Or.inr (Or.inl z)))), ih1i38_39 a k, if_neg (fun z => na (Or.inr (Or.inr (Or.inr (Or.inr (Or.inr (Or.inl z))))))), f1r28_37_I a k (fun z => na (z.elim (fun z => Or.inr (Or.inr (Or.inr (Or.inl z)))) (fun z => z.elim (fun z => Or.inl z) (fun z => z.elim (fun z => Or.inr (Or.inl z)) (fun z => Or.inr (Or.inr (Or.inr (Or.inr (Or.inl z)))))))))]), (fun a na => by rw [ah2i40_41 a, ah1i38_39 a, f1r28_37_A a (fun z => na (z.elim (fun z => Or.inl z) (fun z => z.elim (fun z => Or.inr (Or.inl z)) (fun z => z.elim (fun z => Or.inr (Or.inr (Or.inl z))) (fun z => Or.inr (Or.inr (Or.inr (z))))))))])⟩⟩
          · intro hr28_37 Thr28_37 g0r28_37_0 g0r28_37_1 g0r28_37_2 f0r28_37_I f0r28_37_A
            try dsimp only
            exact absurd (by decide) g0r28_37_1
      · skip
        refine j_Mod_in (v0 := (x_lk t n (vI h v0 41 + 1))) (v1 := (49 : Int32)) (v2 := (51 : Int32)) T (fun _ g1r7_42_0 => ?_) (fun _ g0r7_42_0 => ?_)
        · try dsimp only
          refine qi_if (fun cc43 => absurd cc43 (by decide)) (fun _ => ?_)
          refine l_gI (e := (vI h v0 44)) rfl ?_
          refine qi_if (fun cc44 => ?_) (fun cc44 => ?_)
          · skip
            unfold f_Mod_escaped_185
            refine l_gO ?_
            refine j_Mod_wrong (v0 := v0) (v1 := v1) T kv0 ?_
            intro hr2i45_46 Thr2i45_46 gr2i45_46_0 fr2i45_46_I fr2i45_46_A
            try dsimp only
            unfold f_Mod_escaped_263
            refine l_gI (e := (vI h v0 41)) (by rw [fr2i45_46_I v0 41 (by omega)]) ?_
            refine l_sI Thr2i45_46 (q_Mk kv0) (by decide) rfl ?_
            intro h2i47_48 Th2i47_48 ih2i47_48 ah2i47_48
            refine qi_some ?_
            exact ⟨Th2i47_48, Or.inr ⟨(by show ¬ vI h2i47_48 v0 48 = 0; rw [show vI h2i47_48 v0 48 = 1 from (by rw [ih2i47_48 v0 48, if_neg (fun z => absurd z.2 (by decide)), gr2i45_46_0])] <;> (first | assumption | decide)), (by show x_pat t n (vI h v0 41) (vI h v0 46) (vI h v0 45) (vI h v0 44) (vI h v0 49) (vI h v0 50) = none; rw [x_q92 n2 c, if_neg (x_495 g1r7_42_0).1, if_neg (x_495 g1r7_42_0).2, if_pos g1r7_42_0, if_pos (by (first | grind (ematch := 0) | grind))]), (fun a k na => by rw [ih2i47_48 a k, if_neg (fun z => na (Or.inr (Or.inr (Or.inl z)))), fr2i45_46_I a k (fun z => na (z.elim (fun z => Or.inl z) (fun z => Or.inr (Or.inl z))))]), (fun a na => by rw [ah2i47_48 a, fr2i45_46_A a (by omega)])⟩⟩
          · skip
            refine l_gI (e := (vI h v0 44)) rfl ?_
            refine qi_if (fun cc49 => ?_) (fun cc49 => ?_)
            · skip
              refine l_gI (e := (vI h v0 49)) rfl ?_
              refine qi_if (fun cc50 => ?_) (fun cc50 => ?_)
              · skip
                unfold f_Mod_escaped_193
                refine l_gO ?_
                refine j_Mod_addItem (v0 := v0) (v1 := (3 : Int32)) (v2 := ((x_lk t n (vI h v0 41 + 1)) - 48)) (v3 := v1) T kv0 bd ?_ ?_
                · intro hr2i51_52 Thr2i51_52 g1r2i51_52_0 g1r2i51_52_1 g1r2i51_52_2 g1r2i51_52_3 f1r2i51_52_I f1r2i51_52_A
                  try dsimp only
                  rw [if_neg (by decide)] at g1r2i51_52_1
                  rw [if_pos (by decide)] at g1r2i51_52_2
                  unfold f_Mod_escaped_263
                  refine l_gI (e := (vI h v0 41)) (by rw [f1r2i51_52_I v0 41 (by omega)]) ?_
                  refine l_sI Thr2i51_52 (q_Mk kv0) (by decide) rfl ?_
                  intro h2i53_54 Th2i53_54 ih2i53_54 ah2i53_54
                  refine qi_some ?_
                  exact ⟨Th2i53_54, Or.inl ⟨(by show vI h2i53_54 v0 48 = 0; rw [show vI h2i53_54 v0 48 = 0 from (by rw [ih2i53_54 v0 48, if_neg (fun z => absurd z.2 (by decide)), g1r2i51_52_0])] <;> (first | assumption | with_reducible rfl | grind)), (by show x_pat t n (vI h v0 41) (vI h v0 46) (vI h v0 45) (vI h v0 44) (vI h v0 49) (vI h v0 50) = x_pat t n (vI h2i53_54 v0 41) (vI h2i53_54 v0 46) (vI h2i53_54 v0 45) (vI h2i53_54 v0 44) (vI h2i53_54 v0 49) (vI h2i53_54 v0 50); rw [show vI h2i53_54 v0 41 = ((vI h v0 41) + 2) from (by rw [ih2i53_54 v0 41, if_pos ⟨rfl, rfl⟩]), show vI h2i53_54 v0 46 = (vI h v0 46 + 1) from (by rw [ih2i53_54 v0 46, if_neg (fun z => absurd z.2 (by decide)), g1r2i51_52_1]), show vI h2i53_54 v0 45 = (vI h v0 45) from (by rw [ih2i53_54 v0 45, if_neg (fun z => absurd z.2 (by decide)), f1r2i51_52_I v0 45 (by omega)]), show vI h2i53_54 v0 44 = (vI h v0 44) from (by rw [ih2i53_54 v0 44, if_neg (fun z => absurd z.2 (by decide)), f1r2i51_52_I v0 44 (by omega)]), show vI h2i53_54 v0 49 = (vI h v0 49) from (by rw [ih2i53_54 v0 49, if_neg (fun z => absurd z.2 (by decide)), f1r2i51_52_I v0 49 (by omega)]), show vI h2i53_54 v0 50 = 0 from (by rw [ih2i53_54 v0 50, if_neg (fun z => absurd z.2 (by decide)), g1r2i51_52_2])] <;> (rw [x_q92 n2 c, if_neg (x_495 g1r7_42_0).1, if_neg (x_495 g1r7_42_0).2, if_pos g1r7_42_0, if_neg (by have q := g1r2i51_52_3; (first | grind (ematch := 0) | grind))])), (by show vI h v0 41 < vI h2i53_54 v0 41; rw [show vI h2i53_54 v0 41 = ((vI h v0 41) + 2) from (by rw [ih2i53_54 v0 41, if_pos ⟨rfl, rfl⟩])] <;> (exact x_lp2 n2 (by rw [c]; decide))), (by show 0 ≤ vI h2i53_54 v0 44 ∧ vI h2i53_54 v0 44 ≤ 3; rw [show vI h2i53_54 v0 44 = (vI h v0 44) from (by rw [ih2i53_54 v0 44, if_neg (fun z => absurd z.2 (by decide)), f1r2i51_52_I v0 44 (by omega)])] <;> (exact gb)), (fun a k na => by rw [ih2i53_54 a k, if_neg (fun z => na (Or.inr (Or.inr (Or.inl z)))), f1r2i51_52_I a k (fun z => na (z.elim (fun z => Or.inr (Or.inr (Or.inr (Or.inl z)))) (fun z => z.elim (fun z => Or.inl z) (fun z => z.elim (fun z => Or.inr (Or.inl z)) (fun z => Or.inr (Or.inr (Or.inr (Or.inr (Or.inl z)))))))))]), (fun a na => by rw [ah2i53_54 a, f1r2i51_52_A a (fun z => na (z.elim (fun z => Or.inl z) (fun z => z.elim (fun z => Or.inr (Or.inl z)) (fun z => z.elim (fun z => Or.inr (Or.inr (Or.inl z))) (fun z => Or.inr (Or.inr (Or.inr (z))))))))])⟩⟩
                · intro hr2i51_52 Thr2i51_52 g0r2i51_52_0 g0r2i51_52_1 g0r2i51_52_2 f0r2i51_52_I f0r2i51_52_A
                  try dsimp only
                  unfold f_Mod_escaped_263
                  refine l_gI (e := (vI h v0 41)) (by rw [f0r2i51_52_I v0 41 (by omega)]) ?_
                  refine l_sI Thr2i51_52 (q_Mk kv0) (by decide) rfl ?_
                  intro h2i55_56 Th2i55_56 ih2i55_56 ah2i55_56
                  refine qi_some ?_
                  exact ⟨Th2i55_56, Or.inr ⟨(by show ¬ vI h2i55_56 v0 48 = 0; rw [show vI h2i55_56 v0 48 = (vI hr2i51_52 v0 48) from (by rw [ih2i55_56 v0 48, if_neg (fun z => absurd z.2 (by decide))])] <;> (first | assumption | decide)), (by show x_pat t n (vI h v0 41) (vI h v0 46) (vI h v0 45) (vI h v0 44) (vI h v0 49) (vI h v0 50) = none; rw [x_q92 n2 c, if_neg (x_495 g1r7_42_0).1, if_neg (x_495 g1r7_42_0).2, if_pos g1r7_42_0, if_pos (by (first | grind (ematch := 0) | grind))]), (fun a k na => by rw [ih2i55_56 a k, if_neg (fun z => na (Or.inr (Or.inr (Or.inl z)))), f0r2i51_52_I a k (fun z => na (z.elim (fun z => Or.inr (Or.inr (Or.inr (Or.inl z)))) (fun z => z.elim (fun z => Or.inl z) (fun z => z.elim (fun z => Or.inr (Or.inl z)) (fun z => Or.inr (Or.inr (Or.inr (Or.inr (Or.inl z)))))))))]), (fun a na => by rw [ah2i55_56 a, f0r2i51_52_A a (fun z => na (z.elim (fun z => Or.inl z) (fun z => z.elim (fun z => Or.inr (Or.inl z)) (fun z => z.elim (fun z => Or.inr (Or.inr (Or.inl z))) (fun z => Or.inr (Or.inr (Or.inr (z))))))))])⟩⟩
              · skip
                unfold f_Mod_escaped_185
                refine l_gO ?_
                refine j_Mod_wrong (v0 := v0) (v1 := v1) T kv0 ?_
                intro hr2i57_58 Thr2i57_58 gr2i57_58_0 fr2i57_58_I fr2i57_58_A
                try dsimp only
                unfold f_Mod_escaped_263
                refine l_gI (e := (vI h v0 41)) (by rw [fr2i57_58_I v0 41 (by omega)]) ?_
                refine l_sI Thr2i57_58 (q_Mk kv0) (by decide) rfl ?_
                intro h2i59_60 Th2i59_60 ih2i59_60 ah2i59_60
                refine qi_some ?_
                exact ⟨Th2i59_60, Or.inr ⟨(by show ¬ vI h2i59_60 v0 48 = 0; rw [show vI h2i59_60 v0 48 = 1 from (by rw [ih2i59_60 v0 48, if_neg (fun z => absurd z.2 (by decide)), gr2i57_58_0])] <;> (first | assumption | decide)), (by show x_pat t n (vI h v0 41) (vI h v0 46) (vI h v0 45) (vI h v0 44) (vI h v0 49) (vI h v0 50) = none; rw [x_q92 n2 c, if_neg (x_495 g1r7_42_0).1, if_neg (x_495 g1r7_42_0).2, if_pos g1r7_42_0, if_pos (by (first | grind (ematch := 0) | grind))]), (fun a k na => by rw [ih2i59_60 a k, if_neg (fun z => na (Or.inr (Or.inr (Or.inl z)))), fr2i57_58_I a k (fun z => na (z.elim (fun z => Or.inl z) (fun z => Or.inr (Or.inl z))))]), (fun a na => by rw [ah2i59_60 a, fr2i57_58_A a (by omega)])⟩⟩
            · skip
              unfold f_Mod_escaped_193
              refine l_gO ?_
              refine j_Mod_addItem (v0 := v0) (v1 := (3 : Int32)) (v2 := ((x_lk t n (vI h v0 41 + 1)) - 48)) (v3 := v1) T kv0 bd ?_ ?_
              · intro hr2i61_62 Thr2i61_62 g1r2i61_62_0 g1r2i61_62_1 g1r2i61_62_2 g1r2i61_62_3 f1r2i61_62_I f1r2i61_62_A
                try dsimp only
                rw [if_neg (by decide)] at g1r2i61_62_1
                rw [if_pos (by decide)] at g1r2i61_62_2
                unfold f_Mod_escaped_263
                refine l_gI (e := (vI h v0 41)) (by rw [f1r2i61_62_I v0 41 (by omega)]) ?_
                refine l_sI Thr2i61_62 (q_Mk kv0) (by decide) rfl ?_
                intro h2i63_64 Th2i63_64 ih2i63_64 ah2i63_64
                refine qi_some ?_
                exact ⟨Th2i63_64, Or.inl ⟨(by show vI h2i63_64 v0 48 = 0; rw [show vI h2i63_64 v0 48 = 0 from (by rw [ih2i63_64 v0 48, if_neg (fun z => absurd z.2 (by decide)), g1r2i61_62_0])] <;> (first | assumption | with_reducible rfl | grind)), (by show x_pat t n (vI h v0 41) (vI h v0 46) (vI h v0 45) (vI h v0 44) (vI h v0 49) (vI h v0 50) = x_pat t n (vI h2i63_64 v0 41) (vI h2i63_64 v0 46) (vI h2i63_64 v0 45) (vI h2i63_64 v0 44) (vI h2i63_64 v0 49) (vI h2i63_64 v0 50); rw [show vI h2i63_64 v0 41 = ((vI h v0 41) + 2) from (by rw [ih2i63_64 v0 41, if_pos ⟨rfl, rfl⟩]), show vI h2i63_64 v0 46 = (vI h v0 46 + 1) from (by rw [ih2i63_64 v0 46, if_neg (fun z => absurd z.2 (by decide)), g1r2i61_62_1]), show vI h2i63_64 v0 45 = (vI h v0 45) from (by rw [ih2i63_64 v0 45, if_neg (fun z => absurd z.2 (by decide)), f1r2i61_62_I v0 45 (by omega)]), show vI h2i63_64 v0 44 = (vI h v0 44) from (by rw [ih2i63_64 v0 44, if_neg (fun z => absurd z.2 (by decide)), f1r2i61_62_I v0 44 (by omega)]), show vI h2i63_64 v0 49 = (vI h v0 49) from (by rw [ih2i63_64 v0 49, if_neg (fun z => absurd z.2 (by decide)), f1r2i61_62_I v0 49 (by omega)]), show vI h2i63_64 v0 50 = 0 from (by rw [ih2i63_64 v0 50, if_neg (fun z => absurd z.2 (by decide)), g1r2i61_62_2])] <;> (rw [x_q92 n2 c, if_neg (x_495 g1r7_42_0).1, if_neg (x_495 g1r7_42_0).2, if_pos g1r7_42_0, if_neg (by have q := g1r2i61_62_3; (first | grind (ematch := 0) | grind))])), (by show vI h v0 41 < vI h2i63_64 v0 41; rw [show vI h2i63_64 v0 41 = ((vI h v0 41) + 2) from (by rw [ih2i63_64 v0 41, if_pos ⟨rfl, rfl⟩])] <;> (exact x_lp2 n2 (by rw [c]; decide))), (by show 0 ≤ vI h2i63_64 v0 44 ∧ vI h2i63_64 v0 44 ≤ 3; rw [show vI h2i63_64 v0 44 = (vI h v0 44) from (by rw [ih2i63_64 v0 44, if_neg (fun z => absurd z.2 (by decide)), f1r2i61_62_I v0 44 (by omega)])] <;> (exact gb)), (fun a k na => by rw [ih2i63_64 a k, if_neg (fun z => na (Or.inr (Or.inr (Or.inl z)))), f1r2i61_62_I a k (fun z => na (z.elim (fun z => Or.inr (Or.inr (Or.inr (Or.inl z)))) (fun z => z.elim (fun z => Or.inl z) (fun z => z.elim (fun z => Or.inr (Or.inl z)) (fun z => Or.inr (Or.inr (Or.inr (Or.inr (Or.inl z)))))))))]), (fun a na => by rw [ah2i63_64 a, f1r2i61_62_A a (fun z => na (z.elim (fun z => Or.inl z) (fun z => z.elim (fun z => Or.inr (Or.inl z)) (fun z => z.elim (fun z => Or.inr (Or.inr (Or.inl z))) (fun z => Or.inr (Or.inr (Or.inr (z))))))))])⟩⟩
              · intro hr2i61_62 Thr2i61_62 g0r2i61_62_0 g0r2i61_62_1 g0r2i61_62_2 f0r2i61_62_I f0r2i61_62_A
                try dsimp only
                unfold f_Mod_escaped_263
                refine l_gI (e := (vI h v0 41)) (by rw [f0r2i61_62_I v0 41 (by omega)]) ?_
                refine l_sI Thr2i61_62 (q_Mk kv0) (by decide) rfl ?_
                intro h2i65_66 Th2i65_66 ih2i65_66 ah2i65_66
                refine qi_some ?_
                exact ⟨Th2i65_66, Or.inr ⟨(by show ¬ vI h2i65_66 v0 48 = 0; rw [show vI h2i65_66 v0 48 = (vI hr2i61_62 v0 48) from (by rw [ih2i65_66 v0 48, if_neg (fun z => absurd z.2 (by decide))])] <;> (first | assumption | decide)), (by show x_pat t n (vI h v0 41) (vI h v0 46) (vI h v0 45) (vI h v0 44) (vI h v0 49) (vI h v0 50) = none; rw [x_q92 n2 c, if_neg (x_495 g1r7_42_0).1, if_neg (x_495 g1r7_42_0).2, if_pos g1r7_42_0, if_pos (by (first | grind (ematch := 0) | grind))]), (fun a k na => by rw [ih2i65_66 a k, if_neg (fun z => na (Or.inr (Or.inr (Or.inl z)))), f0r2i61_62_I a k (fun z => na (z.elim (fun z => Or.inr (Or.inr (Or.inr (Or.inl z)))) (fun z => z.elim (fun z => Or.inl z) (fun z => z.elim (fun z => Or.inr (Or.inl z)) (fun z => Or.inr (Or.inr (Or.inr (Or.inr (Or.inl z)))))))))]), (fun a na => by rw [ah2i65_66 a, f0r2i61_62_A a (fun z => na (z.elim (fun z => Or.inl z) (fun z => z.elim (fun z => Or.inr (Or.inl z)) (fun z => z.elim (fun z => Or.inr (Or.inr (Or.inl z))) (fun z => Or.inr (Or.inr (Or.inr (z))))))))])⟩⟩
        · try dsimp only
          refine qi_if (fun _ => ?_) (fun cc67 => absurd (by decide) cc67)
          refine qi_if (fun cc68 => ?_) (fun cc68 => ?_)
          · skip
            unfold f_Mod_escaped_248
            refine l_gO ?_
            refine j_Mod_addItem (v0 := v0) (v1 := (0 : Int32)) (v2 := (x_lk t n (vI h v0 41 + 1))) (v3 := v1) T kv0 bd ?_ ?_
            · intro hr2i69_70 Thr2i69_70 g1r2i69_70_0 g1r2i69_70_1 g1r2i69_70_2 g1r2i69_70_3 f1r2i69_70_I f1r2i69_70_A
              try dsimp only
              rw [if_neg (by decide)] at g1r2i69_70_1
              rw [if_neg (by decide)] at g1r2i69_70_2
              unfold f_Mod_escaped_263
              refine l_gI (e := (vI h v0 41)) (by rw [f1r2i69_70_I v0 41 (by omega)]) ?_
              refine l_sI Thr2i69_70 (q_Mk kv0) (by decide) rfl ?_
              intro h2i71_72 Th2i71_72 ih2i71_72 ah2i71_72
              refine qi_some ?_
              exact ⟨Th2i71_72, Or.inl ⟨(by show vI h2i71_72 v0 48 = 0; rw [show vI h2i71_72 v0 48 = 0 from (by rw [ih2i71_72 v0 48, if_neg (fun z => absurd z.2 (by decide)), g1r2i69_70_0])] <;> (first | assumption | with_reducible rfl | grind)), (by show x_pat t n (vI h v0 41) (vI h v0 46) (vI h v0 45) (vI h v0 44) (vI h v0 49) (vI h v0 50) = x_pat t n (vI h2i71_72 v0 41) (vI h2i71_72 v0 46) (vI h2i71_72 v0 45) (vI h2i71_72 v0 44) (vI h2i71_72 v0 49) (vI h2i71_72 v0 50); rw [show vI h2i71_72 v0 41 = ((vI h v0 41) + 2) from (by rw [ih2i71_72 v0 41, if_pos ⟨rfl, rfl⟩]), show vI h2i71_72 v0 46 = (vI h v0 46 + 1) from (by rw [ih2i71_72 v0 46, if_neg (fun z => absurd z.2 (by decide)), g1r2i69_70_1]), show vI h2i71_72 v0 45 = (vI h v0 45) from (by rw [ih2i71_72 v0 45, if_neg (fun z => absurd z.2 (by decide)), f1r2i69_70_I v0 45 (by omega)]), show vI h2i71_72 v0 44 = (vI h v0 44) from (by rw [ih2i71_72 v0 44, if_neg (fun z => absurd z.2 (by decide)), f1r2i69_70_I v0 44 (by omega)]), show vI h2i71_72 v0 49 = (vI h v0 49) from (by rw [ih2i71_72 v0 49, if_neg (fun z => absurd z.2 (by decide)), f1r2i69_70_I v0 49 (by omega)]), show vI h2i71_72 v0 50 = 1 from (by rw [ih2i71_72 v0 50, if_neg (fun z => absurd z.2 (by decide)), g1r2i69_70_2])] <;> (rw [x_q92 n2 c, cc68, if_neg (by decide), if_neg (by decide), if_neg (by decide), if_pos (by decide), if_neg (by have q := g1r2i69_70_3; (first | grind (ematch := 0) | grind))])), (by show vI h v0 41 < vI h2i71_72 v0 41; rw [show vI h2i71_72 v0 41 = ((vI h v0 41) + 2) from (by rw [ih2i71_72 v0 41, if_pos ⟨rfl, rfl⟩])] <;> (exact x_lp2 n2 (by rw [c]; decide))), (by show 0 ≤ vI h2i71_72 v0 44 ∧ vI h2i71_72 v0 44 ≤ 3; rw [show vI h2i71_72 v0 44 = (vI h v0 44) from (by rw [ih2i71_72 v0 44, if_neg (fun z => absurd z.2 (by decide)), f1r2i69_70_I v0 44 (by omega)])] <;> (exact gb)), (fun a k na => by rw [ih2i71_72 a k, if_neg (fun z => na (Or.inr (Or.inr (Or.inl z)))), f1r2i69_70_I a k (fun z => na (z.elim (fun z => Or.inr (Or.inr (Or.inr (Or.inl z)))) (fun z => z.elim (fun z => Or.inl z) (fun z => z.elim (fun z => Or.inr (Or.inl z)) (fun z => Or.inr (Or.inr (Or.inr (Or.inr (Or.inl z)))))))))]), (fun a na => by rw [ah2i71_72 a, f1r2i69_70_A a (fun z => na (z.elim (fun z => Or.inl z) (fun z => z.elim (fun z => Or.inr (Or.inl z)) (fun z => z.elim (fun z => Or.inr (Or.inr (Or.inl z))) (fun z => Or.inr (Or.inr (Or.inr (z))))))))])⟩⟩
            · intro hr2i69_70 Thr2i69_70 g0r2i69_70_0 g0r2i69_70_1 g0r2i69_70_2 f0r2i69_70_I f0r2i69_70_A
              try dsimp only
              unfold f_Mod_escaped_263
              refine l_gI (e := (vI h v0 41)) (by rw [f0r2i69_70_I v0 41 (by omega)]) ?_
              refine l_sI Thr2i69_70 (q_Mk kv0) (by decide) rfl ?_
              intro h2i73_74 Th2i73_74 ih2i73_74 ah2i73_74
              refine qi_some ?_
              exact ⟨Th2i73_74, Or.inr ⟨(by show ¬ vI h2i73_74 v0 48 = 0; rw [show vI h2i73_74 v0 48 = (vI hr2i69_70 v0 48) from (by rw [ih2i73_74 v0 48, if_neg (fun z => absurd z.2 (by decide))])] <;> (first | assumption | decide)), (by show x_pat t n (vI h v0 41) (vI h v0 46) (vI h v0 45) (vI h v0 44) (vI h v0 49) (vI h v0 50) = none; rw [x_q92 n2 c, cc68, if_neg (by decide), if_neg (by decide), if_neg (by decide), if_pos (by decide), if_pos g0r2i69_70_2]), (fun a k na => by rw [ih2i73_74 a k, if_neg (fun z => na (Or.inr (Or.inr (Or.inl z)))), f0r2i69_70_I a k (fun z => na (z.elim (fun z => Or.inr (Or.inr (Or.inr (Or.inl z)))) (fun z => z.elim (fun z => Or.inl z) (fun z => z.elim (fun z => Or.inr (Or.inl z)) (fun z => Or.inr (Or.inr (Or.inr (Or.inr (Or.inl z)))))))))]), (fun a na => by rw [ah2i73_74 a, f0r2i69_70_A a (fun z => na (z.elim (fun z => Or.inl z) (fun z => z.elim (fun z => Or.inr (Or.inl z)) (fun z => z.elim (fun z => Or.inr (Or.inr (Or.inl z))) (fun z => Or.inr (Or.inr (Or.inr (z))))))))])⟩⟩
          · skip
            refine qi_if (fun cc75 => ?_) (fun cc75 => ?_)
            · skip
              unfold f_Mod_escaped_248
              refine l_gO ?_
              refine j_Mod_addItem (v0 := v0) (v1 := (0 : Int32)) (v2 := (x_lk t n (vI h v0 41 + 1))) (v3 := v1) T kv0 bd ?_ ?_
              · intro hr2i76_77 Thr2i76_77 g1r2i76_77_0 g1r2i76_77_1 g1r2i76_77_2 g1r2i76_77_3 f1r2i76_77_I f1r2i76_77_A
                try dsimp only
                rw [if_neg (by decide)] at g1r2i76_77_1
                rw [if_neg (by decide)] at g1r2i76_77_2
                unfold f_Mod_escaped_263
                refine l_gI (e := (vI h v0 41)) (by rw [f1r2i76_77_I v0 41 (by omega)]) ?_
                refine l_sI Thr2i76_77 (q_Mk kv0) (by decide) rfl ?_
                intro h2i78_79 Th2i78_79 ih2i78_79 ah2i78_79
                refine qi_some ?_
                exact ⟨Th2i78_79, Or.inl ⟨(by show vI h2i78_79 v0 48 = 0; rw [show vI h2i78_79 v0 48 = 0 from (by rw [ih2i78_79 v0 48, if_neg (fun z => absurd z.2 (by decide)), g1r2i76_77_0])] <;> (first | assumption | with_reducible rfl | grind)), (by show x_pat t n (vI h v0 41) (vI h v0 46) (vI h v0 45) (vI h v0 44) (vI h v0 49) (vI h v0 50) = x_pat t n (vI h2i78_79 v0 41) (vI h2i78_79 v0 46) (vI h2i78_79 v0 45) (vI h2i78_79 v0 44) (vI h2i78_79 v0 49) (vI h2i78_79 v0 50); rw [show vI h2i78_79 v0 41 = ((vI h v0 41) + 2) from (by rw [ih2i78_79 v0 41, if_pos ⟨rfl, rfl⟩]), show vI h2i78_79 v0 46 = (vI h v0 46 + 1) from (by rw [ih2i78_79 v0 46, if_neg (fun z => absurd z.2 (by decide)), g1r2i76_77_1]), show vI h2i78_79 v0 45 = (vI h v0 45) from (by rw [ih2i78_79 v0 45, if_neg (fun z => absurd z.2 (by decide)), f1r2i76_77_I v0 45 (by omega)]), show vI h2i78_79 v0 44 = (vI h v0 44) from (by rw [ih2i78_79 v0 44, if_neg (fun z => absurd z.2 (by decide)), f1r2i76_77_I v0 44 (by omega)]), show vI h2i78_79 v0 49 = (vI h v0 49) from (by rw [ih2i78_79 v0 49, if_neg (fun z => absurd z.2 (by decide)), f1r2i76_77_I v0 49 (by omega)]), show vI h2i78_79 v0 50 = 1 from (by rw [ih2i78_79 v0 50, if_neg (fun z => absurd z.2 (by decide)), g1r2i76_77_2])] <;> (rw [x_q92 n2 c, cc75, if_neg (by decide), if_neg (by decide), if_neg (by decide), if_pos (by decide), if_neg (by have q := g1r2i76_77_3; (first | grind (ematch := 0) | grind))])), (by show vI h v0 41 < vI h2i78_79 v0 41; rw [show vI h2i78_79 v0 41 = ((vI h v0 41) + 2) from (by rw [ih2i78_79 v0 41, if_pos ⟨rfl, rfl⟩])] <;> (exact x_lp2 n2 (by rw [c]; decide))), (by show 0 ≤ vI h2i78_79 v0 44 ∧ vI h2i78_79 v0 44 ≤ 3; rw [show vI h2i78_79 v0 44 = (vI h v0 44) from (by rw [ih2i78_79 v0 44, if_neg (fun z => absurd z.2 (by decide)), f1r2i76_77_I v0 44 (by omega)])] <;> (exact gb)), (fun a k na => by rw [ih2i78_79 a k, if_neg (fun z => na (Or.inr (Or.inr (Or.inl z)))), f1r2i76_77_I a k (fun z => na (z.elim (fun z => Or.inr (Or.inr (Or.inr (Or.inl z)))) (fun z => z.elim (fun z => Or.inl z) (fun z => z.elim (fun z => Or.inr (Or.inl z)) (fun z => Or.inr (Or.inr (Or.inr (Or.inr (Or.inl z)))))))))]), (fun a na => by rw [ah2i78_79 a, f1r2i76_77_A a (fun z => na (z.elim (fun z => Or.inl z) (fun z => z.elim (fun z => Or.inr (Or.inl z)) (fun z => z.elim (fun z => Or.inr (Or.inr (Or.inl z))) (fun z => Or.inr (Or.inr (Or.inr (z))))))))])⟩⟩
              · intro hr2i76_77 Thr2i76_77 g0r2i76_77_0 g0r2i76_77_1 g0r2i76_77_2 f0r2i76_77_I f0r2i76_77_A
                try dsimp only
                unfold f_Mod_escaped_263
                refine l_gI (e := (vI h v0 41)) (by rw [f0r2i76_77_I v0 41 (by omega)]) ?_
                refine l_sI Thr2i76_77 (q_Mk kv0) (by decide) rfl ?_
                intro h2i80_81 Th2i80_81 ih2i80_81 ah2i80_81
                refine qi_some ?_
                exact ⟨Th2i80_81, Or.inr ⟨(by show ¬ vI h2i80_81 v0 48 = 0; rw [show vI h2i80_81 v0 48 = (vI hr2i76_77 v0 48) from (by rw [ih2i80_81 v0 48, if_neg (fun z => absurd z.2 (by decide))])] <;> (first | assumption | decide)), (by show x_pat t n (vI h v0 41) (vI h v0 46) (vI h v0 45) (vI h v0 44) (vI h v0 49) (vI h v0 50) = none; rw [x_q92 n2 c, cc75, if_neg (by decide), if_neg (by decide), if_neg (by decide), if_pos (by decide), if_pos g0r2i76_77_2]), (fun a k na => by rw [ih2i80_81 a k, if_neg (fun z => na (Or.inr (Or.inr (Or.inl z)))), f0r2i76_77_I a k (fun z => na (z.elim (fun z => Or.inr (Or.inr (Or.inr (Or.inl z)))) (fun z => z.elim (fun z => Or.inl z) (fun z => z.elim (fun z => Or.inr (Or.inl z)) (fun z => Or.inr (Or.inr (Or.inr (Or.inr (Or.inl z)))))))))]), (fun a na => by rw [ah2i80_81 a, f0r2i76_77_A a (fun z => na (z.elim (fun z => Or.inl z) (fun z => z.elim (fun z => Or.inr (Or.inl z)) (fun z => z.elim (fun z => Or.inr (Or.inr (Or.inl z))) (fun z => Or.inr (Or.inr (Or.inr (z))))))))])⟩⟩
            · skip
              refine qi_if (fun cc82 => ?_) (fun cc82 => ?_)
              · skip
                unfold f_Mod_escaped_248
                refine l_gO ?_
                refine j_Mod_addItem (v0 := v0) (v1 := (0 : Int32)) (v2 := (x_lk t n (vI h v0 41 + 1))) (v3 := v1) T kv0 bd ?_ ?_
                · intro hr2i83_84 Thr2i83_84 g1r2i83_84_0 g1r2i83_84_1 g1r2i83_84_2 g1r2i83_84_3 f1r2i83_84_I f1r2i83_84_A
                  try dsimp only
                  rw [if_neg (by decide)] at g1r2i83_84_1
                  rw [if_neg (by decide)] at g1r2i83_84_2
                  unfold f_Mod_escaped_263
                  refine l_gI (e := (vI h v0 41)) (by rw [f1r2i83_84_I v0 41 (by omega)]) ?_
                  refine l_sI Thr2i83_84 (q_Mk kv0) (by decide) rfl ?_
                  intro h2i85_86 Th2i85_86 ih2i85_86 ah2i85_86
                  refine qi_some ?_
                  exact ⟨Th2i85_86, Or.inl ⟨(by show vI h2i85_86 v0 48 = 0; rw [show vI h2i85_86 v0 48 = 0 from (by rw [ih2i85_86 v0 48, if_neg (fun z => absurd z.2 (by decide)), g1r2i83_84_0])] <;> (first | assumption | with_reducible rfl | grind)), (by show x_pat t n (vI h v0 41) (vI h v0 46) (vI h v0 45) (vI h v0 44) (vI h v0 49) (vI h v0 50) = x_pat t n (vI h2i85_86 v0 41) (vI h2i85_86 v0 46) (vI h2i85_86 v0 45) (vI h2i85_86 v0 44) (vI h2i85_86 v0 49) (vI h2i85_86 v0 50); rw [show vI h2i85_86 v0 41 = ((vI h v0 41) + 2) from (by rw [ih2i85_86 v0 41, if_pos ⟨rfl, rfl⟩]), show vI h2i85_86 v0 46 = (vI h v0 46 + 1) from (by rw [ih2i85_86 v0 46, if_neg (fun z => absurd z.2 (by decide)), g1r2i83_84_1]), show vI h2i85_86 v0 45 = (vI h v0 45) from (by rw [ih2i85_86 v0 45, if_neg (fun z => absurd z.2 (by decide)), f1r2i83_84_I v0 45 (by omega)]), show vI h2i85_86 v0 44 = (vI h v0 44) from (by rw [ih2i85_86 v0 44, if_neg (fun z => absurd z.2 (by decide)), f1r2i83_84_I v0 44 (by omega)]), show vI h2i85_86 v0 49 = (vI h v0 49) from (by rw [ih2i85_86 v0 49, if_neg (fun z => absurd z.2 (by decide)), f1r2i83_84_I v0 49 (by omega)]), show vI h2i85_86 v0 50 = 1 from (by rw [ih2i85_86 v0 50, if_neg (fun z => absurd z.2 (by decide)), g1r2i83_84_2])] <;> (rw [x_q92 n2 c, cc82, if_neg (by decide), if_neg (by decide), if_neg (by decide), if_pos (by decide), if_neg (by have q := g1r2i83_84_3; (first | grind (ematch := 0) | grind))])), (by show vI h v0 41 < vI h2i85_86 v0 41; rw [show vI h2i85_86 v0 41 = ((vI h v0 41) + 2) from (by rw [ih2i85_86 v0 41, if_pos ⟨rfl, rfl⟩])] <;> (exact x_lp2 n2 (by rw [c]; decide))), (by show 0 ≤ vI h2i85_86 v0 44 ∧ vI h2i85_86 v0 44 ≤ 3; rw [show vI h2i85_86 v0 44 = (vI h v0 44) from (by rw [ih2i85_86 v0 44, if_neg (fun z => absurd z.2 (by decide)), f1r2i83_84_I v0 44 (by omega)])] <;> (exact gb)), (fun a k na => by rw [ih2i85_86 a k, if_neg (fun z => na (Or.inr (Or.inr (Or.inl z)))), f1r2i83_84_I a k (fun z => na (z.elim (fun z => Or.inr (Or.inr (Or.inr (Or.inl z)))) (fun z => z.elim (fun z => Or.inl z) (fun z => z.elim (fun z => Or.inr (Or.inl z)) (fun z => Or.inr (Or.inr (Or.inr (Or.inr (Or.inl z)))))))))]), (fun a na => by rw [ah2i85_86 a, f1r2i83_84_A a (fun z => na (z.elim (fun z => Or.inl z) (fun z => z.elim (fun z => Or.inr (Or.inl z)) (fun z => z.elim (fun z => Or.inr (Or.inr (Or.inl z))) (fun z => Or.inr (Or.inr (Or.inr (z))))))))])⟩⟩
                · intro hr2i83_84 Thr2i83_84 g0r2i83_84_0 g0r2i83_84_1 g0r2i83_84_2 f0r2i83_84_I f0r2i83_84_A
                  try dsimp only
                  unfold f_Mod_escaped_263
                  refine l_gI (e := (vI h v0 41)) (by rw [f0r2i83_84_I v0 41 (by omega)]) ?_
                  refine l_sI Thr2i83_84 (q_Mk kv0) (by decide) rfl ?_
                  intro h2i87_88 Th2i87_88 ih2i87_88 ah2i87_88
                  refine qi_some ?_
                  exact ⟨Th2i87_88, Or.inr ⟨(by show ¬ vI h2i87_88 v0 48 = 0; rw [show vI h2i87_88 v0 48 = (vI hr2i83_84 v0 48) from (by rw [ih2i87_88 v0 48, if_neg (fun z => absurd z.2 (by decide))])] <;> (first | assumption | decide)), (by show x_pat t n (vI h v0 41) (vI h v0 46) (vI h v0 45) (vI h v0 44) (vI h v0 49) (vI h v0 50) = none; rw [x_q92 n2 c, cc82, if_neg (by decide), if_neg (by decide), if_neg (by decide), if_pos (by decide), if_pos g0r2i83_84_2]), (fun a k na => by rw [ih2i87_88 a k, if_neg (fun z => na (Or.inr (Or.inr (Or.inl z)))), f0r2i83_84_I a k (fun z => na (z.elim (fun z => Or.inr (Or.inr (Or.inr (Or.inl z)))) (fun z => z.elim (fun z => Or.inl z) (fun z => z.elim (fun z => Or.inr (Or.inl z)) (fun z => Or.inr (Or.inr (Or.inr (Or.inr (Or.inl z)))))))))]), (fun a na => by rw [ah2i87_88 a, f0r2i83_84_A a (fun z => na (z.elim (fun z => Or.inl z) (fun z => z.elim (fun z => Or.inr (Or.inl z)) (fun z => z.elim (fun z => Or.inr (Or.inr (Or.inl z))) (fun z => Or.inr (Or.inr (Or.inr (z))))))))])⟩⟩
              · skip
                refine qi_if (fun cc89 => ?_) (fun cc89 => ?_)
                · skip
                  unfold f_Mod_escaped_248
                  refine l_gO ?_
                  refine j_Mod_addItem (v0 := v0) (v1 := (0 : Int32)) (v2 := (x_lk t n (vI h v0 41 + 1))) (v3 := v1) T kv0 bd ?_ ?_
                  · intro hr2i90_91 Thr2i90_91 g1r2i90_91_0 g1r2i90_91_1 g1r2i90_91_2 g1r2i90_91_3 f1r2i90_91_I f1r2i90_91_A
                    try dsimp only
                    rw [if_neg (by decide)] at g1r2i90_91_1
                    rw [if_neg (by decide)] at g1r2i90_91_2
                    unfold f_Mod_escaped_263
                    refine l_gI (e := (vI h v0 41)) (by rw [f1r2i90_91_I v0 41 (by omega)]) ?_
                    refine l_sI Thr2i90_91 (q_Mk kv0) (by decide) rfl ?_
                    intro h2i92_93 Th2i92_93 ih2i92_93 ah2i92_93
                    refine qi_some ?_
                    exact ⟨Th2i92_93, Or.inl ⟨(by show vI h2i92_93 v0 48 = 0; rw [show vI h2i92_93 v0 48 = 0 from (by rw [ih2i92_93 v0 48, if_neg (fun z => absurd z.2 (by decide)), g1r2i90_91_0])] <;> (first | assumption | with_reducible rfl | grind)), (by show x_pat t n (vI h v0 41) (vI h v0 46) (vI h v0 45) (vI h v0 44) (vI h v0 49) (vI h v0 50) = x_pat t n (vI h2i92_93 v0 41) (vI h2i92_93 v0 46) (vI h2i92_93 v0 45) (vI h2i92_93 v0 44) (vI h2i92_93 v0 49) (vI h2i92_93 v0 50); rw [show vI h2i92_93 v0 41 = ((vI h v0 41) + 2) from (by rw [ih2i92_93 v0 41, if_pos ⟨rfl, rfl⟩]), show vI h2i92_93 v0 46 = (vI h v0 46 + 1) from (by rw [ih2i92_93 v0 46, if_neg (fun z => absurd z.2 (by decide)), g1r2i90_91_1]), show vI h2i92_93 v0 45 = (vI h v0 45) from (by rw [ih2i92_93 v0 45, if_neg (fun z => absurd z.2 (by decide)), f1r2i90_91_I v0 45 (by omega)]), show vI h2i92_93 v0 44 = (vI h v0 44) from (by rw [ih2i92_93 v0 44, if_neg (fun z => absurd z.2 (by decide)), f1r2i90_91_I v0 44 (by omega)]), show vI h2i92_93 v0 49 = (vI h v0 49) from (by rw [ih2i92_93 v0 49, if_neg (fun z => absurd z.2 (by decide)), f1r2i90_91_I v0 49 (by omega)]), show vI h2i92_93 v0 50 = 1 from (by rw [ih2i92_93 v0 50, if_neg (fun z => absurd z.2 (by decide)), g1r2i90_91_2])] <;> (rw [x_q92 n2 c, cc89, if_neg (by decide), if_neg (by decide), if_neg (by decide), if_pos (by decide), if_neg (by have q := g1r2i90_91_3; (first | grind (ematch := 0) | grind))])), (by show vI h v0 41 < vI h2i92_93 v0 41; rw [show vI h2i92_93 v0 41 = ((vI h v0 41) + 2) from (by rw [ih2i92_93 v0 41, if_pos ⟨rfl, rfl⟩])] <;> (exact x_lp2 n2 (by rw [c]; decide))), (by show 0 ≤ vI h2i92_93 v0 44 ∧ vI h2i92_93 v0 44 ≤ 3; rw [show vI h2i92_93 v0 44 = (vI h v0 44) from (by rw [ih2i92_93 v0 44, if_neg (fun z => absurd z.2 (by decide)), f1r2i90_91_I v0 44 (by omega)])] <;> (exact gb)), (fun a k na => by rw [ih2i92_93 a k, if_neg (fun z => na (Or.inr (Or.inr (Or.inl z)))), f1r2i90_91_I a k (fun z => na (z.elim (fun z => Or.inr (Or.inr (Or.inr (Or.inl z)))) (fun z => z.elim (fun z => Or.inl z) (fun z => z.elim (fun z => Or.inr (Or.inl z)) (fun z => Or.inr (Or.inr (Or.inr (Or.inr (Or.inl z)))))))))]), (fun a na => by rw [ah2i92_93 a, f1r2i90_91_A a (fun z => na (z.elim (fun z => Or.inl z) (fun z => z.elim (fun z => Or.inr (Or.inl z)) (fun z => z.elim (fun z => Or.inr (Or.inr (Or.inl z))) (fun z => Or.inr (Or.inr (Or.inr (z))))))))])⟩⟩
                  · intro hr2i90_91 Thr2i90_91 g0r2i90_91_0 g0r2i90_91_1 g0r2i90_91_2 f0r2i90_91_I f0r2i90_91_A
                    try dsimp only
                    unfold f_Mod_escaped_263
                    refine l_gI (e := (vI h v0 41)) (by rw [f0r2i90_91_I v0 41 (by omega)]) ?_
                    refine l_sI Thr2i90_91 (q_Mk kv0) (by decide) rfl ?_
                    intro h2i94_95 Th2i94_95 ih2i94_95 ah2i94_95
                    refine qi_some ?_
                    exact ⟨Th2i94_95, Or.inr ⟨(by show ¬ vI h2i94_95 v0 48 = 0; rw [show vI h2i94_95 v0 48 = (vI hr2i90_91 v0 48) from (by rw [ih2i94_95 v0 48, if_neg (fun z => absurd z.2 (by decide))])] <;> (first | assumption | decide)), (by show x_pat t n (vI h v0 41) (vI h v0 46) (vI h v0 45) (vI h v0 44) (vI h v0 49) (vI h v0 50) = none; rw [x_q92 n2 c, cc89, if_neg (by decide), if_neg (by decide), if_neg (by decide), if_pos (by decide), if_pos g0r2i90_91_2]), (fun a k na => by rw [ih2i94_95 a k, if_neg (fun z => na (Or.inr (Or.inr (Or.inl z)))), f0r2i90_91_I a k (fun z => na (z.elim (fun z => Or.inr (Or.inr (Or.inr (Or.inl z)))) (fun z => z.elim (fun z => Or.inl z) (fun z => z.elim (fun z => Or.inr (Or.inl z)) (fun z => Or.inr (Or.inr (Or.inr (Or.inr (Or.inl z)))))))))]), (fun a na => by rw [ah2i94_95 a, f0r2i90_91_A a (fun z => na (z.elim (fun z => Or.inl z) (fun z => z.elim (fun z => Or.inr (Or.inl z)) (fun z => z.elim (fun z => Or.inr (Or.inr (Or.inl z))) (fun z => Or.inr (Or.inr (Or.inr (z))))))))])⟩⟩
                · skip
                  refine qi_if (fun cc96 => ?_) (fun cc96 => ?_)
                  · skip
                    unfold f_Mod_escaped_248
                    refine l_gO ?_
                    refine j_Mod_addItem (v0 := v0) (v1 := (0 : Int32)) (v2 := (x_lk t n (vI h v0 41 + 1))) (v3 := v1) T kv0 bd ?_ ?_
                    · intro hr2i97_98 Thr2i97_98 g1r2i97_98_0 g1r2i97_98_1 g1r2i97_98_2 g1r2i97_98_3 f1r2i97_98_I f1r2i97_98_A
                      try dsimp only
                      rw [if_neg (by decide)] at g1r2i97_98_1
                      rw [if_neg (by decide)] at g1r2i97_98_2
                      unfold f_Mod_escaped_263
                      refine l_gI (e := (vI h v0 41)) (by rw [f1r2i97_98_I v0 41 (by omega)]) ?_
                      refine l_sI Thr2i97_98 (q_Mk kv0) (by decide) rfl ?_
                      intro h2i99_100 Th2i99_100 ih2i99_100 ah2i99_100
                      refine qi_some ?_
                      exact ⟨Th2i99_100, Or.inl ⟨(by show vI h2i99_100 v0 48 = 0; rw [show vI h2i99_100 v0 48 = 0 from (by rw [ih2i99_100 v0 48, if_neg (fun z => absurd z.2 (by decide)), g1r2i97_98_0])] <;> (first | assumption | with_reducible rfl | grind)), (by show x_pat t n (vI h v0 41) (vI h v0 46) (vI h v0 45) (vI h v0 44) (vI h v0 49) (vI h v0 50) = x_pat t n (vI h2i99_100 v0 41) (vI h2i99_100 v0 46) (vI h2i99_100 v0 45) (vI h2i99_100 v0 44) (vI h2i99_100 v0 49) (vI h2i99_100 v0 50); rw [show vI h2i99_100 v0 41 = ((vI h v0 41) + 2) from (by rw [ih2i99_100 v0 41, if_pos ⟨rfl, rfl⟩]), show vI h2i99_100 v0 46 = (vI h v0 46 + 1) from (by rw [ih2i99_100 v0 46, if_neg (fun z => absurd z.2 (by decide)), g1r2i97_98_1]), show vI h2i99_100 v0 45 = (vI h v0 45) from (by rw [ih2i99_100 v0 45, if_neg (fun z => absurd z.2 (by decide)), f1r2i97_98_I v0 45 (by omega)]), show vI h2i99_100 v0 44 = (vI h v0 44) from (by rw [ih2i99_100 v0 44, if_neg (fun z => absurd z.2 (by decide)), f1r2i97_98_I v0 44 (by omega)]), show vI h2i99_100 v0 49 = (vI h v0 49) from (by rw [ih2i99_100 v0 49, if_neg (fun z => absurd z.2 (by decide)), f1r2i97_98_I v0 49 (by omega)]), show vI h2i99_100 v0 50 = 1 from (by rw [ih2i99_100 v0 50, if_neg (fun z => absurd z.2 (by decide)), g1r2i97_98_2])] <;> (rw [x_q92 n2 c, cc96, if_neg (by decide), if_neg (by decide), if_neg (by decide), if_pos (by decide), if_neg (by have q := g1r2i97_98_3; (first | grind (ematch := 0) | grind))])), (by show vI h v0 41 < vI h2i99_100 v0 41; rw [show vI h2i99_100 v0 41 = ((vI h v0 41) + 2) from (by rw [ih2i99_100 v0 41, if_pos ⟨rfl, rfl⟩])] <;> (exact x_lp2 n2 (by rw [c]; decide))), (by show 0 ≤ vI h2i99_100 v0 44 ∧ vI h2i99_100 v0 44 ≤ 3; rw [show vI h2i99_100 v0 44 = (vI h v0 44) from (by rw [ih2i99_100 v0 44, if_neg (fun z => absurd z.2 (by decide)), f1r2i97_98_I v0 44 (by omega)])] <;> (exact gb)), (fun a k na => by rw [ih2i99_100 a k, if_neg (fun z => na (Or.inr (Or.inr (Or.inl z)))), f1r2i97_98_I a k (fun z => na (z.elim (fun z => Or.inr (Or.inr (Or.inr (Or.inl z)))) (fun z => z.elim (fun z => Or.inl z) (fun z => z.elim (fun z => Or.inr (Or.inl z)) (fun z => Or.inr (Or.inr (Or.inr (Or.inr (Or.inl z)))))))))]), (fun a na => by rw [ah2i99_100 a, f1r2i97_98_A a (fun z => na (z.elim (fun z => Or.inl z) (fun z => z.elim (fun z => Or.inr (Or.inl z)) (fun z => z.elim (fun z => Or.inr (Or.inr (Or.inl z))) (fun z => Or.inr (Or.inr (Or.inr (z))))))))])⟩⟩
                    · intro hr2i97_98 Thr2i97_98 g0r2i97_98_0 g0r2i97_98_1 g0r2i97_98_2 f0r2i97_98_I f0r2i97_98_A
                      try dsimp only
                      unfold f_Mod_escaped_263
                      refine l_gI (e := (vI h v0 41)) (by rw [f0r2i97_98_I v0 41 (by omega)]) ?_
                      refine l_sI Thr2i97_98 (q_Mk kv0) (by decide) rfl ?_
                      intro h2i101_102 Th2i101_102 ih2i101_102 ah2i101_102
                      refine qi_some ?_
                      exact ⟨Th2i101_102, Or.inr ⟨(by show ¬ vI h2i101_102 v0 48 = 0; rw [show vI h2i101_102 v0 48 = (vI hr2i97_98 v0 48) from (by rw [ih2i101_102 v0 48, if_neg (fun z => absurd z.2 (by decide))])] <;> (first | assumption | decide)), (by show x_pat t n (vI h v0 41) (vI h v0 46) (vI h v0 45) (vI h v0 44) (vI h v0 49) (vI h v0 50) = none; rw [x_q92 n2 c, cc96, if_neg (by decide), if_neg (by decide), if_neg (by decide), if_pos (by decide), if_pos g0r2i97_98_2]), (fun a k na => by rw [ih2i101_102 a k, if_neg (fun z => na (Or.inr (Or.inr (Or.inl z)))), f0r2i97_98_I a k (fun z => na (z.elim (fun z => Or.inr (Or.inr (Or.inr (Or.inl z)))) (fun z => z.elim (fun z => Or.inl z) (fun z => z.elim (fun z => Or.inr (Or.inl z)) (fun z => Or.inr (Or.inr (Or.inr (Or.inr (Or.inl z)))))))))]), (fun a na => by rw [ah2i101_102 a, f0r2i97_98_A a (fun z => na (z.elim (fun z => Or.inl z) (fun z => z.elim (fun z => Or.inr (Or.inl z)) (fun z => z.elim (fun z => Or.inr (Or.inr (Or.inl z))) (fun z => Or.inr (Or.inr (Or.inr (z))))))))])⟩⟩
                  · skip
                    refine qi_if (fun cc103 => ?_) (fun cc103 => ?_)
                    · skip
                      unfold f_Mod_escaped_248
                      refine l_gO ?_
                      refine j_Mod_addItem (v0 := v0) (v1 := (0 : Int32)) (v2 := (x_lk t n (vI h v0 41 + 1))) (v3 := v1) T kv0 bd ?_ ?_
                      · intro hr2i104_105 Thr2i104_105 g1r2i104_105_0 g1r2i104_105_1 g1r2i104_105_2 g1r2i104_105_3 f1r2i104_105_I f1r2i104_105_A
                        try dsimp only
                        rw [if_neg (by decide)] at g1r2i104_105_1
                        rw [if_neg (by decide)] at g1r2i104_105_2
                        unfold f_Mod_escaped_263
                        refine l_gI (e := (vI h v0 41)) (by rw [f1r2i104_105_I v0 41 (by omega)]) ?_
                        refine l_sI Thr2i104_105 (q_Mk kv0) (by decide) rfl ?_
                        intro h2i106_107 Th2i106_107 ih2i106_107 ah2i106_107
                        refine qi_some ?_
                        exact ⟨Th2i106_107, Or.inl ⟨(by show vI h2i106_107 v0 48 = 0; rw [show vI h2i106_107 v0 48 = 0 from (by rw [ih2i106_107 v0 48, if_neg (fun z => absurd z.2 (by decide)), g1r2i104_105_0])] <;> (first | assumption | with_reducible rfl | grind)), (by show x_pat t n (vI h v0 41) (vI h v0 46) (vI h v0 45) (vI h v0 44) (vI h v0 49) (vI h v0 50) = x_pat t n (vI h2i106_107 v0 41) (vI h2i106_107 v0 46) (vI h2i106_107 v0 45) (vI h2i106_107 v0 44) (vI h2i106_107 v0 49) (vI h2i106_107 v0 50); rw [show vI h2i106_107 v0 41 = ((vI h v0 41) + 2) from (by rw [ih2i106_107 v0 41, if_pos ⟨rfl, rfl⟩]), show vI h2i106_107 v0 46 = (vI h v0 46 + 1) from (by rw [ih2i106_107 v0 46, if_neg (fun z => absurd z.2 (by decide)), g1r2i104_105_1]), show vI h2i106_107 v0 45 = (vI h v0 45) from (by rw [ih2i106_107 v0 45, if_neg (fun z => absurd z.2 (by decide)), f1r2i104_105_I v0 45 (by omega)]), show vI h2i106_107 v0 44 = (vI h v0 44) from (by rw [ih2i106_107 v0 44, if_neg (fun z => absurd z.2 (by decide)), f1r2i104_105_I v0 44 (by omega)]), show vI h2i106_107 v0 49 = (vI h v0 49) from (by rw [ih2i106_107 v0 49, if_neg (fun z => absurd z.2 (by decide)), f1r2i104_105_I v0 49 (by omega)]), show vI h2i106_107 v0 50 = 1 from (by rw [ih2i106_107 v0 50, if_neg (fun z => absurd z.2 (by decide)), g1r2i104_105_2])] <;> (rw [x_q92 n2 c, cc103, if_neg (by decide), if_neg (by decide), if_neg (by decide), if_pos (by decide), if_neg (by have q := g1r2i104_105_3; (first | grind (ematch := 0) | grind))])), (by show vI h v0 41 < vI h2i106_107 v0 41; rw [show vI h2i106_107 v0 41 = ((vI h v0 41) + 2) from (by rw [ih2i106_107 v0 41, if_pos ⟨rfl, rfl⟩])] <;> (exact x_lp2 n2 (by rw [c]; decide))), (by show 0 ≤ vI h2i106_107 v0 44 ∧ vI h2i106_107 v0 44 ≤ 3; rw [show vI h2i106_107 v0 44 = (vI h v0 44) from (by rw [ih2i106_107 v0 44, if_neg (fun z => absurd z.2 (by decide)), f1r2i104_105_I v0 44 (by omega)])] <;> (exact gb)), (fun a k na => by rw [ih2i106_107 a k, if_neg (fun z => na (Or.inr (Or.inr (Or.inl z)))), f1r2i104_105_I a k (fun z => na (z.elim (fun z => Or.inr (Or.inr (Or.inr (Or.inl z)))) (fun z => z.elim (fun z => Or.inl z) (fun z => z.elim (fun z => Or.inr (Or.inl z)) (fun z => Or.inr (Or.inr (Or.inr (Or.inr (Or.inl z)))))))))]), (fun a na => by rw [ah2i106_107 a, f1r2i104_105_A a (fun z => na (z.elim (fun z => Or.inl z) (fun z => z.elim (fun z => Or.inr (Or.inl z)) (fun z => z.elim (fun z => Or.inr (Or.inr (Or.inl z))) (fun z => Or.inr (Or.inr (Or.inr (z))))))))])⟩⟩
                      · intro hr2i104_105 Thr2i104_105 g0r2i104_105_0 g0r2i104_105_1 g0r2i104_105_2 f0r2i104_105_I f0r2i104_105_A
                        try dsimp only
                        unfold f_Mod_escaped_263
                        refine l_gI (e := (vI h v0 41)) (by rw [f0r2i104_105_I v0 41 (by omega)]) ?_
                        refine l_sI Thr2i104_105 (q_Mk kv0) (by decide) rfl ?_
                        intro h2i108_109 Th2i108_109 ih2i108_109 ah2i108_109
                        refine qi_some ?_
                        exact ⟨Th2i108_109, Or.inr ⟨(by show ¬ vI h2i108_109 v0 48 = 0; rw [show vI h2i108_109 v0 48 = (vI hr2i104_105 v0 48) from (by rw [ih2i108_109 v0 48, if_neg (fun z => absurd z.2 (by decide))])] <;> (first | assumption | decide)), (by show x_pat t n (vI h v0 41) (vI h v0 46) (vI h v0 45) (vI h v0 44) (vI h v0 49) (vI h v0 50) = none; rw [x_q92 n2 c, cc103, if_neg (by decide), if_neg (by decide), if_neg (by decide), if_pos (by decide), if_pos g0r2i104_105_2]), (fun a k na => by rw [ih2i108_109 a k, if_neg (fun z => na (Or.inr (Or.inr (Or.inl z)))), f0r2i104_105_I a k (fun z => na (z.elim (fun z => Or.inr (Or.inr (Or.inr (Or.inl z)))) (fun z => z.elim (fun z => Or.inl z) (fun z => z.elim (fun z => Or.inr (Or.inl z)) (fun z => Or.inr (Or.inr (Or.inr (Or.inr (Or.inl z)))))))))]), (fun a na => by rw [ah2i108_109 a, f0r2i104_105_A a (fun z => na (z.elim (fun z => Or.inl z) (fun z => z.elim (fun z => Or.inr (Or.inl z)) (fun z => z.elim (fun z => Or.inr (Or.inr (Or.inl z))) (fun z => Or.inr (Or.inr (Or.inr (z))))))))])⟩⟩
                    · skip
                      refine qi_if (fun cc110 => ?_) (fun cc110 => ?_)
                      · skip
                        unfold f_Mod_escaped_248
                        refine l_gO ?_
                        refine j_Mod_addItem (v0 := v0) (v1 := (0 : Int32)) (v2 := (x_lk t n (vI h v0 41 + 1))) (v3 := v1) T kv0 bd ?_ ?_
                        · intro hr2i111_112 Thr2i111_112 g1r2i111_112_0 g1r2i111_112_1 g1r2i111_112_2 g1r2i111_112_3 f1r2i111_112_I f1r2i111_112_A
                          try dsimp only
                          rw [if_neg (by decide)] at g1r2i111_112_1
                          rw [if_neg (by decide)] at g1r2i111_112_2
                          unfold f_Mod_escaped_263
                          refine l_gI (e := (vI h v0 41)) (by rw [f1r2i111_112_I v0 41 (by omega)]) ?_
                          refine l_sI Thr2i111_112 (q_Mk kv0) (by decide) rfl ?_
                          intro h2i113_114 Th2i113_114 ih2i113_114 ah2i113_114
                          refine qi_some ?_
                          exact ⟨Th2i113_114, Or.inl ⟨(by show vI h2i113_114 v0 48 = 0; rw [show vI h2i113_114 v0 48 = 0 from (by rw [ih2i113_114 v0 48, if_neg (fun z => absurd z.2 (by decide)), g1r2i111_112_0])] <;> (first | assumption | with_reducible rfl | grind)), (by show x_pat t n (vI h v0 41) (vI h v0 46) (vI h v0 45) (vI h v0 44) (vI h v0 49) (vI h v0 50) = x_pat t n (vI h2i113_114 v0 41) (vI h2i113_114 v0 46) (vI h2i113_114 v0 45) (vI h2i113_114 v0 44) (vI h2i113_114 v0 49) (vI h2i113_114 v0 50); rw [show vI h2i113_114 v0 41 = ((vI h v0 41) + 2) from (by rw [ih2i113_114 v0 41, if_pos ⟨rfl, rfl⟩]), show vI h2i113_114 v0 46 = (vI h v0 46 + 1) from (by rw [ih2i113_114 v0 46, if_neg (fun z => absurd z.2 (by decide)), g1r2i111_112_1]), show vI h2i113_114 v0 45 = (vI h v0 45) from (by rw [ih2i113_114 v0 45, if_neg (fun z => absurd z.2 (by decide)), f1r2i111_112_I v0 45 (by omega)]), show vI h2i113_114 v0 44 = (vI h v0 44) from (by rw [ih2i113_114 v0 44, if_neg (fun z => absurd z.2 (by decide)), f1r2i111_112_I v0 44 (by omega)]), show vI h2i113_114 v0 49 = (vI h v0 49) from (by rw [ih2i113_114 v0 49, if_neg (fun z => absurd z.2 (by decide)), f1r2i111_112_I v0 49 (by omega)]), show vI h2i113_114 v0 50 = 1 from (by rw [ih2i113_114 v0 50, if_neg (fun z => absurd z.2 (by decide)), g1r2i111_112_2])] <;> (rw [x_q92 n2 c, cc110, if_neg (by decide), if_neg (by decide), if_neg (by decide), if_pos (by decide), if_neg (by have q := g1r2i111_112_3; (first | grind (ematch := 0) | grind))])), (by show vI h v0 41 < vI h2i113_114 v0 41; rw [show vI h2i113_114 v0 41 = ((vI h v0 41) + 2) from (by rw [ih2i113_114 v0 41, if_pos ⟨rfl, rfl⟩])] <;> (exact x_lp2 n2 (by rw [c]; decide))), (by show 0 ≤ vI h2i113_114 v0 44 ∧ vI h2i113_114 v0 44 ≤ 3; rw [show vI h2i113_114 v0 44 = (vI h v0 44) from (by rw [ih2i113_114 v0 44, if_neg (fun z => absurd z.2 (by decide)), f1r2i111_112_I v0 44 (by omega)])] <;> (exact gb)), (fun a k na => by rw [ih2i113_114 a k, if_neg (fun z => na (Or.inr (Or.inr (Or.inl z)))), f1r2i111_112_I a k (fun z => na (z.elim (fun z => Or.inr (Or.inr (Or.inr (Or.inl z)))) (fun z => z.elim (fun z => Or.inl z) (fun z => z.elim (fun z => Or.inr (Or.inl z)) (fun z => Or.inr (Or.inr (Or.inr (Or.inr (Or.inl z)))))))))]), (fun a na => by rw [ah2i113_114 a, f1r2i111_112_A a (fun z => na (z.elim (fun z => Or.inl z) (fun z => z.elim (fun z => Or.inr (Or.inl z)) (fun z => z.elim (fun z => Or.inr (Or.inr (Or.inl z))) (fun z => Or.inr (Or.inr (Or.inr (z))))))))])⟩⟩
                        · intro hr2i111_112 Thr2i111_112 g0r2i111_112_0 g0r2i111_112_1 g0r2i111_112_2 f0r2i111_112_I f0r2i111_112_A
                          try dsimp only
                          unfold f_Mod_escaped_263
                          refine l_gI (e := (vI h v0 41)) (by rw [f0r2i111_112_I v0 41 (by omega)]) ?_
                          refine l_sI Thr2i111_112 (q_Mk kv0) (by decide) rfl ?_
                          intro h2i115_116 Th2i115_116 ih2i115_116 ah2i115_116
                          refine qi_some ?_
                          exact ⟨Th2i115_116, Or.inr ⟨(by show ¬ vI h2i115_116 v0 48 = 0; rw [show vI h2i115_116 v0 48 = (vI hr2i111_112 v0 48) from (by rw [ih2i115_116 v0 48, if_neg (fun z => absurd z.2 (by decide))])] <;> (first | assumption | decide)), (by show x_pat t n (vI h v0 41) (vI h v0 46) (vI h v0 45) (vI h v0 44) (vI h v0 49) (vI h v0 50) = none; rw [x_q92 n2 c, cc110, if_neg (by decide), if_neg (by decide), if_neg (by decide), if_pos (by decide), if_pos g0r2i111_112_2]), (fun a k na => by rw [ih2i115_116 a k, if_neg (fun z => na (Or.inr (Or.inr (Or.inl z)))), f0r2i111_112_I a k (fun z => na (z.elim (fun z => Or.inr (Or.inr (Or.inr (Or.inl z)))) (fun z => z.elim (fun z => Or.inl z) (fun z => z.elim (fun z => Or.inr (Or.inl z)) (fun z => Or.inr (Or.inr (Or.inr (Or.inr (Or.inl z)))))))))]), (fun a na => by rw [ah2i115_116 a, f0r2i111_112_A a (fun z => na (z.elim (fun z => Or.inl z) (fun z => z.elim (fun z => Or.inr (Or.inl z)) (fun z => z.elim (fun z => Or.inr (Or.inr (Or.inl z))) (fun z => Or.inr (Or.inr (Or.inr (z))))))))])⟩⟩
                      · skip
                        refine l_gO ?_
                        refine j_Mod_wrong (v0 := v0) (v1 := v1) T kv0 ?_
                        intro hr17_117 Thr17_117 gr17_117_0 fr17_117_I fr17_117_A
                        try dsimp only
                        unfold f_Mod_escaped_263
                        refine l_gI (e := (vI h v0 41)) (by rw [fr17_117_I v0 41 (by omega)]) ?_
                        refine l_sI Thr17_117 (q_Mk kv0) (by decide) rfl ?_
                        intro h2i118_119 Th2i118_119 ih2i118_119 ah2i118_119
                        refine qi_some ?_
                        exact ⟨Th2i118_119, Or.inr ⟨(by show ¬ vI h2i118_119 v0 48 = 0; rw [show vI h2i118_119 v0 48 = 1 from (by rw [ih2i118_119 v0 48, if_neg (fun z => absurd z.2 (by decide)), gr17_117_0])] <;> (first | assumption | decide)), (by show x_pat t n (vI h v0 41) (vI h v0 46) (vI h v0 45) (vI h v0 44) (vI h v0 49) (vI h v0 50) = none; rw [x_q92 n2 c, if_neg (by assumption), if_neg (by assumption), if_neg (by assumption), if_neg (by (first | grind (ematch := 0) | grind))]), (fun a k na => by rw [ih2i118_119 a k, if_neg (fun z => na (Or.inr (Or.inr (Or.inl z)))), fr17_117_I a k (fun z => na (z.elim (fun z => Or.inl z) (fun z => Or.inr (Or.inl z))))]), (fun a na => by rw [ah2i118_119 a, fr17_117_A a (by omega)])⟩⟩
theorem j_Mod_escaped {L : q_L} {π : Nat → Nat → Option Nat} {N : Nat} {t : Int32 → Int32} {n : Int32} {h : z_H} {v0 : Nat} {v1 : Int32} {β : Type} {f : z_H → Option β} {Q : β → Prop} (T : x_U L π h) (kv0 : q_M L π v0) (ht : ∀ j, 0 ≤ j → j < n → vA h (v0 + 1) j = t j) (hn : vI h v0 3 = n) (n1 : n ≤ 240) (tp : ∀ j, t j ≠ -1) (bd : vI h v0 48 = 0) (gb : 0 ≤ vI h v0 44 ∧ vI h v0 44 ≤ 3) (a0 : 0 ≤ vI h v0 41) (c : x_lk t n (vI h v0 41) = 92) (H1 : ∀ h', x_U L π h' → (vI h' v0 48 = 0) → (x_pat t n (vI h v0 41) (vI h v0 46) (vI h v0 45) (vI h v0 44) (vI h v0 49) (vI h v0 50) = x_pat t n (vI h' v0 41) (vI h' v0 46) (vI h' v0 45) (vI h' v0 44) (vI h' v0 49) (vI h' v0 50)) → (vI h v0 41 < vI h' v0 41) → (0 ≤ vI h' v0 44 ∧ vI h' v0 44 ≤ 3) → (∀ a k, ¬ ((a = v0 ∧ k = 5) ∨ (a = v0 ∧ k = 48) ∨ (a = v0 ∧ k = 41) ∨ (a = v0 ∧ k = 50) ∨ (a = v0 ∧ k = 46) ∨ (a = v0 ∧ k = 49) ∨ (a = v0 ∧ k = 44)) → vI h' a k = vI h a k) → (∀ a, ¬ (a = (v0 + 26) ∨ a = (v0 + 27) ∨ a = (v0 + 29) ∨ a = (v0 + 21)) → vA h' a = vA h a) → qi (f h') Q) (H0 : ∀ h', x_U L π h' → (¬ vI h' v0 48 = 0) → (x_pat t n (vI h v0 41) (vI h v0 46) (vI h v0 45) (vI h v0 44) (vI h v0 49) (vI h v0 50) = none) → (∀ a k, ¬ ((a = v0 ∧ k = 5) ∨ (a = v0 ∧ k = 48) ∨ (a = v0 ∧ k = 41) ∨ (a = v0 ∧ k = 50) ∨ (a = v0 ∧ k = 46) ∨ (a = v0 ∧ k = 49) ∨ (a = v0 ∧ k = 44)) → vI h' a k = vI h a k) → (∀ a, ¬ (a = (v0 + 26) ∨ a = (v0 + 27) ∨ a = (v0 + 29) ∨ a = (v0 + 21)) → vA h' a = vA h a) → qi (f h') Q) : qi (z_b (f_Mod_escaped N v0 v1 h) f) Q := by
  refine qi_b (i_Mod_escaped  T kv0 ht hn n1 tp bd gb a0 c) ?_
  rintro hz ⟨Tz, ⟨g0, g1, g2, g3, g4, g5⟩ | ⟨g0, g1, g2, g3⟩⟩
  · exact H1 hz Tz g0 g1 g2 g3 g4 g5
  · exact H0 hz Tz g0 g1 g2 g3

