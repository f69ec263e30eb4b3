set_option maxHeartbeats 8000000 in
theorem i_Mod_exchange_16 {L : q_L} {π : Nat → Nat → Option Nat} {N : Nat} {t : Int32 → Int32} {n : Int32} {yf Fv : Int32} : ∀ (m9 : Nat) (v0 : Nat) (v1 : Int32) (h : z_H), x_U L π h → q_M L π v0 → (∀ j, 0 ≤ j → j < n → vA h (v0 + 1) j = t j) → (vI h v0 3 = n) → (n ≤ 240) → (∀ j, t j ≠ -1) → (vI h v0 48 = 0 → 0 ≤ vI h v0 41) → (vI h v0 48 = 0 → x_EX t n yf Fv (300 * vI h v0 42 + vA h (v0 + 22) (vI h v0 42)) (vI h v0 41) (vA h (v0 + 28))) → (vA h (v0 + 10) v1 = Fv) → qi (f_Mod_exchange_16 N m9 v0 v1 h) (fun r => x_U L π r ∧ (((vI r v0 48 = 0) ∧ (vI h v0 48 = 0) ∧ (x_yy t n yf (vI h v0 41) = some (vI r v0 41)) ∧ (∀ a k, ¬ ((a = v0 ∧ k = 41) ∨ (a = v0 ∧ k = 5) ∨ (a = v0 ∧ k = 48)) → vI r a k = vI h a k) ∧ (∀ a, ¬ (a = (v0 + 12) ∨ a = (v0 + 28) ∨ a = (v0 + 22) ∨ a = (v0 + 11)) → vA r a = vA h a)) ∨ ((¬ vI r v0 48 = 0) ∧ (¬ vI h v0 48 = 0 ∨ x_yy t n yf (vI h v0 41) = none) ∧ (∀ a k, ¬ ((a = v0 ∧ k = 41) ∨ (a = v0 ∧ k = 5) ∨ (a = v0 ∧ k = 48)) → vI r a k = vI h a k) ∧ (∀ a, ¬ (a = (v0 + 12) ∨ a = (v0 + 28) ∨ a = (v0 + 22) ∨ a = (v0 + 11)) → vA r a = vA h a)))) := by
  intro m9
  induction m9 with
  | zero => intro v0 v1 h T kv0 ht hn n1 tp a0 ex hF r e; rw [f_Mod_exchange_16] at e; cases e
  | succ m9 ih =>
    intro v0 v1 h T kv0 ht hn n1 tp a0 ex hF
    rw [f_Mod_exchange_16]
    have n2 : n ≤ 1000 := Int32.le_trans n1 (by decide)
    refine l_gI (e := (vI h v0 48)) rfl ?_
    refine qi_if (fun cc1 => ?_) (fun cc1 => ?_)
    · skip
      have a0 := a0 cc1
      have ex := ex cc1
      refine l_gO ?_
      refine j_Mod_here (v0 := v0) (t := t) (n := n) (e := (x_lk t n (vI h v0 41))) T kv0 ht hn rfl ?_
      try dsimp only
      refine qi_if (fun cc3 => ?_) (fun cc3 => ?_)
      · skip
        unfold f_Mod_exchange_138
        refine l_gI (e := (vI h v0 41)) rfl ?_
        refine l_sI T (q_Mk kv0) (by decide) rfl ?_
        intro h2i4_5 Th2i4_5 ih2i4_5 ah2i4_5
        refine l_gR Th2i4_5 (d_Mo_17 kv0) ?_
        refine l_gO ?_
        refine j_Mod_stored (v0 := v0) (e := (300 * (vI h v0 42) + vA h (v0 + 22) (vI h v0 42))) Th2i4_5 kv0 (by rw [show vI h2i4_5 v0 42 = (vI h v0 42) from (by rw [ih2i4_5 v0 42, if_neg (fun z => absurd z.2 (by decide))]), show vA h2i4_5 (v0 + 22) = vA h (v0 + 22) from (by rw [ah2i4_5 (v0 + 22)])]) ?_
        try dsimp only
        refine l_uI Th2i4_5 ?_
        intro h6i4_7 Th6i4_7 jh6i4_7 ih6i4_7 ah6i4_7 bh6i4_7
        refine l_gR Th6i4_7 (d_Mo_17 kv0) ?_
        refine l_aI (e := (300 * (vI h v0 42) + vA h (v0 + 22) (vI h v0 42))) (fun ix8 => (by rw [ah6i4_7 (v0 + 12) v1 jh6i4_7, if_pos ⟨rfl, rfl⟩])) (fun ix8 => ?_)
        refine l_gR Th6i4_7 (d_Mo_15 kv0) ?_
        refine l_aI (e := (vA h (v0 + 10) v1)) (fun ix9 => (by rw [bh6i4_7 (v0 + 10) (by omega), ah2i4_5 (v0 + 10)])) (fun ix9 => ?_)
        refine qi_bs ?_
        refine qi_tail ?_
        refine j_Mod_exchange_174 (v0 := v0) (v1 := v1) (v2 := ((300 * (vI h v0 42) + vA h (v0 + 22) (vI h v0 42)) - (vA h (v0 + 10) v1))) (v3 := (0 : Int32)) (t := t) (n := n) Th6i4_7 kv0 (by show ∀ j, 0 ≤ j → j < n → vA h6i4_7 (v0 + 1) j = t j; rw [show vA h6i4_7 (v0 + 1) = vA h (v0 + 1) from (by rw [bh6i4_7 (v0 + 1) (by omega), ah2i4_5 (v0 + 1)])] <;> (first | assumption | with_reducible rfl | grind)) (by show vI h6i4_7 v0 3 = n; rw [show vI h6i4_7 v0 3 = (vI h v0 3) from (by rw [ih6i4_7 v0 3, ih2i4_5 v0 3, if_neg (fun z => absurd z.2 (by decide))])] <;> (first | assumption | with_reducible rfl | grind)) n1 tp (by show vI h6i4_7 v0 48 = 0 → 0 ≤ vI h6i4_7 v0 41; rw [show vI h6i4_7 v0 48 = (vI h v0 48) from (by rw [ih6i4_7 v0 48, ih2i4_5 v0 48, if_neg (fun z => absurd z.2 (by decide))]), show vI h6i4_7 v0 41 = ((vI h v0 41) + 1) from (by rw [ih6i4_7 v0 41, ih2i4_5 v0 41, if_pos ⟨rfl, rfl⟩])] <;> (intro z9; exact x_0le a0 (x_lp1 n2 (t := t) (x_ne cc3)))) (by show vI h6i4_7 v0 48 = 0 → 0 ≤ (0 : Int32) ∧ (0 : Int32) ≤ ((300 * (vI h v0 42) + vA h (v0 + 22) (vI h v0 42)) - (vA h (v0 + 10) v1)) ∧ ((300 * (vI h v0 42) + vA h (v0 + 22) (vI h v0 42)) - (vA h (v0 + 10) v1)) ≤ 1000; rw [show vI h6i4_7 v0 48 = (vI h v0 48) from (by rw [ih6i4_7 v0 48, ih2i4_5 v0 48, if_neg (fun z => absurd z.2 (by decide))])] <;> (intro z9; exact x_EX_wk n2 ex hF)) ?_ ?_
        · intro hrz10_11 Thrz10_11 g1rz10_11_0 g1rz10_11_1 g1rz10_11_2 f1rz10_11_I f1rz10_11_A
          try dsimp only
          rw [show vI h6i4_7 v0 48 = (vI h v0 48) from (by rw [ih6i4_7 v0 48, ih2i4_5 v0 48, if_neg (fun z => absurd z.2 (by decide))])] at g1rz10_11_1
          rw [show vI h6i4_7 v0 41 = ((vI h v0 41) + 1) from (by rw [ih6i4_7 v0 41, ih2i4_5 v0 41, if_pos ⟨rfl, rfl⟩])] at g1rz10_11_2
          refine qi_some ?_
          exact ⟨Thrz10_11, Or.inl ⟨(by show vI hrz10_11 v0 48 = 0; rw [show vI hrz10_11 v0 48 = 0 from (by rw [g1rz10_11_0])] <;> (first | assumption | with_reducible rfl | grind)), (by show vI h v0 48 = 0; first | assumption | with_reducible rfl | grind), (by show x_yy t n yf (vI h v0 41) = some (vI hrz10_11 v0 41); rw [x_yy_s (x_yf47 n2 cc3), ← x_EX_d ex hF]; have g9 := g1rz10_11_2; rw [Int32.sub_zero] at g9; exact g9), (fun a k na => by rw [f1rz10_11_I a k (fun z => na (z.elim (fun z => Or.inr (Or.inl z)) (fun z => z.elim (fun z => Or.inr (Or.inr (z))) (fun z => Or.inl z)))), ih6i4_7 a k, ih2i4_5 a k, if_neg (fun z => na (Or.inl z))]), (fun a na => by rw [f1rz10_11_A a (fun z => na (z.elim (fun z => Or.inr (Or.inl z)) (fun z => z.elim (fun z => Or.inr (Or.inr (Or.inl z))) (fun z => Or.inr (Or.inr (Or.inr (z))))))), bh6i4_7 a (fun z => na (Or.inl z)), ah2i4_5 a])⟩⟩
        · intro hrz10_11 Thrz10_11 g0rz10_11_0 g0rz10_11_1 f0rz10_11_I f0rz10_11_A
          try dsimp only
          rw [show vI h6i4_7 v0 48 = (vI h v0 48) from (by rw [ih6i4_7 v0 48, ih2i4_5 v0 48, if_neg (fun z => absurd z.2 (by decide))]), show vI h6i4_7 v0 41 = ((vI h v0 41) + 1) from (by rw [ih6i4_7 v0 41, ih2i4_5 v0 41, if_pos ⟨rfl, rfl⟩])] at g0rz10_11_1
          refine qi_some ?_
          exact ⟨Thrz10_11, Or.inr ⟨g0rz10_11_0, (by show ¬ vI h v0 48 = 0 ∨ x_yy t n yf (vI h v0 41) = none; refine Or.inr ?_; rw [x_yy_s (x_yf47 n2 cc3), ← x_EX_d ex hF]; have g9 := (g0rz10_11_1.resolve_left (fun z => z (by first | rfl | assumption))); rw [Int32.sub_zero] at g9; exact g9), (fun a k na => by rw [f0rz10_11_I a k (fun z => na (z.elim (fun z => Or.inr (Or.inl z)) (fun z => z.elim (fun z => Or.inr (Or.inr (z))) (fun z => Or.inl z)))), ih6i4_7 a k, ih2i4_5 a k, if_neg (fun z => na (Or.inl z))]), (fun a na => by rw [f0rz10_11_A a (fun z => na (z.elim (fun z => Or.inr (Or.inl z)) (fun z => z.elim (fun z => Or.inr (Or.inr (Or.inl z))) (fun z => Or.inr (Or.inr (Or.inr (z))))))), bh6i4_7 a (fun z => na (Or.inl z)), ah2i4_5 a])⟩⟩
      · skip
        refine l_gO ?_
        refine j_Mod_here (v0 := v0) (t := t) (n := n) (e := (x_lk t n (vI h v0 41))) T kv0 ht hn rfl ?_
        try dsimp only
        refine qi_bs ?_
        refine qi_if (fun cc13 => ?_) (fun cc13 => ?_)
        · skip
          unfold f_Mod_exchange_54
          refine qi_if (fun _ => ?_) (fun cc15 => absurd cc13 cc15)
          refine l_gI (e := (vI h v0 3)) rfl ?_
          unfold f_Mod_exchange_71
          refine l_gO ?_
          refine j_Mod_wrong (v0 := v0) (v1 := (vI h v0 3)) T kv0 ?_
          intro hr2i16_17 Thr2i16_17 gr2i16_17_0 fr2i16_17_I fr2i16_17_A
          try dsimp only
          unfold f_Mod_exchange_74
          refine l_gR Thr2i16_17 (d_Mo_15 kv0) ?_
          refine l_aI (e := (vA h (v0 + 10) v1)) (fun ix19 => (by rw [fr2i16_17_A (v0 + 10) (by omega)])) (fun ix19 => ?_)
          rw [x_cps81]
          refine j_Mod_exchange_81s (v0 := v0) (v1 := v1) (v2 := (x_lk t n (vI h v0 41))) (v3 := (vA h (v0 + 10) v1)) Thr2i16_17 kv0 ?_ ?_
          · intro hrc20_21 Thrc20_21 g1rc20_21_0 g1rc20_21_1 g1rc20_21_2 g1rc20_21_3 g1rc20_21_4 g1rc20_21_5 g1rc20_21_6 f1rc20_21_I f1rc20_21_A
            try dsimp only
            rw [show vI hr2i16_17 v0 41 = (vI h v0 41) from (by rw [fr2i16_17_I v0 41 (by omega)])] at g1rc20_21_2
            rw [show vI hr2i16_17 v0 42 = (vI h v0 42) from (by rw [fr2i16_17_I v0 42 (by omega)]), show vA hr2i16_17 (v0 + 22) = vA h (v0 + 22) from (by rw [fr2i16_17_A (v0 + 22) (by omega)])] at g1rc20_21_3
            rw [show vI hr2i16_17 v0 48 = 1 from (by rw [gr2i16_17_0])] at g1rc20_21_1
            rw [show vI hr2i16_17 v0 42 = (vI h v0 42) from (by rw [fr2i16_17_I v0 42 (by omega)]), show vA hr2i16_17 (v0 + 22) = vA h (v0 + 22) from (by rw [fr2i16_17_A (v0 + 22) (by omega)]), show vA hr2i16_17 (v0 + 28) = vA h (v0 + 28) from (by rw [fr2i16_17_A (v0 + 28) (by omega)])] at g1rc20_21_4
            rw [show vI hr2i16_17 v0 42 = (vI h v0 42) from (by rw [fr2i16_17_I v0 42 (by omega)]), show vA hr2i16_17 (v0 + 22) = vA h (v0 + 22) from (by rw [fr2i16_17_A (v0 + 22) (by omega)]), show vA hr2i16_17 (v0 + 28) = vA h (v0 + 28) from (by rw [fr2i16_17_A (v0 + 28) (by omega)])] at g1rc20_21_5
            rw [show vI hr2i16_17 v0 42 = (vI h v0 42) from (by rw [fr2i16_17_I v0 42 (by omega)]), show vA hr2i16_17 (v0 + 22) = vA h (v0 + 22) from (by rw [fr2i16_17_A (v0 + 22) (by omega)])] at g1rc20_21_6
            exact absurd g1rc20_21_1 (by decide)
          · intro hrc20_21 Thrc20_21 g0rc20_21_0 g0rc20_21_1 f0rc20_21_I f0rc20_21_A
            try dsimp only
            rw [show vI hr2i16_17 v0 48 = 1 from (by rw [gr2i16_17_0]), show vI hr2i16_17 v0 42 = (vI h v0 42) from (by rw [fr2i16_17_I v0 42 (by omega)]), show vA hr2i16_17 (v0 + 22) = vA h (v0 + 22) from (by rw [fr2i16_17_A (v0 + 22) (by omega)]), show vA hr2i16_17 (v0 + 28) = vA h (v0 + 28) from (by rw [fr2i16_17_A (v0 + 28) (by omega)])] at g0rc20_21_1
            refine qi_mono (ih v0 v1 hrc20_21 Thrc20_21 kv0 (by show ∀ j, 0 ≤ j → j < n → vA hrc20_21 (v0 + 1) j = t j; rw [show vA hrc20_21 (v0 + 1) = vA h (v0 + 1) from (by rw [f0rc20_21_A (v0 + 1) (by omega), fr2i16_17_A (v0 + 1) (by omega)])] <;> (first | assumption | with_reducible rfl | grind)) (by show vI hrc20_21 v0 3 = n; rw [show vI hrc20_21 v0 3 = (vI h v0 3) from (by rw [f0rc20_21_I v0 3 (by omega), fr2i16_17_I v0 3 (by omega)])] <;> (first | assumption | with_reducible rfl | grind)) n1 tp (by show vI hrc20_21 v0 48 = 0 → 0 ≤ vI hrc20_21 v0 41; intro z9; exact absurd z9 g0rc20_21_0) (by show vI hrc20_21 v0 48 = 0 → x_EX t n yf Fv (300 * vI hrc20_21 v0 42 + vA hrc20_21 (v0 + 22) (vI hrc20_21 v0 42)) (vI hrc20_21 v0 41) (vA hrc20_21 (v0 + 28)); rw [show vI hrc20_21 v0 42 = (vI h v0 42) from (by rw [f0rc20_21_I v0 42 (by omega), fr2i16_17_I v0 42 (by omega)])] <;> (intro z9; exact absurd z9 g0rc20_21_0)) (by show vA hrc20_21 (v0 + 10) v1 = Fv; rw [show vA hrc20_21 (v0 + 10) = vA h (v0 + 10) from (by rw [f0rc20_21_A (v0 + 10) (by omega), fr2i16_17_A (v0 + 10) (by omega)])] <;> (first | assumption | with_reducible rfl | grind))) ?_
            rintro hrz22_23 ⟨Thrz22_23, ⟨g1rz22_23_0, g1rz22_23_1, g1rz22_23_2, f1rz22_23_I, f1rz22_23_A⟩ | ⟨g0rz22_23_0, g0rz22_23_1, f0rz22_23_I, f0rz22_23_A⟩⟩
            · try dsimp only at *
              exact absurd g1rz22_23_1 g0rc20_21_0
            · try dsimp only at *
              exact ⟨Thrz22_23, Or.inr ⟨g0rz22_23_0, (by show ¬ vI h v0 48 = 0 ∨ x_yy t n yf (vI h v0 41) = none; refine Or.inr ?_; exact x_yy_n (x_yfn tp n2 cc3 (Or.inl (Or.inl cc13)))), (fun a k na => by rw [f0rz22_23_I a k (fun z => na (z.elim (fun z => Or.inl z) (fun z => z.elim (fun z => Or.inr (Or.inl z)) (fun z => Or.inr (Or.inr (z)))))), f0rc20_21_I a k (fun z => na (z.elim (fun z => Or.inl z) (fun z => z.elim (fun z => Or.inr (Or.inl z)) (fun z => Or.inr (Or.inr (z)))))), fr2i16_17_I a k (fun z => na (z.elim (fun z => Or.inr (Or.inl z)) (fun z => Or.inr (Or.inr (z)))))]), (fun a na => by rw [f0rz22_23_A a (fun z => na (z.elim (fun z => Or.inl z) (fun z => z.elim (fun z => Or.inr (Or.inl z)) (fun z => z.elim (fun z => Or.inr (Or.inr (Or.inl z))) (fun z => Or.inr (Or.inr (Or.inr (z)))))))), f0rc20_21_A a (fun z => na (z.elim (fun z => Or.inr (Or.inl z)) (fun z => Or.inr (Or.inr (Or.inl z))))), fr2i16_17_A a (by omega)])⟩⟩
        · skip
          refine qi_if (fun cc24 => ?_) (fun cc24 => ?_)
          · skip
            unfold f_Mod_exchange_54
            refine qi_if (fun cc26 => absurd cc26 cc13) (fun _ => ?_)
            refine l_gI (e := (vI h v0 41)) rfl ?_
            unfold f_Mod_exchange_71
            refine l_gO ?_
            refine j_Mod_wrong (v0 := v0) (v1 := (vI h v0 41)) T kv0 ?_
            intro hr2i27_28 Thr2i27_28 gr2i27_28_0 fr2i27_28_I fr2i27_28_A
            try dsimp only
            unfold f_Mod_exchange_74
            refine l_gR Thr2i27_28 (d_Mo_15 kv0) ?_
            refine l_aI (e := (vA h (v0 + 10) v1)) (fun ix30 => (by rw [fr2i27_28_A (v0 + 10) (by omega)])) (fun ix30 => ?_)
            rw [x_cps81]
            refine j_Mod_exchange_81s (v0 := v0) (v1 := v1) (v2 := (x_lk t n (vI h v0 41))) (v3 := (vA h (v0 + 10) v1)) Thr2i27_28 kv0 ?_ ?_
            · intro hrc31_32 Thrc31_32 g1rc31_32_0 g1rc31_32_1 g1rc31_32_2 g1rc31_32_3 g1rc31_32_4 g1rc31_32_5 g1rc31_32_6 f1rc31_32_I f1rc31_32_A
              try dsimp only
              rw [show vI hr2i27_28 v0 41 = (vI h v0 41) from (by rw [fr2i27_28_I v0 41 (by omega)])] at g1rc31_32_2
              rw [show vI hr2i27_28 v0 42 = (vI h v0 42) from (by rw [fr2i27_28_I v0 42 (by omega)]), show vA hr2i27_28 (v0 + 22) = vA h (v0 + 22) from (by rw [fr2i27_28_A (v0 + 22) (by omega)])] at g1rc31_32_3
              rw [show vI hr2i27_28 v0 48 = 1 from (by rw [gr2i27_28_0])] at g1rc31_32_1
              rw [show vI hr2i27_28 v0 42 = (vI h v0 42) from (by rw [fr2i27_28_I v0 42 (by omega)]), show vA hr2i27_28 (v0 + 22) = vA h (v0 + 22) from (by rw [fr2i27_28_A (v0 + 22) (by omega)]), show vA hr2i27_28 (v0 + 28) = vA h (v0 + 28) from (by rw [fr2i27_28_A (v0 + 28) (by omega)])] at g1rc31_32_4
              rw [show vI hr2i27_28 v0 42 = (vI h v0 42) from (by rw [fr2i27_28_I v0 42 (by omega)]), show vA hr2i27_28 (v0 + 22) = vA h (v0 + 22) from (by rw [fr2i27_28_A (v0 + 22) (by omega)]), show vA hr2i27_28 (v0 + 28) = vA h (v0 + 28) from (by rw [fr2i27_28_A (v0 + 28) (by omega)])] at g1rc31_32_5
              rw [show vI hr2i27_28 v0 42 = (vI h v0 42) from (by rw [fr2i27_28_I v0 42 (by omega)]), show vA hr2i27_28 (v0 + 22) = vA h (v0 + 22) from (by rw [fr2i27_28_A (v0 + 22) (by omega)])] at g1rc31_32_6
              exact absurd g1rc31_32_1 (by decide)
            · intro hrc31_32 Thrc31_32 g0rc31_32_0 g0rc31_32_1 f0rc31_32_I f0rc31_32_A
              try dsimp only
              rw [show vI hr2i27_28 v0 48 = 1 from (by rw [gr2i27_28_0]), show vI hr2i27_28 v0 42 = (vI h v0 42) from (by rw [fr2i27_28_I v0 42 (by omega)]), show vA hr2i27_28 (v0 + 22) = vA h (v0 + 22) from (by rw [fr2i27_28_A (v0 + 22) (by omega)]), show vA hr2i27_28 (v0 + 28) = vA h (v0 + 28) from (by rw [fr2i27_28_A (v0 + 28) (by omega)])] at g0rc31_32_1
              refine qi_mono (ih v0 v1 hrc31_32 Thrc31_32 kv0 (by show ∀ j, 0 ≤ j → j < n → vA hrc31_32 (v0 + 1) j = t j; rw [show vA hrc31_32 (v0 + 1) = vA h (v0 + 1) from (by rw [f0rc31_32_A (v0 + 1) (by omega), fr2i27_28_A (v0 + 1) (by omega)])] <;> (first | assumption | with_reducible rfl | grind)) (by show vI hrc31_32 v0 3 = n; rw [show vI hrc31_32 v0 3 = (vI h v0 3) from (by rw [f0rc31_32_I v0 3 (by omega), fr2i27_28_I v0 3 (by omega)])] <;> (first | assumption | with_reducible rfl | grind)) n1 tp (by show vI hrc31_32 v0 48 = 0 → 0 ≤ vI hrc31_32 v0 41; intro z9; exact absurd z9 g0rc31_32_0) (by show vI hrc31_32 v0 48 = 0 → x_EX t n yf Fv (300 * vI hrc31_32 v0 42 + vA hrc31_32 (v0 + 22) (vI hrc31_32 v0 42)) (vI hrc31_32 v0 41) (vA hrc31_32 (v0 + 28)); rw [show vI hrc31_32 v0 42 = (vI h v0 42) from (by rw [f0rc31_32_I v0 42 (by omega), fr2i27_28_I v0 42 (by omega)])] <;> (intro z9; exact absurd z9 g0rc31_32_0)) (by show vA hrc31_32 (v0 + 10) v1 = Fv; rw [show vA hrc31_32 (v0 + 10) = vA h (v0 + 10) from (by rw [f0rc31_32_A (v0 + 10) (by omega), fr2i27_28_A (v0 + 10) (by omega)])] <;> (first | assumption | with_reducible rfl | grind))) ?_
              rintro hrz33_34 ⟨Thrz33_34, ⟨g1rz33_34_0, g1rz33_34_1, g1rz33_34_2, f1rz33_34_I, f1rz33_34_A⟩ | ⟨g0rz33_34_0, g0rz33_34_1, f0rz33_34_I, f0rz33_34_A⟩⟩
              · try dsimp only at *
                exact absurd g1rz33_34_1 g0rc31_32_0
              · try dsimp only at *
                exact ⟨Thrz33_34, Or.inr ⟨g0rz33_34_0, (by show ¬ vI h v0 48 = 0 ∨ x_yy t n yf (vI h v0 41) = none; refine Or.inr ?_; exact x_yy_n (x_yfn tp n2 cc3 (Or.inl (Or.inr (Or.inl cc24))))), (fun a k na => by rw [f0rz33_34_I a k (fun z => na (z.elim (fun z => Or.inl z) (fun z => z.elim (fun z => Or.inr (Or.inl z)) (fun z => Or.inr (Or.inr (z)))))), f0rc31_32_I a k (fun z => na (z.elim (fun z => Or.inl z) (fun z => z.elim (fun z => Or.inr (Or.inl z)) (fun z => Or.inr (Or.inr (z)))))), fr2i27_28_I a k (fun z => na (z.elim (fun z => Or.inr (Or.inl z)) (fun z => Or.inr (Or.inr (z)))))]), (fun a na => by rw [f0rz33_34_A a (fun z => na (z.elim (fun z => Or.inl z) (fun z => z.elim (fun z => Or.inr (Or.inl z)) (fun z => z.elim (fun z => Or.inr (Or.inr (Or.inl z))) (fun z => Or.inr (Or.inr (Or.inr (z)))))))), f0rc31_32_A a (fun z => na (z.elim (fun z => Or.inr (Or.inl z)) (fun z => Or.inr (Or.inr (Or.inl z))))), fr2i27_28_A a (by omega)])⟩⟩
          · skip
            refine qi_if (fun cc35 => ?_) (fun cc35 => ?_)
            · skip
              unfold f_Mod_exchange_54
              refine qi_if (fun cc37 => absurd cc37 cc13) (fun _ => ?_)
              refine l_gI (e := (vI h v0 41)) rfl ?_
              unfold f_Mod_exchange_71
              refine l_gO ?_
              refine j_Mod_wrong (v0 := v0) (v1 := (vI h v0 41)) T kv0 ?_
              intro hr2i38_39 Thr2i38_39 gr2i38_39_0 fr2i38_39_I fr2i38_39_A
              try dsimp only
              unfold f_Mod_exchange_74
              refine l_gR Thr2i38_39 (d_Mo_15 kv0) ?_
              refine l_aI (e := (vA h (v0 + 10) v1)) (fun ix41 => (by rw [fr2i38_39_A (v0 + 10) (by omega)])) (fun ix41 => ?_)
              rw [x_cps81]
              refine j_Mod_exchange_81s (v0 := v0) (v1 := v1) (v2 := (x_lk t n (vI h v0 41))) (v3 := (vA h (v0 + 10) v1)) Thr2i38_39 kv0 ?_ ?_
              · intro hrc42_43 Thrc42_43 g1rc42_43_0 g1rc42_43_1 g1rc42_43_2 g1rc42_43_3 g1rc42_43_4 g1rc42_43_5 g1rc42_43_6 f1rc42_43_I f1rc42_43_A
                try dsimp only
                rw [show vI hr2i38_39 v0 41 = (vI h v0 41) from (by rw [fr2i38_39_I v0 41 (by omega)])] at g1rc42_43_2
                rw [show vI hr2i38_39 v0 42 = (vI h v0 42) from (by rw [fr2i38_39_I v0 42 (by omega)]), show vA hr2i38_39 (v0 + 22) = vA h (v0 + 22) from (by rw [fr2i38_39_A (v0 + 22) (by omega)])] at g1rc42_43_3
                rw [show vI hr2i38_39 v0 48 = 1 from (by rw [gr2i38_39_0])] at g1rc42_43_1
                rw [show vI hr2i38_39 v0 42 = (vI h v0 42) from (by rw [fr2i38_39_I v0 42 (by omega)]), show vA hr2i38_39 (v0 + 22) = vA h (v0 + 22) from (by rw [fr2i38_39_A (v0 + 22) (by omega)]), show vA hr2i38_39 (v0 + 28) = vA h (v0 + 28) from (by rw [fr2i38_39_A (v0 + 28) (by omega)])] at g1rc42_43_4
                rw [show vI hr2i38_39 v0 42 = (vI h v0 42) from (by rw [fr2i38_39_I v0 42 (by omega)]), show vA hr2i38_39 (v0 + 22) = vA h (v0 + 22) from (by rw [fr2i38_39_A (v0 + 22) (by omega)]), show vA hr2i38_39 (v0 + 28) = vA h (v0 + 28) from (by rw [fr2i38_39_A (v0 + 28) (by omega)])] at g1rc42_43_5
                rw [show vI hr2i38_39 v0 42 = (vI h v0 42) from (by rw [fr2i38_39_I v0 42 (by omega)]), show vA hr2i38_39 (v0 + 22) = vA h (v0 + 22) from (by rw [fr2i38_39_A (v0 + 22) (by omega)])] at g1rc42_43_6
                exact absurd g1rc42_43_1 (by decide)
              · intro hrc42_43 Thrc42_43 g0rc42_43_0 g0rc42_43_1 f0rc42_43_I f0rc42_43_A
                try dsimp only
                rw [show vI hr2i38_39 v0 48 = 1 from (by rw [gr2i38_39_0]), show vI hr2i38_39 v0 42 = (vI h v0 42) from (by rw [fr2i38_39_I v0 42 (by omega)]), show vA hr2i38_39 (v0 + 22) = vA h (v0 + 22) from (by rw [fr2i38_39_A (v0 + 22) (by omega)]), show vA hr2i38_39 (v0 + 28) = vA h (v0 + 28) from (by rw [fr2i38_39_A (v0 + 28) (by omega)])] at g0rc42_43_1
                refine qi_mono (ih v0 v1 hrc42_43 Thrc42_43 kv0 (by show ∀ j, 0 ≤ j → j < n → vA hrc42_43 (v0 + 1) j = t j; rw [show vA hrc42_43 (v0 + 1) = vA h (v0 + 1) from (by rw [f0rc42_43_A (v0 + 1) (by omega), fr2i38_39_A (v0 + 1) (by omega)])] <;> (first | assumption | with_reducible rfl | grind)) (by show vI hrc42_43 v0 3 = n; rw [show vI hrc42_43 v0 3 = (vI h v0 3) from (by rw [f0rc42_43_I v0 3 (by omega), fr2i38_39_I v0 3 (by omega)])] <;> (first | assumption | with_reducible rfl | grind)) n1 tp (by show vI hrc42_43 v0 48 = 0 → 0 ≤ vI hrc42_43 v0 41; intro z9; exact absurd z9 g0rc42_43_0) (by show vI hrc42_43 v0 48 = 0 → x_EX t n yf Fv (300 * vI hrc42_43 v0 42 + vA hrc42_43 (v0 + 22) (vI hrc42_43 v0 42)) (vI hrc42_43 v0 41) (vA hrc42_43 (v0 + 28)); rw [show vI hrc42_43 v0 42 = (vI h v0 42) from (by rw [f0rc42_43_I v0 42 (by omega), fr2i38_39_I v0 42 (by omega)])] <;> (intro z9; exact absurd z9 g0rc42_43_0)) (by show vA hrc42_43 (v0 + 10) v1 = Fv; rw [show vA hrc42_43 (v0 + 10) = vA h (v0 + 10) from (by rw [f0rc42_43_A (v0 + 10) (by omega), fr2i38_39_A (v0 + 10) (by omega)])] <;> (first | assumption | with_reducible rfl | grind))) ?_
                rintro hrz44_45 ⟨Thrz44_45, ⟨g1rz44_45_0, g1rz44_45_1, g1rz44_45_2, f1rz44_45_I, f1rz44_45_A⟩ | ⟨g0rz44_45_0, g0rz44_45_1, f0rz44_45_I, f0rz44_45_A⟩⟩
                · try dsimp only at *
                  exact absurd g1rz44_45_1 g0rc42_43_0
                · try dsimp only at *
                  exact ⟨Thrz44_45, Or.inr ⟨g0rz44_45_0, (by show ¬ vI h v0 48 = 0 ∨ x_yy t n yf (vI h v0 41) = none; refine Or.inr ?_; exact x_yy_n (x_yfn tp n2 cc3 (Or.inl (Or.inr (Or.inr cc35))))), (fun a k na => by rw [f0rz44_45_I a k (fun z => na (z.elim (fun z => Or.inl z) (fun z => z.elim (fun z => Or.inr (Or.inl z)) (fun z => Or.inr (Or.inr (z)))))), f0rc42_43_I a k (fun z => na (z.elim (fun z => Or.inl z) (fun z => z.elim (fun z => Or.inr (Or.inl z)) (fun z => Or.inr (Or.inr (z)))))), fr2i38_39_I a k (fun z => na (z.elim (fun z => Or.inr (Or.inl z)) (fun z => Or.inr (Or.inr (z)))))]), (fun a na => by rw [f0rz44_45_A a (fun z => na (z.elim (fun z => Or.inl z) (fun z => z.elim (fun z => Or.inr (Or.inl z)) (fun z => z.elim (fun z => Or.inr (Or.inr (Or.inl z))) (fun z => Or.inr (Or.inr (Or.inr (z)))))))), f0rc42_43_A a (fun z => na (z.elim (fun z => Or.inr (Or.inl z)) (fun z => Or.inr (Or.inr (Or.inl z))))), fr2i38_39_A a (by omega)])⟩⟩
            · skip
              unfold f_Mod_exchange_74
              refine l_gR T (d_Mo_15 kv0) ?_
              refine l_aI (e := (vA h (v0 + 10) v1)) (fun _ => rfl) (fun ix47 => ?_)
              rw [x_cps81]
              refine j_Mod_exchange_81s (v0 := v0) (v1 := v1) (v2 := (x_lk t n (vI h v0 41))) (v3 := (vA h (v0 + 10) v1)) T kv0 ?_ ?_
              · intro hrc48_49 Thrc48_49 g1rc48_49_0 g1rc48_49_1 g1rc48_49_2 g1rc48_49_3 g1rc48_49_4 g1rc48_49_5 g1rc48_49_6 f1rc48_49_I f1rc48_49_A
                try dsimp only
                refine qi_mono (ih v0 v1 hrc48_49 Thrc48_49 kv0 (by show ∀ j, 0 ≤ j → j < n → vA hrc48_49 (v0 + 1) j = t j; rw [show vA hrc48_49 (v0 + 1) = vA h (v0 + 1) from (by rw [f1rc48_49_A (v0 + 1) (by omega)])] <;> (first | assumption | with_reducible rfl | grind)) (by show vI hrc48_49 v0 3 = n; rw [show vI hrc48_49 v0 3 = (vI h v0 3) from (by rw [f1rc48_49_I v0 3 (by omega)])] <;> (first | assumption | with_reducible rfl | grind)) n1 tp (by show vI hrc48_49 v0 48 = 0 → 0 ≤ vI hrc48_49 v0 41; rw [show vI hrc48_49 v0 48 = 0 from (by rw [g1rc48_49_0]), show vI hrc48_49 v0 41 = (vI h v0 41 + 1) from (by rw [g1rc48_49_2])] <;> (intro z9; exact x_0le a0 (x_lp1 n2 (t := t) cc13))) (by show vI hrc48_49 v0 48 = 0 → x_EX t n yf Fv (300 * vI hrc48_49 v0 42 + vA hrc48_49 (v0 + 22) (vI hrc48_49 v0 42)) (vI hrc48_49 v0 41) (vA hrc48_49 (v0 + 28)); rw [show vI hrc48_49 v0 48 = 0 from (by rw [g1rc48_49_0]), show vI hrc48_49 v0 42 = (vI h v0 42) from (by rw [f1rc48_49_I v0 42 (by omega)]), show vA hrc48_49 (v0 + 22) (vI h v0 42) = (vA h (v0 + 22) (vI h v0 42) + 1) from (by rw [g1rc48_49_3]), show vI hrc48_49 v0 41 = (vI h v0 41 + 1) from (by rw [g1rc48_49_2])] <;> (intro z9; rw [x_sas]; exact x_EX_s n2 ex cc13 g1rc48_49_5 g1rc48_49_6)) (by show vA hrc48_49 (v0 + 10) v1 = Fv; rw [show vA hrc48_49 (v0 + 10) = vA h (v0 + 10) from (by rw [f1rc48_49_A (v0 + 10) (by omega)])] <;> (first | assumption | with_reducible rfl | grind))) ?_
                rintro hrz50_51 ⟨Thrz50_51, ⟨g1rz50_51_0, g1rz50_51_1, g1rz50_51_2, f1rz50_51_I, f1rz50_51_A⟩ | ⟨g0rz50_51_0, g0rz50_51_1, f0rz50_51_I, f0rz50_51_A⟩⟩
                · try dsimp only at *
                  rw [show vI hrc48_49 v0 48 = 0 from (by rw [g1rc48_49_0])] at g1rz50_51_1
                  rw [show vI hrc48_49 v0 41 = (vI h v0 41 + 1) from (by rw [g1rc48_49_2])] at g1rz50_51_2
                  exact ⟨Thrz50_51, Or.inl ⟨(by show vI hrz50_51 v0 48 = 0; rw [show vI hrz50_51 v0 48 = 0 from (by rw [g1rz50_51_0])] <;> (first | assumption | with_reducible rfl | grind)), g1rc48_49_1, (by show x_yy t n yf (vI h v0 41) = some (vI hrz50_51 v0 41); exact (x_yy_e (x_yfs n2 cc13 cc3 cc24 cc35 (x_EX_seen0 n2 ex (hF ▸ g1rc48_49_4)))).trans g1rz50_51_2), (fun a k na => by rw [f1rz50_51_I a k (fun z => na (z.elim (fun z => Or.inl z) (fun z => z.elim (fun z => Or.inr (Or.inl z)) (fun z => Or.inr (Or.inr (z)))))), f1rc48_49_I a k (fun z => na (z.elim (fun z => Or.inl z) (fun z => z.elim (fun z => Or.inr (Or.inl z)) (fun z => Or.inr (Or.inr (z))))))]), (fun a na => by rw [f1rz50_51_A a (fun z => na (z.elim (fun z => Or.inl z) (fun z => z.elim (fun z => Or.inr (Or.inl z)) (fun z => z.elim (fun z => Or.inr (Or.inr (Or.inl z))) (fun z => Or.inr (Or.inr (Or.inr (z)))))))), f1rc48_49_A a (fun z => na (z.elim (fun z => Or.inr (Or.inl z)) (fun z => Or.inr (Or.inr (Or.inl z)))))])⟩⟩
                · try dsimp only at *
                  rw [show vI hrc48_49 v0 48 = 0 from (by rw [g1rc48_49_0]), show vI hrc48_49 v0 41 = (vI h v0 41 + 1) from (by rw [g1rc48_49_2])] at g0rz50_51_1
                  exact ⟨Thrz50_51, Or.inr ⟨g0rz50_51_0, (by show ¬ vI h v0 48 = 0 ∨ x_yy t n yf (vI h v0 41) = none; refine Or.inr ?_; exact (x_yy_e (x_yfs n2 cc13 cc3 cc24 cc35 (x_EX_seen0 n2 ex (hF ▸ g1rc48_49_4)))).trans (g0rz50_51_1.resolve_left (fun z => z (by first | rfl | assumption)))), (fun a k na => by rw [f0rz50_51_I a k (fun z => na (z.elim (fun z => Or.inl z) (fun z => z.elim (fun z => Or.inr (Or.inl z)) (fun z => Or.inr (Or.inr (z)))))), f1rc48_49_I a k (fun z => na (z.elim (fun z => Or.inl z) (fun z => z.elim (fun z => Or.inr (Or.inl z)) (fun z => Or.inr (Or.inr (z))))))]), (fun a na => by rw [f0rz50_51_A a (fun z => na (z.elim (fun z => Or.inl z) (fun z => z.elim (fun z => Or.inr (Or.inl z)) (fun z => z.elim (fun z => Or.inr (Or.inr (Or.inl z))) (fun z => Or.inr (Or.inr (Or.inr (z)))))))), f1rc48_49_A a (fun z => na (z.elim (fun z => Or.inr (Or.inl z)) (fun z => Or.inr (Or.inr (Or.inl z)))))])⟩⟩
              · intro hrc48_49 Thrc48_49 g0rc48_49_0 g0rc48_49_1 f0rc48_49_I f0rc48_49_A
                try dsimp only
                refine qi_mono (ih v0 v1 hrc48_49 Thrc48_49 kv0 (by show ∀ j, 0 ≤ j → j < n → vA hrc48_49 (v0 + 1) j = t j; rw [show vA hrc48_49 (v0 + 1) = vA h (v0 + 1) from (by rw [f0rc48_49_A (v0 + 1) (by omega)])] <;> (first | assumption | with_reducible rfl | grind)) (by show vI hrc48_49 v0 3 = n; rw [show vI hrc48_49 v0 3 = (vI h v0 3) from (by rw [f0rc48_49_I v0 3 (by omega)])] <;> (first | assumption | with_reducible rfl | grind)) n1 tp (by show vI hrc48_49 v0 48 = 0 → 0 ≤ vI hrc48_49 v0 41; intro z9; exact absurd z9 g0rc48_49_0) (by show vI hrc48_49 v0 48 = 0 → x_EX t n yf Fv (300 * vI hrc48_49 v0 42 + vA hrc48_49 (v0 + 22) (vI hrc48_49 v0 42)) (vI hrc48_49 v0 41) (vA hrc48_49 (v0 + 28)); rw [show vI hrc48_49 v0 42 = (vI h v0 42) from (by rw [f0rc48_49_I v0 42 (by omega)])] <;> (intro z9; exact absurd z9 g0rc48_49_0)) (by show vA hrc48_49 (v0 + 10) v1 = Fv; rw [show vA hrc48_49 (v0 + 10) = vA h (v0 + 10) from (by rw [f0rc48_49_A (v0 + 10) (by omega)])] <;> (first | assumption | with_reducible rfl | grind))) ?_
                rintro hrz52_53 ⟨Thrz52_53, ⟨g1rz52_53_0, g1rz52_53_1, g1rz52_53_2, f1rz52_53_I, f1rz52_53_A⟩ | ⟨g0rz52_53_0, g0rz52_53_1, f0rz52_53_I, f0rz52_53_A⟩⟩
                · try dsimp only at *
                  exact absurd g1rz52_53_1 g0rc48_49_0
                · try dsimp only at *
                  exact ⟨Thrz52_53, Or.inr ⟨g0rz52_53_0, (by show ¬ vI h v0 48 = 0 ∨ x_yy t n yf (vI h v0 41) = none; refine Or.inr ?_; exact x_yy_n (x_yfn tp n2 cc3 (Or.inr (x_EX_seen1 n2 ex (hF ▸ (g0rc48_49_1.resolve_left (fun z => z (by first | rfl | assumption)))))))), (fun a k na => by rw [f0rz52_53_I a k (fun z => na (z.elim (fun z => Or.inl z) (fun z => z.elim (fun z => Or.inr (Or.inl z)) (fun z => Or.inr (Or.inr (z)))))), f0rc48_49_I a k (fun z => na (z.elim (fun z => Or.inl z) (fun z => z.elim (fun z => Or.inr (Or.inl z)) (fun z => Or.inr (Or.inr (z))))))]), (fun a na => by rw [f0rz52_53_A a (fun z => na (z.elim (fun z => Or.inl z) (fun z => z.elim (fun z => Or.inr (Or.inl z)) (fun z => z.elim (fun z => Or.inr (Or.inr (Or.inl z))) (fun z => Or.inr (Or.inr (Or.inr (z)))))))), f0rc48_49_A a (fun z => na (z.elim (fun z => Or.inr (Or.inl z)) (fun z => Or.inr (Or.inr (Or.inl z)))))])⟩⟩
    · skip
      unfold f_Mod_exchange_138
      refine l_gI (e := (vI h v0 41)) rfl ?_
      refine l_sI T (q_Mk kv0) (by decide) rfl ?_
      intro h2i54_55 Th2i54_55 ih2i54_55 ah2i54_55
      refine l_gR Th2i54_55 (d_Mo_17 kv0) ?_
      refine l_gO ?_
      refine j_Mod_stored (v0 := v0) (e := (300 * (vI h v0 42) + vA h (v0 + 22) (vI h v0 42))) Th2i54_55 kv0 (by rw [show vI h2i54_55 v0 42 = (vI h v0 42) from (by rw [ih2i54_55 v0 42, if_neg (fun z => absurd z.2 (by decide))]), show vA h2i54_55 (v0 + 22) = vA h (v0 + 22) from (by rw [ah2i54_55 (v0 + 22)])]) ?_
      try dsimp only
      refine l_uI Th2i54_55 ?_
      intro h6i54_57 Th6i54_57 jh6i54_57 ih6i54_57 ah6i54_57 bh6i54_57
      refine l_gR Th6i54_57 (d_Mo_17 kv0) ?_
      refine l_aI (e := (300 * (vI h v0 42) + vA h (v0 + 22) (vI h v0 42))) (fun ix58 => (by rw [ah6i54_57 (v0 + 12) v1 jh6i54_57, if_pos ⟨rfl, rfl⟩])) (fun ix58 => ?_)
      refine l_gR Th6i54_57 (d_Mo_15 kv0) ?_
      refine l_aI (e := (vA h (v0 + 10) v1)) (fun ix59 => (by rw [bh6i54_57 (v0 + 10) (by omega), ah2i54_55 (v0 + 10)])) (fun ix59 => ?_)
      refine qi_bs ?_
      refine qi_tail ?_
      refine j_Mod_exchange_174 (v0 := v0) (v1 := v1) (v2 := ((300 * (vI h v0 42) + vA h (v0 + 22) (vI h v0 42)) - (vA h (v0 + 10) v1))) (v3 := (0 : Int32)) (t := t) (n := n) Th6i54_57 kv0 (by show ∀ j, 0 ≤ j → j < n → vA h6i54_57 (v0 + 1) j = t j; rw [show vA h6i54_57 (v0 + 1) = vA h (v0 + 1) from (by rw [bh6i54_57 (v0 + 1) (by omega), ah2i54_55 (v0 + 1)])] <;> (first | assumption | with_reducible rfl | grind)) (by show vI h6i54_57 v0 3 = n; rw [show vI h6i54_57 v0 3 = (vI h v0 3) from (by rw [ih6i54_57 v0 3, ih2i54_55 v0 3, if_neg (fun z => absurd z.2 (by decide))])] <;> (first | assumption | with_reducible rfl | grind)) n1 tp (by show vI h6i54_57 v0 48 = 0 → 0 ≤ vI h6i54_57 v0 41; rw [show vI h6i54_57 v0 48 = (vI h v0 48) from (by rw [ih6i54_57 v0 48, ih2i54_55 v0 48, if_neg (fun z => absurd z.2 (by decide))]), show vI h6i54_57 v0 41 = ((vI h v0 41) + 1) from (by rw [ih6i54_57 v0 41, ih2i54_55 v0 41, if_pos ⟨rfl, rfl⟩])] <;> (intro z9; exact absurd z9 cc1)) (by show vI h6i54_57 v0 48 = 0 → 0 ≤ (0 : Int32) ∧ (0 : Int32) ≤ ((300 * (vI h v0 42) + vA h (v0 + 22) (vI h v0 42)) - (vA h (v0 + 10) v1)) ∧ ((300 * (vI h v0 42) + vA h (v0 + 22) (vI h v0 42)) - (vA h (v0 + 10) v1)) ≤ 1000; rw [show vI h6i54_57 v0 48 = (vI h v0 48) from (by rw [ih6i54_57 v0 48, ih2i54_55 v0 48, if_neg (fun z => absurd z.2 (by decide))])] <;> (intro z9; exact absurd z9 cc1)) ?_ ?_
      · intro hrz60_61 Thrz60_61 g1rz60_61_0 g1rz60_61_1 g1rz60_61_2 f1rz60_61_I f1rz60_61_A
        try dsimp only
        rw [show vI h6i54_57 v0 48 = (vI h v0 48) from (by rw [ih6i54_57 v0 48, ih2i54_55 v0 48, if_neg (fun z => absurd z.2 (by decide))])] at g1rz60_61_1
        rw [show vI h6i54_57 v0 41 = ((vI h v0 41) + 1) from (by rw [ih6i54_57 v0 41, ih2i54_55 v0 41, if_pos ⟨rfl, rfl⟩])] at g1rz60_61_2
        exact absurd g1rz60_61_1 cc1
      · intro hrz60_61 Thrz60_61 g0rz60_61_0 g0rz60_61_1 f0rz60_61_I f0rz60_61_A
        try dsimp only
        rw [show vI h6i54_57 v0 48 = (vI h v0 48) from (by rw [ih6i54_57 v0 48, ih2i54_55 v0 48, if_neg (fun z => absurd z.2 (by decide))]), show vI h6i54_57 v0 41 = ((vI h v0 41) + 1) from (by rw [ih6i54_57 v0 41, ih2i54_55 v0 41, if_pos ⟨rfl, rfl⟩])] at g0rz60_61_1
        refine qi_some ?_
        exact ⟨Thrz60_61, Or.inr ⟨g0rz60_61_0, (by show ¬ vI h v0 48 = 0 ∨ x_yy t n yf (vI h v0 41) = none; exact Or.inl cc1), (fun a k na => by rw [f0rz60_61_I a k (fun z => na (z.elim (fun z => Or.inr (Or.inl z)) (fun z => z.elim (fun z => Or.inr (Or.inr (z))) (fun z => Or.inl z)))), ih6i54_57 a k, ih2i54_55 a k, if_neg (fun z => na (Or.inl z))]), (fun a na => by rw [f0rz60_61_A a (fun z => na (z.elim (fun z => Or.inr (Or.inl z)) (fun z => z.elim (fun z => Or.inr (Or.inr (Or.inl z))) (fun z => Or.inr (Or.inr (Or.inr (z))))))), bh6i54_57 a (fun z => na (Or.inl z)), ah2i54_55 a])⟩⟩
theorem j_Mod_exchange_16 {L : q_L} {π : Nat → Nat → Option Nat} {N : Nat} {t : Int32 → Int32} {n : Int32} {yf Fv : Int32} {m9 : Nat} {h : z_H} {v0 : Nat} {v1 : Int32} {β : Type} {f : z_H → Option β} {Q : β → Prop} (T : x_U L π h) (kv0 : q_M L π v0) (ht : ∀ j, 0 ≤ j → j < n → vA h (v0 + 1) j = t j) (hn : vI h v0 3 = n) (n1 : n ≤ 240) (tp : ∀ j, t j ≠ -1) (a0 : vI h v0 48 = 0 → 0 ≤ vI h v0 41) (ex : vI h v0 48 = 0 → x_EX t n yf Fv (300 * vI h v0 42 + vA h (v0 + 22) (vI h v0 42)) (vI h v0 41) (vA h (v0 + 28))) (hF : vA h (v0 + 10) v1 = Fv) (H1 : ∀ h', x_U L π h' → (vI h' v0 48 = 0) → (vI h v0 48 = 0) → (x_yy t n yf (vI h v0 41) = some (vI h' v0 41)) → (∀ a k, ¬ ((a = v0 ∧ k = 41) ∨ (a = v0 ∧ k = 5) ∨ (a = v0 ∧ k = 48)) → vI h' a k = vI h a k) → (∀ a, ¬ (a = (v0 + 12) ∨ a = (v0 + 28) ∨ a = (v0 + 22) ∨ a = (v0 + 11)) → vA h' a = vA h a) → qi (f h') Q) (H0 : ∀ h', x_U L π h' → (¬ vI h' v0 48 = 0) → (¬ vI h v0 48 = 0 ∨ x_yy t n yf (vI h v0 41) = none) → (∀ a k, ¬ ((a = v0 ∧ k = 41) ∨ (a = v0 ∧ k = 5) ∨ (a = v0 ∧ k = 48)) → vI h' a k = vI h a k) → (∀ a, ¬ (a = (v0 + 12) ∨ a = (v0 + 28) ∨ a = (v0 + 22) ∨ a = (v0 + 11)) → vA h' a = vA h a) → qi (f h') Q) : qi (z_b (f_Mod_exchange_16 N m9 v0 v1 h) f) Q := by
  refine qi_b (i_Mod_exchange_16 m9 v0 v1 h  T kv0 ht hn n1 tp a0 ex hF) ?_
  rintro hz ⟨Tz, ⟨g0, g1, g2, g3, g4⟩ | ⟨g0, g1, g2, g3⟩⟩
  · exact H1 hz Tz g0 g1 g2 g3 g4
  · exact H0 hz Tz g0 g1 g2 g3

