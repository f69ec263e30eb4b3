set_option maxHeartbeats 8000000 in
theorem i_Mod_exchange_174 {L : q_L} {π : Nat → Nat → Option Nat} {N : Nat} {t : Int32 → Int32} {n : Int32} : ∀ (m9 : Nat) (v0 : Nat) (v1 : Int32) (v2 : Int32) (v3 : Int32) (h : z_H), x_U L π h → q_M L π v0 → (∀ j, 0 ≤ j → j < n → vA h (v0 + 1) j = t j) → (vI h v0 3 = n) → (n ≤ 240) → (∀ j, t j ≠ -1) → (vI h v0 48 = 0 → 0 ≤ vI h v0 41) → (vI h v0 48 = 0 → 0 ≤ v3 ∧ v3 ≤ v2 ∧ v2 ≤ 1000) → qi (f_Mod_exchange_174 N m9 v0 v1 v2 v3 h) (fun r => x_U L π r ∧ (((vI r v0 48 = 0) ∧ (vI h v0 48 = 0) ∧ (x_yt t n (v2 - v3) (vI h v0 41) = some (vI r v0 41)) ∧ (∀ a k, ¬ ((a = v0 ∧ k = 5) ∨ (a = v0 ∧ k = 48) ∨ (a = v0 ∧ k = 41)) → vI r a k = vI h a k) ∧ (∀ a, ¬ (a = (v0 + 28) ∨ a = (v0 + 22) ∨ a = (v0 + 11)) → vA r a = vA h a)) ∨ ((¬ vI r v0 48 = 0) ∧ (¬ vI h v0 48 = 0 ∨ x_yt t n (v2 - v3) (vI h v0 41) = none) ∧ (∀ a k, ¬ ((a = v0 ∧ k = 5) ∨ (a = v0 ∧ k = 48) ∨ (a = v0 ∧ k = 41)) → vI r a k = vI h a k) ∧ (∀ a, ¬ (a = (v0 + 28) ∨ a = (v0 + 22) ∨ a = (v0 + 11)) → vA r a = vA h a)))) := by
  intro m9
  induction m9 with
  | zero => intro v0 v1 v2 v3 h T kv0 ht hn n1 tp a0 wk r e; rw [f_Mod_exchange_174] at e; cases e
  | succ m9 ih =>
    intro v0 v1 v2 v3 h T kv0 ht hn n1 tp a0 wk
    rw [f_Mod_exchange_174]
    have n2 : n ≤ 1000 := Int32.le_trans n1 (by decide)
    refine l_gI (e := (vI h v0 48)) rfl ?_
    refine qi_if (fun cc1 => ?_) (fun cc1 => ?_)
    · skip
      have a0 := a0 cc1
      have wk := wk cc1
      refine qi_if (fun cc2 => ?_) (fun cc2 => ?_)
      · skip
        unfold f_Mod_exchange_195
        refine l_gO ?_
        refine j_Mod_here (v0 := v0) (t := t) (n := n) (e := (x_lk t n (vI h v0 41))) T kv0 ht hn rfl ?_
        try dsimp only
        refine qi_bs ?_
        refine qi_if (fun cc5 => ?_) (fun cc5 => ?_)
        · skip
          refine l_gI (e := (vI h v0 3)) rfl ?_
          refine l_gO ?_
          refine j_Mod_wrong (v0 := v0) (v1 := (vI h v0 3)) T kv0 ?_
          intro hr11i3_6 Thr11i3_6 gr11i3_6_0 fr11i3_6_I fr11i3_6_A
          try dsimp only
          unfold f_Mod_exchange_252
          refine l_gO ?_
          refine j_Mod_keep (v0 := v0) (v1 := (x_lk t n (vI h v0 41))) Thr11i3_6 kv0 ?_
          intro hr2i7_8 Thr2i7_8 gr2i7_8_0 gr2i7_8_1 gr2i7_8_2 fr2i7_8_I fr2i7_8_A
          try dsimp only
          rw [show vI hr11i3_6 v0 42 = (vI h v0 42) from (by rw [fr11i3_6_I v0 42 (by omega)]), show vA hr11i3_6 (v0 + 22) = vA h (v0 + 22) from (by rw [fr11i3_6_A (v0 + 22) (by omega)])] at gr2i7_8_0
          rw [show vI hr11i3_6 v0 42 = (vI h v0 42) from (by rw [fr11i3_6_I v0 42 (by omega)]), show vA hr11i3_6 (v0 + 22) = vA h (v0 + 22) from (by rw [fr11i3_6_A (v0 + 22) (by omega)]), show vA hr11i3_6 (v0 + 28) = vA h (v0 + 28) from (by rw [fr11i3_6_A (v0 + 28) (by omega)])] at gr2i7_8_1
          rw [show vI hr11i3_6 v0 42 = (vI h v0 42) from (by rw [fr11i3_6_I v0 42 (by omega)]), show vA hr11i3_6 (v0 + 22) = vA h (v0 + 22) from (by rw [fr11i3_6_A (v0 + 22) (by omega)])] at gr2i7_8_2
          refine qi_bs ?_
          refine l_gI (e := (vI h v0 41)) (by rw [fr2i7_8_I v0 41 (by omega), fr11i3_6_I v0 41 (by omega)]) ?_
          refine l_sI Thr2i7_8 (q_Mk kv0) (by decide) rfl ?_
          intro h5i7_9 Th5i7_9 ih5i7_9 ah5i7_9
          refine qi_mono (ih v0 v1 v2 (v3 + 1) h5i7_9 Th5i7_9 kv0 (by show ∀ j, 0 ≤ j → j < n → vA h5i7_9 (v0 + 1) j = t j; rw [show vA h5i7_9 (v0 + 1) = vA h (v0 + 1) from (by rw [ah5i7_9 (v0 + 1), fr2i7_8_A (v0 + 1) (by omega), fr11i3_6_A (v0 + 1) (by omega)])] <;> (first | assumption | with_reducible rfl | grind)) (by show vI h5i7_9 v0 3 = n; rw [show vI h5i7_9 v0 3 = (vI h v0 3) from (by rw [ih5i7_9 v0 3, if_neg (fun z => absurd z.2 (by decide)), fr2i7_8_I v0 3 (by omega), fr11i3_6_I v0 3 (by omega)])] <;> (first | assumption | with_reducible rfl | grind)) n1 tp (by show vI h5i7_9 v0 48 = 0 → 0 ≤ vI h5i7_9 v0 41; rw [show vI h5i7_9 v0 48 = 1 from (by rw [ih5i7_9 v0 48, if_neg (fun z => absurd z.2 (by decide)), fr2i7_8_I v0 48 (by omega), gr11i3_6_0]), show vI h5i7_9 v0 41 = ((vI h v0 41) + 1) from (by rw [ih5i7_9 v0 41, if_pos ⟨rfl, rfl⟩])] <;> (intro z9; exact absurd z9 (by decide))) (by show vI h5i7_9 v0 48 = 0 → 0 ≤ (v3 + 1) ∧ (v3 + 1) ≤ v2 ∧ v2 ≤ 1000; rw [show vI h5i7_9 v0 48 = 1 from (by rw [ih5i7_9 v0 48, if_neg (fun z => absurd z.2 (by decide)), fr2i7_8_I v0 48 (by omega), gr11i3_6_0])] <;> (intro z9; exact absurd z9 (by decide)))) ?_
          rintro hrz10_11 ⟨Thrz10_11, ⟨g1rz10_11_0, g1rz10_11_1, g1rz10_11_2, f1rz10_11_I, f1rz10_11_A⟩ | ⟨g0rz10_11_0, g0rz10_11_1, f0rz10_11_I, f0rz10_11_A⟩⟩
          · try dsimp only at *
            rw [show vI h5i7_9 v0 48 = 1 from (by rw [ih5i7_9 v0 48, if_neg (fun z => absurd z.2 (by decide)), fr2i7_8_I v0 48 (by omega), gr11i3_6_0])] at g1rz10_11_1
            rw [show vI h5i7_9 v0 41 = ((vI h v0 41) + 1) from (by rw [ih5i7_9 v0 41, if_pos ⟨rfl, rfl⟩])] at g1rz10_11_2
            exact absurd g1rz10_11_1 (by decide)
          · try dsimp only at *
            rw [show vI h5i7_9 v0 48 = 1 from (by rw [ih5i7_9 v0 48, if_neg (fun z => absurd z.2 (by decide)), fr2i7_8_I v0 48 (by omega), gr11i3_6_0]), show vI h5i7_9 v0 41 = ((vI h v0 41) + 1) from (by rw [ih5i7_9 v0 41, if_pos ⟨rfl, rfl⟩])] at g0rz10_11_1
            exact ⟨Thrz10_11, Or.inr ⟨g0rz10_11_0, (by show ¬ vI h v0 48 = 0 ∨ x_yt t n (v2 - v3) (vI h v0 41) = none; refine Or.inr ?_; exact x_ytn tp n2 (x_sb0 wk cc2) (Or.inr (Or.inl cc5))), (fun a k na => by rw [f0rz10_11_I a k (fun z => na (z.elim (fun z => Or.inl z) (fun z => z.elim (fun z => Or.inr (Or.inl z)) (fun z => Or.inr (Or.inr (z)))))), ih5i7_9 a k, if_neg (fun z => na (Or.inr (Or.inr (z)))), fr2i7_8_I a k (by omega), fr11i3_6_I a k (fun z => na (z.elim (fun z => Or.inl z) (fun z => Or.inr (Or.inl z))))]), (fun a na => by rw [f0rz10_11_A a (fun z => na (z.elim (fun z => Or.inl z) (fun z => z.elim (fun z => Or.inr (Or.inl z)) (fun z => Or.inr (Or.inr (z)))))), ah5i7_9 a, fr2i7_8_A a (fun z => na (z.elim (fun z => Or.inl z) (fun z => Or.inr (Or.inl z)))), fr11i3_6_A a (by omega)])⟩⟩
        · skip
          refine qi_if (fun cc12 => ?_) (fun cc12 => ?_)
          · skip
            unfold f_Mod_exchange_244
            refine l_gI (e := (vI h v0 41)) rfl ?_
            refine l_gO ?_
            refine j_Mod_wrong (v0 := v0) (v1 := (vI h v0 41)) T kv0 ?_
            intro hr3i13_14 Thr3i13_14 gr3i13_14_0 fr3i13_14_I fr3i13_14_A
            try dsimp only
            unfold f_Mod_exchange_252
            refine l_gO ?_
            refine j_Mod_keep (v0 := v0) (v1 := (x_lk t n (vI h v0 41))) Thr3i13_14 kv0 ?_
            intro hr2i15_16 Thr2i15_16 gr2i15_16_0 gr2i15_16_1 gr2i15_16_2 fr2i15_16_I fr2i15_16_A
            try dsimp only
            rw [show vI hr3i13_14 v0 42 = (vI h v0 42) from (by rw [fr3i13_14_I v0 42 (by omega)]), show vA hr3i13_14 (v0 + 22) = vA h (v0 + 22) from (by rw [fr3i13_14_A (v0 + 22) (by omega)])] at gr2i15_16_0
            rw [show vI hr3i13_14 v0 42 = (vI h v0 42) from (by rw [fr3i13_14_I v0 42 (by omega)]), show vA hr3i13_14 (v0 + 22) = vA h (v0 + 22) from (by rw [fr3i13_14_A (v0 + 22) (by omega)]), show vA hr3i13_14 (v0 + 28) = vA h (v0 + 28) from (by rw [fr3i13_14_A (v0 + 28) (by omega)])] at gr2i15_16_1
            rw [show vI hr3i13_14 v0 42 = (vI h v0 42) from (by rw [fr3i13_14_I v0 42 (by omega)]), show vA hr3i13_14 (v0 + 22) = vA h (v0 + 22) from (by rw [fr3i13_14_A (v0 + 22) (by omega)])] at gr2i15_16_2
            refine qi_bs ?_
            refine l_gI (e := (vI h v0 41)) (by rw [fr2i15_16_I v0 41 (by omega), fr3i13_14_I v0 41 (by omega)]) ?_
            refine l_sI Thr2i15_16 (q_Mk kv0) (by decide) rfl ?_
            intro h5i15_17 Th5i15_17 ih5i15_17 ah5i15_17
            refine qi_mono (ih v0 v1 v2 (v3 + 1) h5i15_17 Th5i15_17 kv0 (by show ∀ j, 0 ≤ j → j < n → vA h5i15_17 (v0 + 1) j = t j; rw [show vA h5i15_17 (v0 + 1) = vA h (v0 + 1) from (by rw [ah5i15_17 (v0 + 1), fr2i15_16_A (v0 + 1) (by omega), fr3i13_14_A (v0 + 1) (by omega)])] <;> (first | assumption | with_reducible rfl | grind)) (by show vI h5i15_17 v0 3 = n; rw [show vI h5i15_17 v0 3 = (vI h v0 3) from (by rw [ih5i15_17 v0 3, if_neg (fun z => absurd z.2 (by decide)), fr2i15_16_I v0 3 (by omega), fr3i13_14_I v0 3 (by omega)])] <;> (first | assumption | with_reducible rfl | grind)) n1 tp (by show vI h5i15_17 v0 48 = 0 → 0 ≤ vI h5i15_17 v0 41; rw [show vI h5i15_17 v0 48 = 1 from (by rw [ih5i15_17 v0 48, if_neg (fun z => absurd z.2 (by decide)), fr2i15_16_I v0 48 (by omega), gr3i13_14_0]), show vI h5i15_17 v0 41 = ((vI h v0 41) + 1) from (by rw [ih5i15_17 v0 41, if_pos ⟨rfl, rfl⟩])] <;> (intro z9; exact absurd z9 (by decide))) (by show vI h5i15_17 v0 48 = 0 → 0 ≤ (v3 + 1) ∧ (v3 + 1) ≤ v2 ∧ v2 ≤ 1000; rw [show vI h5i15_17 v0 48 = 1 from (by rw [ih5i15_17 v0 48, if_neg (fun z => absurd z.2 (by decide)), fr2i15_16_I v0 48 (by omega), gr3i13_14_0])] <;> (intro z9; exact absurd z9 (by decide)))) ?_
            rintro hrz18_19 ⟨Thrz18_19, ⟨g1rz18_19_0, g1rz18_19_1, g1rz18_19_2, f1rz18_19_I, f1rz18_19_A⟩ | ⟨g0rz18_19_0, g0rz18_19_1, f0rz18_19_I, f0rz18_19_A⟩⟩
            · try dsimp only at *
              rw [show vI h5i15_17 v0 48 = 1 from (by rw [ih5i15_17 v0 48, if_neg (fun z => absurd z.2 (by decide)), fr2i15_16_I v0 48 (by omega), gr3i13_14_0])] at g1rz18_19_1
              rw [show vI h5i15_17 v0 41 = ((vI h v0 41) + 1) from (by rw [ih5i15_17 v0 41, if_pos ⟨rfl, rfl⟩])] at g1rz18_19_2
              exact absurd g1rz18_19_1 (by decide)
            · try dsimp only at *
              rw [show vI h5i15_17 v0 48 = 1 from (by rw [ih5i15_17 v0 48, if_neg (fun z => absurd z.2 (by decide)), fr2i15_16_I v0 48 (by omega), gr3i13_14_0]), show vI h5i15_17 v0 41 = ((vI h v0 41) + 1) from (by rw [ih5i15_17 v0 41, if_pos ⟨rfl, rfl⟩])] at g0rz18_19_1
              exact ⟨Thrz18_19, Or.inr ⟨g0rz18_19_0, (by show ¬ vI h v0 48 = 0 ∨ x_yt t n (v2 - v3) (vI h v0 41) = none; refine Or.inr ?_; exact x_ytn tp n2 (x_sb0 wk cc2) (Or.inr (Or.inr (Or.inl cc12)))), (fun a k na => by rw [f0rz18_19_I a k (fun z => na (z.elim (fun z => Or.inl z) (fun z => z.elim (fun z => Or.inr (Or.inl z)) (fun z => Or.inr (Or.inr (z)))))), ih5i15_17 a k, if_neg (fun z => na (Or.inr (Or.inr (z)))), fr2i15_16_I a k (by omega), fr3i13_14_I a k (fun z => na (z.elim (fun z => Or.inl z) (fun z => Or.inr (Or.inl z))))]), (fun a na => by rw [f0rz18_19_A a (fun z => na (z.elim (fun z => Or.inl z) (fun z => z.elim (fun z => Or.inr (Or.inl z)) (fun z => Or.inr (Or.inr (z)))))), ah5i15_17 a, fr2i15_16_A a (fun z => na (z.elim (fun z => Or.inl z) (fun z => Or.inr (Or.inl z)))), fr3i13_14_A a (by omega)])⟩⟩
          · skip
            refine qi_if (fun cc20 => ?_) (fun cc20 => ?_)
            · skip
              unfold f_Mod_exchange_244
              refine l_gI (e := (vI h v0 41)) rfl ?_
              refine l_gO ?_
              refine j_Mod_wrong (v0 := v0) (v1 := (vI h v0 41)) T kv0 ?_
              intro hr3i21_22 Thr3i21_22 gr3i21_22_0 fr3i21_22_I fr3i21_22_A
              try dsimp only
              unfold f_Mod_exchange_252
              refine l_gO ?_
              refine j_Mod_keep (v0 := v0) (v1 := (x_lk t n (vI h v0 41))) Thr3i21_22 kv0 ?_
              intro hr2i23_24 Thr2i23_24 gr2i23_24_0 gr2i23_24_1 gr2i23_24_2 fr2i23_24_I fr2i23_24_A
              try dsimp only
              rw [show vI hr3i21_22 v0 42 = (vI h v0 42) from (by rw [fr3i21_22_I v0 42 (by omega)]), show vA hr3i21_22 (v0 + 22) = vA h (v0 + 22) from (by rw [fr3i21_22_A (v0 + 22) (by omega)])] at gr2i23_24_0
              rw [show vI hr3i21_22 v0 42 = (vI h v0 42) from (by rw [fr3i21_22_I v0 42 (by omega)]), show vA hr3i21_22 (v0 + 22) = vA h (v0 + 22) from (by rw [fr3i21_22_A (v0 + 22) (by omega)]), show vA hr3i21_22 (v0 + 28) = vA h (v0 + 28) from (by rw [fr3i21_22_A (v0 + 28) (by omega)])] at gr2i23_24_1
              rw [show vI hr3i21_22 v0 42 = (vI h v0 42) from (by rw [fr3i21_22_I v0 42 (by omega)]), show vA hr3i21_22 (v0 + 22) = vA h (v0 + 22) from (by rw [fr3i21_22_A (v0 + 22) (by omega)])] at gr2i23_24_2
              refine qi_bs ?_
              refine l_gI (e := (vI h v0 41)) (by rw [fr2i23_24_I v0 41 (by omega), fr3i21_22_I v0 41 (by omega)]) ?_
              refine l_sI Thr2i23_24 (q_Mk kv0) (by decide) rfl ?_
              intro h5i23_25 Th5i23_25 ih5i23_25 ah5i23_25
              refine qi_mono (ih v0 v1 v2 (v3 + 1) h5i23_25 Th5i23_25 kv0 (by show ∀ j, 0 ≤ j → j < n → vA h5i23_25 (v0 + 1) j = t j; rw [show vA h5i23_25 (v0 + 1) = vA h (v0 + 1) from (by rw [ah5i23_25 (v0 + 1), fr2i23_24_A (v0 + 1) (by omega), fr3i21_22_A (v0 + 1) (by omega)])] <;> (first | assumption | with_reducible rfl | grind)) (by show vI h5i23_25 v0 3 = n; rw [show vI h5i23_25 v0 3 = (vI h v0 3) from (by rw [ih5i23_25 v0 3, if_neg (fun z => absurd z.2 (by decide)), fr2i23_24_I v0 3 (by omega), fr3i21_22_I v0 3 (by omega)])] <;> (first | assumption | with_reducible rfl | grind)) n1 tp (by show vI h5i23_25 v0 48 = 0 → 0 ≤ vI h5i23_25 v0 41; rw [show vI h5i23_25 v0 48 = 1 from (by rw [ih5i23_25 v0 48, if_neg (fun z => absurd z.2 (by decide)), fr2i23_24_I v0 48 (by omega), gr3i21_22_0]), show vI h5i23_25 v0 41 = ((vI h v0 41) + 1) from (by rw [ih5i23_25 v0 41, if_pos ⟨rfl, rfl⟩])] <;> (intro z9; exact absurd z9 (by decide))) (by show vI h5i23_25 v0 48 = 0 → 0 ≤ (v3 + 1) ∧ (v3 + 1) ≤ v2 ∧ v2 ≤ 1000; rw [show vI h5i23_25 v0 48 = 1 from (by rw [ih5i23_25 v0 48, if_neg (fun z => absurd z.2 (by decide)), fr2i23_24_I v0 48 (by omega), gr3i21_22_0])] <;> (intro z9; exact absurd z9 (by decide)))) ?_
              rintro hrz26_27 ⟨Thrz26_27, ⟨g1rz26_27_0, g1rz26_27_1, g1rz26_27_2, f1rz26_27_I, f1rz26_27_A⟩ | ⟨g0rz26_27_0, g0rz26_27_1, f0rz26_27_I, f0rz26_27_A⟩⟩
              · try dsimp only at *
                rw [show vI h5i23_25 v0 48 = 1 from (by rw [ih5i23_25 v0 48, if_neg (fun z => absurd z.2 (by decide)), fr2i23_24_I v0 48 (by omega), gr3i21_22_0])] at g1rz26_27_1
                rw [show vI h5i23_25 v0 41 = ((vI h v0 41) + 1) from (by rw [ih5i23_25 v0 41, if_pos ⟨rfl, rfl⟩])] at g1rz26_27_2
                exact absurd g1rz26_27_1 (by decide)
              · try dsimp only at *
                rw [show vI h5i23_25 v0 48 = 1 from (by rw [ih5i23_25 v0 48, if_neg (fun z => absurd z.2 (by decide)), fr2i23_24_I v0 48 (by omega), gr3i21_22_0]), show vI h5i23_25 v0 41 = ((vI h v0 41) + 1) from (by rw [ih5i23_25 v0 41, if_pos ⟨rfl, rfl⟩])] at g0rz26_27_1
                exact ⟨Thrz26_27, Or.inr ⟨g0rz26_27_0, (by show ¬ vI h v0 48 = 0 ∨ x_yt t n (v2 - v3) (vI h v0 41) = none; refine Or.inr ?_; exact x_ytn tp n2 (x_sb0 wk cc2) (Or.inr (Or.inr (Or.inr cc20)))), (fun a k na => by rw [f0rz26_27_I a k (fun z => na (z.elim (fun z => Or.inl z) (fun z => z.elim (fun z => Or.inr (Or.inl z)) (fun z => Or.inr (Or.inr (z)))))), ih5i23_25 a k, if_neg (fun z => na (Or.inr (Or.inr (z)))), fr2i23_24_I a k (by omega), fr3i21_22_I a k (fun z => na (z.elim (fun z => Or.inl z) (fun z => Or.inr (Or.inl z))))]), (fun a na => by rw [f0rz26_27_A a (fun z => na (z.elim (fun z => Or.inl z) (fun z => z.elim (fun z => Or.inr (Or.inl z)) (fun z => Or.inr (Or.inr (z)))))), ah5i23_25 a, fr2i23_24_A a (fun z => na (z.elim (fun z => Or.inl z) (fun z => Or.inr (Or.inl z)))), fr3i21_22_A a (by omega)])⟩⟩
            · skip
              refine qi_if (fun cc28 => ?_) (fun cc28 => ?_)
              · skip
                unfold f_Mod_exchange_244
                refine l_gI (e := (vI h v0 41)) rfl ?_
                refine l_gO ?_
                refine j_Mod_wrong (v0 := v0) (v1 := (vI h v0 41)) T kv0 ?_
                intro hr3i29_30 Thr3i29_30 gr3i29_30_0 fr3i29_30_I fr3i29_30_A
                try dsimp only
                unfold f_Mod_exchange_252
                refine l_gO ?_
                refine j_Mod_keep (v0 := v0) (v1 := (x_lk t n (vI h v0 41))) Thr3i29_30 kv0 ?_
                intro hr2i31_32 Thr2i31_32 gr2i31_32_0 gr2i31_32_1 gr2i31_32_2 fr2i31_32_I fr2i31_32_A
                try dsimp only
                rw [show vI hr3i29_30 v0 42 = (vI h v0 42) from (by rw [fr3i29_30_I v0 42 (by omega)]), show vA hr3i29_30 (v0 + 22) = vA h (v0 + 22) from (by rw [fr3i29_30_A (v0 + 22) (by omega)])] at gr2i31_32_0
                rw [show vI hr3i29_30 v0 42 = (vI h v0 42) from (by rw [fr3i29_30_I v0 42 (by omega)]), show vA hr3i29_30 (v0 + 22) = vA h (v0 + 22) from (by rw [fr3i29_30_A (v0 + 22) (by omega)]), show vA hr3i29_30 (v0 + 28) = vA h (v0 + 28) from (by rw [fr3i29_30_A (v0 + 28) (by omega)])] at gr2i31_32_1
                rw [show vI hr3i29_30 v0 42 = (vI h v0 42) from (by rw [fr3i29_30_I v0 42 (by omega)]), show vA hr3i29_30 (v0 + 22) = vA h (v0 + 22) from (by rw [fr3i29_30_A (v0 + 22) (by omega)])] at gr2i31_32_2
                refine qi_bs ?_
                refine l_gI (e := (vI h v0 41)) (by rw [fr2i31_32_I v0 41 (by omega), fr3i29_30_I v0 41 (by omega)]) ?_
                refine l_sI Thr2i31_32 (q_Mk kv0) (by decide) rfl ?_
                intro h5i31_33 Th5i31_33 ih5i31_33 ah5i31_33
                refine qi_mono (ih v0 v1 v2 (v3 + 1) h5i31_33 Th5i31_33 kv0 (by show ∀ j, 0 ≤ j → j < n → vA h5i31_33 (v0 + 1) j = t j; rw [show vA h5i31_33 (v0 + 1) = vA h (v0 + 1) from (by rw [ah5i31_33 (v0 + 1), fr2i31_32_A (v0 + 1) (by omega), fr3i29_30_A (v0 + 1) (by omega)])] <;> (first | assumption | with_reducible rfl | grind)) (by show vI h5i31_33 v0 3 = n; rw [show vI h5i31_33 v0 3 = (vI h v0 3) from (by rw [ih5i31_33 v0 3, if_neg (fun z => absurd z.2 (by decide)), fr2i31_32_I v0 3 (by omega), fr3i29_30_I v0 3 (by omega)])] <;> (first | assumption | with_reducible rfl | grind)) n1 tp (by show vI h5i31_33 v0 48 = 0 → 0 ≤ vI h5i31_33 v0 41; rw [show vI h5i31_33 v0 48 = 1 from (by rw [ih5i31_33 v0 48, if_neg (fun z => absurd z.2 (by decide)), fr2i31_32_I v0 48 (by omega), gr3i29_30_0]), show vI h5i31_33 v0 41 = ((vI h v0 41) + 1) from (by rw [ih5i31_33 v0 41, if_pos ⟨rfl, rfl⟩])] <;> (intro z9; exact absurd z9 (by decide))) (by show vI h5i31_33 v0 48 = 0 → 0 ≤ (v3 + 1) ∧ (v3 + 1) ≤ v2 ∧ v2 ≤ 1000; rw [show vI h5i31_33 v0 48 = 1 from (by rw [ih5i31_33 v0 48, if_neg (fun z => absurd z.2 (by decide)), fr2i31_32_I v0 48 (by omega), gr3i29_30_0])] <;> (intro z9; exact absurd z9 (by decide)))) ?_
                rintro hrz34_35 ⟨Thrz34_35, ⟨g1rz34_35_0, g1rz34_35_1, g1rz34_35_2, f1rz34_35_I, f1rz34_35_A⟩ | ⟨g0rz34_35_0, g0rz34_35_1, f0rz34_35_I, f0rz34_35_A⟩⟩
                · try dsimp only at *
                  rw [show vI h5i31_33 v0 48 = 1 from (by rw [ih5i31_33 v0 48, if_neg (fun z => absurd z.2 (by decide)), fr2i31_32_I v0 48 (by omega), gr3i29_30_0])] at g1rz34_35_1
                  rw [show vI h5i31_33 v0 41 = ((vI h v0 41) + 1) from (by rw [ih5i31_33 v0 41, if_pos ⟨rfl, rfl⟩])] at g1rz34_35_2
                  exact absurd g1rz34_35_1 (by decide)
                · try dsimp only at *
                  rw [show vI h5i31_33 v0 48 = 1 from (by rw [ih5i31_33 v0 48, if_neg (fun z => absurd z.2 (by decide)), fr2i31_32_I v0 48 (by omega), gr3i29_30_0]), show vI h5i31_33 v0 41 = ((vI h v0 41) + 1) from (by rw [ih5i31_33 v0 41, if_pos ⟨rfl, rfl⟩])] at g0rz34_35_1
                  exact ⟨Thrz34_35, Or.inr ⟨g0rz34_35_0, (by show ¬ vI h v0 48 = 0 ∨ x_yt t n (v2 - v3) (vI h v0 41) = none; refine Or.inr ?_; exact x_ytn tp n2 (x_sb0 wk cc2) (Or.inl cc28)), (fun a k na => by rw [f0rz34_35_I a k (fun z => na (z.elim (fun z => Or.inl z) (fun z => z.elim (fun z => Or.inr (Or.inl z)) (fun z => Or.inr (Or.inr (z)))))), ih5i31_33 a k, if_neg (fun z => na (Or.inr (Or.inr (z)))), fr2i31_32_I a k (by omega), fr3i29_30_I a k (fun z => na (z.elim (fun z => Or.inl z) (fun z => Or.inr (Or.inl z))))]), (fun a na => by rw [f0rz34_35_A a (fun z => na (z.elim (fun z => Or.inl z) (fun z => z.elim (fun z => Or.inr (Or.inl z)) (fun z => Or.inr (Or.inr (z)))))), ah5i31_33 a, fr2i31_32_A a (fun z => na (z.elim (fun z => Or.inl z) (fun z => Or.inr (Or.inl z)))), fr3i29_30_A a (by omega)])⟩⟩
              · skip
                refine qi_if (fun cc36 => ?_) (fun cc36 => ?_)
                · skip
                  unfold f_Mod_exchange_244
                  refine l_gI (e := (vI h v0 41)) rfl ?_
                  refine l_gO ?_
                  refine j_Mod_wrong (v0 := v0) (v1 := (vI h v0 41)) T kv0 ?_
                  intro hr3i37_38 Thr3i37_38 gr3i37_38_0 fr3i37_38_I fr3i37_38_A
                  try dsimp only
                  unfold f_Mod_exchange_252
                  refine l_gO ?_
                  refine j_Mod_keep (v0 := v0) (v1 := (x_lk t n (vI h v0 41))) Thr3i37_38 kv0 ?_
                  intro hr2i39_40 Thr2i39_40 gr2i39_40_0 gr2i39_40_1 gr2i39_40_2 fr2i39_40_I fr2i39_40_A
                  try dsimp only
                  rw [show vI hr3i37_38 v0 42 = (vI h v0 42) from (by rw [fr3i37_38_I v0 42 (by omega)]), show vA hr3i37_38 (v0 + 22) = vA h (v0 + 22) from (by rw [fr3i37_38_A (v0 + 22) (by omega)])] at gr2i39_40_0
                  rw [show vI hr3i37_38 v0 42 = (vI h v0 42) from (by rw [fr3i37_38_I v0 42 (by omega)]), show vA hr3i37_38 (v0 + 22) = vA h (v0 + 22) from (by rw [fr3i37_38_A (v0 + 22) (by omega)]), show vA hr3i37_38 (v0 + 28) = vA h (v0 + 28) from (by rw [fr3i37_38_A (v0 + 28) (by omega)])] at gr2i39_40_1
                  rw [show vI hr3i37_38 v0 42 = (vI h v0 42) from (by rw [fr3i37_38_I v0 42 (by omega)]), show vA hr3i37_38 (v0 + 22) = vA h (v0 + 22) from (by rw [fr3i37_38_A (v0 + 22) (by omega)])] at gr2i39_40_2
                  refine qi_bs ?_
                  refine l_gI (e := (vI h v0 41)) (by rw [fr2i39_40_I v0 41 (by omega), fr3i37_38_I v0 41 (by omega)]) ?_
                  refine l_sI Thr2i39_40 (q_Mk kv0) (by decide) rfl ?_
                  intro h5i39_41 Th5i39_41 ih5i39_41 ah5i39_41
                  refine qi_mono (ih v0 v1 v2 (v3 + 1) h5i39_41 Th5i39_41 kv0 (by show ∀ j, 0 ≤ j → j < n → vA h5i39_41 (v0 + 1) j = t j; rw [show vA h5i39_41 (v0 + 1) = vA h (v0 + 1) from (by rw [ah5i39_41 (v0 + 1), fr2i39_40_A (v0 + 1) (by omega), fr3i37_38_A (v0 + 1) (by omega)])] <;> (first | assumption | with_reducible rfl | grind)) (by show vI h5i39_41 v0 3 = n; rw [show vI h5i39_41 v0 3 = (vI h v0 3) from (by rw [ih5i39_41 v0 3, if_neg (fun z => absurd z.2 (by decide)), fr2i39_40_I v0 3 (by omega), fr3i37_38_I v0 3 (by omega)])] <;> (first | assumption | with_reducible rfl | grind)) n1 tp (by show vI h5i39_41 v0 48 = 0 → 0 ≤ vI h5i39_41 v0 41; rw [show vI h5i39_41 v0 48 = 1 from (by rw [ih5i39_41 v0 48, if_neg (fun z => absurd z.2 (by decide)), fr2i39_40_I v0 48 (by omega), gr3i37_38_0]), show vI h5i39_41 v0 41 = ((vI h v0 41) + 1) from (by rw [ih5i39_41 v0 41, if_pos ⟨rfl, rfl⟩])] <;> (intro z9; exact absurd z9 (by decide))) (by show vI h5i39_41 v0 48 = 0 → 0 ≤ (v3 + 1) ∧ (v3 + 1) ≤ v2 ∧ v2 ≤ 1000; rw [show vI h5i39_41 v0 48 = 1 from (by rw [ih5i39_41 v0 48, if_neg (fun z => absurd z.2 (by decide)), fr2i39_40_I v0 48 (by omega), gr3i37_38_0])] <;> (intro z9; exact absurd z9 (by decide)))) ?_
                  rintro hrz42_43 ⟨Thrz42_43, ⟨g1rz42_43_0, g1rz42_43_1, g1rz42_43_2, f1rz42_43_I, f1rz42_43_A⟩ | ⟨g0rz42_43_0, g0rz42_43_1, f0rz42_43_I, f0rz42_43_A⟩⟩
                  · try dsimp only at *
                    rw [show vI h5i39_41 v0 48 = 1 from (by rw [ih5i39_41 v0 48, if_neg (fun z => absurd z.2 (by decide)), fr2i39_40_I v0 48 (by omega), gr3i37_38_0])] at g1rz42_43_1
                    rw [show vI h5i39_41 v0 41 = ((vI h v0 41) + 1) from (by rw [ih5i39_41 v0 41, if_pos ⟨rfl, rfl⟩])] at g1rz42_43_2
                    exact absurd g1rz42_43_1 (by decide)
                  · try dsimp only at *
                    rw [show vI h5i39_41 v0 48 = 1 from (by rw [ih5i39_41 v0 48, if_neg (fun z => absurd z.2 (by decide)), fr2i39_40_I v0 48 (by omega), gr3i37_38_0]), show vI h5i39_41 v0 41 = ((vI h v0 41) + 1) from (by rw [ih5i39_41 v0 41, if_pos ⟨rfl, rfl⟩])] at g0rz42_43_1
                    exact ⟨Thrz42_43, Or.inr ⟨g0rz42_43_0, (by show ¬ vI h v0 48 = 0 ∨ x_yt t n (v2 - v3) (vI h v0 41) = none; refine Or.inr ?_; exact x_ytn tp n2 (x_sb0 wk cc2) (absurd (show v3 = v2 from by assumption) (Int32.ne_of_lt (show v3 < v2 from by assumption)))), (fun a k na => by rw [f0rz42_43_I a k (fun z => na (z.elim (fun z => Or.inl z) (fun z => z.elim (fun z => Or.inr (Or.inl z)) (fun z => Or.inr (Or.inr (z)))))), ih5i39_41 a k, if_neg (fun z => na (Or.inr (Or.inr (z)))), fr2i39_40_I a k (by omega), fr3i37_38_I a k (fun z => na (z.elim (fun z => Or.inl z) (fun z => Or.inr (Or.inl z))))]), (fun a na => by rw [f0rz42_43_A a (fun z => na (z.elim (fun z => Or.inl z) (fun z => z.elim (fun z => Or.inr (Or.inl z)) (fun z => Or.inr (Or.inr (z)))))), ah5i39_41 a, fr2i39_40_A a (fun z => na (z.elim (fun z => Or.inl z) (fun z => Or.inr (Or.inl z)))), fr3i37_38_A a (by omega)])⟩⟩
                · skip
                  unfold f_Mod_exchange_252
                  refine l_gO ?_
                  refine j_Mod_keep (v0 := v0) (v1 := (x_lk t n (vI h v0 41))) T kv0 ?_
                  intro hr2i44_45 Thr2i44_45 gr2i44_45_0 gr2i44_45_1 gr2i44_45_2 fr2i44_45_I fr2i44_45_A
                  try dsimp only
                  refine qi_bs ?_
                  refine l_gI (e := (vI h v0 41)) (by rw [fr2i44_45_I v0 41 (by omega)]) ?_
                  refine l_sI Thr2i44_45 (q_Mk kv0) (by decide) rfl ?_
                  intro h5i44_46 Th5i44_46 ih5i44_46 ah5i44_46
                  refine qi_mono (ih v0 v1 v2 (v3 + 1) h5i44_46 Th5i44_46 kv0 (by show ∀ j, 0 ≤ j → j < n → vA h5i44_46 (v0 + 1) j = t j; rw [show vA h5i44_46 (v0 + 1) = vA h (v0 + 1) from (by rw [ah5i44_46 (v0 + 1), fr2i44_45_A (v0 + 1) (by omega)])] <;> (first | assumption | with_reducible rfl | grind)) (by show vI h5i44_46 v0 3 = n; rw [show vI h5i44_46 v0 3 = (vI h v0 3) from (by rw [ih5i44_46 v0 3, if_neg (fun z => absurd z.2 (by decide)), fr2i44_45_I v0 3 (by omega)])] <;> (first | assumption | with_reducible rfl | grind)) n1 tp (by show vI h5i44_46 v0 48 = 0 → 0 ≤ vI h5i44_46 v0 41; rw [show vI h5i44_46 v0 48 = (vI h v0 48) from (by rw [ih5i44_46 v0 48, if_neg (fun z => absurd z.2 (by decide)), fr2i44_45_I v0 48 (by omega)]), show vI h5i44_46 v0 41 = ((vI h v0 41) + 1) from (by rw [ih5i44_46 v0 41, if_pos ⟨rfl, rfl⟩])] <;> (intro z9; exact x_0le a0 (x_lp1 n2 (t := t) cc5))) (by show vI h5i44_46 v0 48 = 0 → 0 ≤ (v3 + 1) ∧ (v3 + 1) ≤ v2 ∧ v2 ≤ 1000; rw [show vI h5i44_46 v0 48 = (vI h v0 48) from (by rw [ih5i44_46 v0 48, if_neg (fun z => absurd z.2 (by decide)), fr2i44_45_I v0 48 (by omega)])] <;> (intro z9; exact x_wk2 wk (by assumption)))) ?_
                  rintro hrz47_48 ⟨Thrz47_48, ⟨g1rz47_48_0, g1rz47_48_1, g1rz47_48_2, f1rz47_48_I, f1rz47_48_A⟩ | ⟨g0rz47_48_0, g0rz47_48_1, f0rz47_48_I, f0rz47_48_A⟩⟩
                  · try dsimp only at *
                    rw [show vI h5i44_46 v0 48 = (vI h v0 48) from (by rw [ih5i44_46 v0 48, if_neg (fun z => absurd z.2 (by decide)), fr2i44_45_I v0 48 (by omega)])] at g1rz47_48_1
                    rw [show vI h5i44_46 v0 41 = ((vI h v0 41) + 1) from (by rw [ih5i44_46 v0 41, if_pos ⟨rfl, rfl⟩])] at g1rz47_48_2
                    exact ⟨Thrz47_48, Or.inl ⟨(by show vI hrz47_48 v0 48 = 0; rw [show vI hrz47_48 v0 48 = 0 from (by rw [g1rz47_48_0])] <;> (first | assumption | with_reducible rfl | grind)), (by show vI h v0 48 = 0; first | assumption | with_reducible rfl | grind), (by show x_yt t n (v2 - v3) (vI h v0 41) = some (vI hrz47_48 v0 41); rw [x_yts n2 (x_sb0 wk cc2) cc5 cc28 cc12 cc20, x_sub1]; exact g1rz47_48_2), (fun a k na => by rw [f1rz47_48_I a k (fun z => na (z.elim (fun z => Or.inl z) (fun z => z.elim (fun z => Or.inr (Or.inl z)) (fun z => Or.inr (Or.inr (z)))))), ih5i44_46 a k, if_neg (fun z => na (Or.inr (Or.inr (z)))), fr2i44_45_I a k (by omega)]), (fun a na => by rw [f1rz47_48_A a (fun z => na (z.elim (fun z => Or.inl z) (fun z => z.elim (fun z => Or.inr (Or.inl z)) (fun z => Or.inr (Or.inr (z)))))), ah5i44_46 a, fr2i44_45_A a (fun z => na (z.elim (fun z => Or.inl z) (fun z => Or.inr (Or.inl z))))])⟩⟩
                  · try dsimp only at *
                    rw [show vI h5i44_46 v0 48 = (vI h v0 48) from (by rw [ih5i44_46 v0 48, if_neg (fun z => absurd z.2 (by decide)), fr2i44_45_I v0 48 (by omega)]), show vI h5i44_46 v0 41 = ((vI h v0 41) + 1) from (by rw [ih5i44_46 v0 41, if_pos ⟨rfl, rfl⟩])] at g0rz47_48_1
                    exact ⟨Thrz47_48, Or.inr ⟨g0rz47_48_0, (by show ¬ vI h v0 48 = 0 ∨ x_yt t n (v2 - v3) (vI h v0 41) = none; refine Or.inr ?_; rw [x_yts n2 (x_sb0 wk cc2) cc5 cc28 cc12 cc20, x_sub1]; exact (g0rz47_48_1.resolve_left (fun z => z (by first | rfl | assumption)))), (fun a k na => by rw [f0rz47_48_I a k (fun z => na (z.elim (fun z => Or.inl z) (fun z => z.elim (fun z => Or.inr (Or.inl z)) (fun z => Or.inr (Or.inr (z)))))), ih5i44_46 a k, if_neg (fun z => na (Or.inr (Or.inr (z)))), fr2i44_45_I a k (by omega)]), (fun a na => by rw [f0rz47_48_A a (fun z => na (z.elim (fun z => Or.inl z) (fun z => z.elim (fun z => Or.inr (Or.inl z)) (fun z => Or.inr (Or.inr (z)))))), ah5i44_46 a, fr2i44_45_A a (fun z => na (z.elim (fun z => Or.inl z) (fun z => Or.inr (Or.inl z))))])⟩⟩
      · skip
        refine l_gO ?_
        refine j_Mod_here (v0 := v0) (t := t) (n := n) (e := (x_lk t n (vI h v0 41))) T kv0 ht hn rfl ?_
        try dsimp only
        refine qi_if (fun cc50 => ?_) (fun cc50 => ?_)
        · skip
          unfold f_Mod_exchange_274
          refine l_gI (e := (vI h v0 41)) rfl ?_
          refine l_sI T (q_Mk kv0) (by decide) rfl ?_
          intro h2i51_52 Th2i51_52 ih2i51_52 ah2i51_52
          refine l_gR Th2i51_52 (d_Mo_16 kv0) ?_
          refine l_gO ?_
          refine j_Mod_stored (v0 := v0) (e := (300 * (vI h v0 42) + vA h (v0 + 22) (vI h v0 42))) Th2i51_52 kv0 (by rw [show vI h2i51_52 v0 42 = (vI h v0 42) from (by rw [ih2i51_52 v0 42, if_neg (fun z => absurd z.2 (by decide))]), show vA h2i51_52 (v0 + 22) = vA h (v0 + 22) from (by rw [ah2i51_52 (v0 + 22)])]) ?_
          try dsimp only
          refine l_uI Th2i51_52 ?_
          intro h6i51_54 Th6i51_54 jh6i51_54 ih6i51_54 ah6i51_54 bh6i51_54
          refine qi_some ?_
          exact ⟨Th6i51_54, Or.inl ⟨(by show vI h6i51_54 v0 48 = 0; rw [show vI h6i51_54 v0 48 = (vI h v0 48) from (by rw [ih6i51_54 v0 48, ih2i51_52 v0 48, if_neg (fun z => absurd z.2 (by decide))])] <;> (first | assumption | with_reducible rfl | grind)), (by show vI h v0 48 = 0; first | assumption | with_reducible rfl | grind), (by show x_yt t n (v2 - v3) (vI h v0 41) = some (vI h6i51_54 v0 41); rw [show vI h6i51_54 v0 41 = ((vI h v0 41) + 1) from (by rw [ih6i51_54 v0 41, ih2i51_52 v0 41, if_pos ⟨rfl, rfl⟩])] <;> (rw [x_sbe wk (by assumption)]; exact x_yt0 n2 (by assumption))), (fun a k na => by rw [ih6i51_54 a k, ih2i51_52 a k, if_neg (fun z => na (Or.inr (Or.inr (z))))]), (fun a na => by rw [bh6i51_54 a (fun z => na (Or.inr (Or.inr (z)))), ah2i51_52 a])⟩⟩
        · skip
          unfold f_Mod_exchange_195
          refine l_gO ?_
          refine j_Mod_here (v0 := v0) (t := t) (n := n) (e := (x_lk t n (vI h v0 41))) T kv0 ht hn rfl ?_
          try dsimp only
          refine qi_bs ?_
          refine qi_if (fun cc57 => ?_) (fun cc57 => ?_)
          · skip
            refine l_gI (e := (vI h v0 3)) rfl ?_
            refine l_gO ?_
            refine j_Mod_wrong (v0 := v0) (v1 := (vI h v0 3)) T kv0 ?_
            intro hr11i55_58 Thr11i55_58 gr11i55_58_0 fr11i55_58_I fr11i55_58_A
            try dsimp only
            unfold f_Mod_exchange_252
            refine l_gO ?_
            refine j_Mod_keep (v0 := v0) (v1 := (x_lk t n (vI h v0 41))) Thr11i55_58 kv0 ?_
            intro hr2i59_60 Thr2i59_60 gr2i59_60_0 gr2i59_60_1 gr2i59_60_2 fr2i59_60_I fr2i59_60_A
            try dsimp only
            rw [show vI hr11i55_58 v0 42 = (vI h v0 42) from (by rw [fr11i55_58_I v0 42 (by omega)]), show vA hr11i55_58 (v0 + 22) = vA h (v0 + 22) from (by rw [fr11i55_58_A (v0 + 22) (by omega)])] at gr2i59_60_0
            rw [show vI hr11i55_58 v0 42 = (vI h v0 42) from (by rw [fr11i55_58_I v0 42 (by omega)]), show vA hr11i55_58 (v0 + 22) = vA h (v0 + 22) from (by rw [fr11i55_58_A (v0 + 22) (by omega)]), show vA hr11i55_58 (v0 + 28) = vA h (v0 + 28) from (by rw [fr11i55_58_A (v0 + 28) (by omega)])] at gr2i59_60_1
            rw [show vI hr11i55_58 v0 42 = (vI h v0 42) from (by rw [fr11i55_58_I v0 42 (by omega)]), show vA hr11i55_58 (v0 + 22) = vA h (v0 + 22) from (by rw [fr11i55_58_A (v0 + 22) (by omega)])] at gr2i59_60_2
            refine qi_bs ?_
            refine l_gI (e := (vI h v0 41)) (by rw [fr2i59_60_I v0 41 (by omega), fr11i55_58_I v0 41 (by omega)]) ?_
            refine l_sI Thr2i59_60 (q_Mk kv0) (by decide) rfl ?_
            intro h5i59_61 Th5i59_61 ih5i59_61 ah5i59_61
            refine qi_mono (ih v0 v1 v2 (v3 + 1) h5i59_61 Th5i59_61 kv0 (by show ∀ j, 0 ≤ j → j < n → vA h5i59_61 (v0 + 1) j = t j; rw [show vA h5i59_61 (v0 + 1) = vA h (v0 + 1) from (by rw [ah5i59_61 (v0 + 1), fr2i59_60_A (v0 + 1) (by omega), fr11i55_58_A (v0 + 1) (by omega)])] <;> (first | assumption | with_reducible rfl | grind)) (by show vI h5i59_61 v0 3 = n; rw [show vI h5i59_61 v0 3 = (vI h v0 3) from (by rw [ih5i59_61 v0 3, if_neg (fun z => absurd z.2 (by decide)), fr2i59_60_I v0 3 (by omega), fr11i55_58_I v0 3 (by omega)])] <;> (first | assumption | with_reducible rfl | grind)) n1 tp (by show vI h5i59_61 v0 48 = 0 → 0 ≤ vI h5i59_61 v0 41; rw [show vI h5i59_61 v0 48 = 1 from (by rw [ih5i59_61 v0 48, if_neg (fun z => absurd z.2 (by decide)), fr2i59_60_I v0 48 (by omega), gr11i55_58_0]), show vI h5i59_61 v0 41 = ((vI h v0 41) + 1) from (by rw [ih5i59_61 v0 41, if_pos ⟨rfl, rfl⟩])] <;> (intro z9; exact absurd z9 (by decide))) (by show vI h5i59_61 v0 48 = 0 → 0 ≤ (v3 + 1) ∧ (v3 + 1) ≤ v2 ∧ v2 ≤ 1000; rw [show vI h5i59_61 v0 48 = 1 from (by rw [ih5i59_61 v0 48, if_neg (fun z => absurd z.2 (by decide)), fr2i59_60_I v0 48 (by omega), gr11i55_58_0])] <;> (intro z9; exact absurd z9 (by decide)))) ?_
            rintro hrz62_63 ⟨Thrz62_63, ⟨g1rz62_63_0, g1rz62_63_1, g1rz62_63_2, f1rz62_63_I, f1rz62_63_A⟩ | ⟨g0rz62_63_0, g0rz62_63_1, f0rz62_63_I, f0rz62_63_A⟩⟩
            · try dsimp only at *
              rw [show vI h5i59_61 v0 48 = 1 from (by rw [ih5i59_61 v0 48, if_neg (fun z => absurd z.2 (by decide)), fr2i59_60_I v0 48 (by omega), gr11i55_58_0])] at g1rz62_63_1
              rw [show vI h5i59_61 v0 41 = ((vI h v0 41) + 1) from (by rw [ih5i59_61 v0 41, if_pos ⟨rfl, rfl⟩])] at g1rz62_63_2
              exact absurd g1rz62_63_1 (by decide)
            · try dsimp only at *
              rw [show vI h5i59_61 v0 48 = 1 from (by rw [ih5i59_61 v0 48, if_neg (fun z => absurd z.2 (by decide)), fr2i59_60_I v0 48 (by omega), gr11i55_58_0]), show vI h5i59_61 v0 41 = ((vI h v0 41) + 1) from (by rw [ih5i59_61 v0 41, if_pos ⟨rfl, rfl⟩])] at g0rz62_63_1
              exact ⟨Thrz62_63, Or.inr ⟨g0rz62_63_0, (by show ¬ vI h v0 48 = 0 ∨ x_yt t n (v2 - v3) (vI h v0 41) = none; refine Or.inr ?_; rw [x_sbe wk (by assumption)]; exact x_yt0n (by first | assumption | exact x_nn47 (by assumption))), (fun a k na => by rw [f0rz62_63_I a k (fun z => na (z.elim (fun z => Or.inl z) (fun z => z.elim (fun z => Or.inr (Or.inl z)) (fun z => Or.inr (Or.inr (z)))))), ih5i59_61 a k, if_neg (fun z => na (Or.inr (Or.inr (z)))), fr2i59_60_I a k (by omega), fr11i55_58_I a k (fun z => na (z.elim (fun z => Or.inl z) (fun z => Or.inr (Or.inl z))))]), (fun a na => by rw [f0rz62_63_A a (fun z => na (z.elim (fun z => Or.inl z) (fun z => z.elim (fun z => Or.inr (Or.inl z)) (fun z => Or.inr (Or.inr (z)))))), ah5i59_61 a, fr2i59_60_A a (fun z => na (z.elim (fun z => Or.inl z) (fun z => Or.inr (Or.inl z)))), fr11i55_58_A a (by omega)])⟩⟩
          · skip
            refine qi_if (fun cc64 => ?_) (fun cc64 => ?_)
            · skip
              unfold f_Mod_exchange_244
              refine l_gI (e := (vI h v0 41)) rfl ?_
              refine l_gO ?_
              refine j_Mod_wrong (v0 := v0) (v1 := (vI h v0 41)) T kv0 ?_
              intro hr3i65_66 Thr3i65_66 gr3i65_66_0 fr3i65_66_I fr3i65_66_A
              try dsimp only
              unfold f_Mod_exchange_252
              refine l_gO ?_
              refine j_Mod_keep (v0 := v0) (v1 := (x_lk t n (vI h v0 41))) Thr3i65_66 kv0 ?_
              intro hr2i67_68 Thr2i67_68 gr2i67_68_0 gr2i67_68_1 gr2i67_68_2 fr2i67_68_I fr2i67_68_A
              try dsimp only
              rw [show vI hr3i65_66 v0 42 = (vI h v0 42) from (by rw [fr3i65_66_I v0 42 (by omega)]), show vA hr3i65_66 (v0 + 22) = vA h (v0 + 22) from (by rw [fr3i65_66_A (v0 + 22) (by omega)])] at gr2i67_68_0
              rw [show vI hr3i65_66 v0 42 = (vI h v0 42) from (by rw [fr3i65_66_I v0 42 (by omega)]), show vA hr3i65_66 (v0 + 22) = vA h (v0 + 22) from (by rw [fr3i65_66_A (v0 + 22) (by omega)]), show vA hr3i65_66 (v0 + 28) = vA h (v0 + 28) from (by rw [fr3i65_66_A (v0 + 28) (by omega)])] at gr2i67_68_1
              rw [show vI hr3i65_66 v0 42 = (vI h v0 42) from (by rw [fr3i65_66_I v0 42 (by omega)]), show vA hr3i65_66 (v0 + 22) = vA h (v0 + 22) from (by rw [fr3i65_66_A (v0 + 22) (by omega)])] at gr2i67_68_2
              refine qi_bs ?_
              refine l_gI (e := (vI h v0 41)) (by rw [fr2i67_68_I v0 41 (by omega), fr3i65_66_I v0 41 (by omega)]) ?_
              refine l_sI Thr2i67_68 (q_Mk kv0) (by decide) rfl ?_
              intro h5i67_69 Th5i67_69 ih5i67_69 ah5i67_69
              refine qi_mono (ih v0 v1 v2 (v3 + 1) h5i67_69 Th5i67_69 kv0 (by show ∀ j, 0 ≤ j → j < n → vA h5i67_69 (v0 + 1) j = t j; rw [show vA h5i67_69 (v0 + 1) = vA h (v0 + 1) from (by rw [ah5i67_69 (v0 + 1), fr2i67_68_A (v0 + 1) (by omega), fr3i65_66_A (v0 + 1) (by omega)])] <;> (first | assumption | with_reducible rfl | grind)) (by show vI h5i67_69 v0 3 = n; rw [show vI h5i67_69 v0 3 = (vI h v0 3) from (by rw [ih5i67_69 v0 3, if_neg (fun z => absurd z.2 (by decide)), fr2i67_68_I v0 3 (by omega), fr3i65_66_I v0 3 (by omega)])] <;> (first | assumption | with_reducible rfl | grind)) n1 tp (by show vI h5i67_69 v0 48 = 0 → 0 ≤ vI h5i67_69 v0 41; rw [show vI h5i67_69 v0 48 = 1 from (by rw [ih5i67_69 v0 48, if_neg (fun z => absurd z.2 (by decide)), fr2i67_68_I v0 48 (by omega), gr3i65_66_0]), show vI h5i67_69 v0 41 = ((vI h v0 41) + 1) from (by rw [ih5i67_69 v0 41, if_pos ⟨rfl, rfl⟩])] <;> (intro z9; exact absurd z9 (by decide))) (by show vI h5i67_69 v0 48 = 0 → 0 ≤ (v3 + 1) ∧ (v3 + 1) ≤ v2 ∧ v2 ≤ 1000; rw [show vI h5i67_69 v0 48 = 1 from (by rw [ih5i67_69 v0 48, if_neg (fun z => absurd z.2 (by decide)), fr2i67_68_I v0 48 (by omega), gr3i65_66_0])] <;> (intro z9; exact absurd z9 (by decide)))) ?_
              rintro hrz70_71 ⟨Thrz70_71, ⟨g1rz70_71_0, g1rz70_71_1, g1rz70_71_2, f1rz70_71_I, f1rz70_71_A⟩ | ⟨g0rz70_71_0, g0rz70_71_1, f0rz70_71_I, f0rz70_71_A⟩⟩
              · try dsimp only at *
                rw [show vI h5i67_69 v0 48 = 1 from (by rw [ih5i67_69 v0 48, if_neg (fun z => absurd z.2 (by decide)), fr2i67_68_I v0 48 (by omega), gr3i65_66_0])] at g1rz70_71_1
                rw [show vI h5i67_69 v0 41 = ((vI h v0 41) + 1) from (by rw [ih5i67_69 v0 41, if_pos ⟨rfl, rfl⟩])] at g1rz70_71_2
                exact absurd g1rz70_71_1 (by decide)
              · try dsimp only at *
                rw [show vI h5i67_69 v0 48 = 1 from (by rw [ih5i67_69 v0 48, if_neg (fun z => absurd z.2 (by decide)), fr2i67_68_I v0 48 (by omega), gr3i65_66_0]), show vI h5i67_69 v0 41 = ((vI h v0 41) + 1) from (by rw [ih5i67_69 v0 41, if_pos ⟨rfl, rfl⟩])] at g0rz70_71_1
                exact ⟨Thrz70_71, Or.inr ⟨g0rz70_71_0, (by show ¬ vI h v0 48 = 0 ∨ x_yt t n (v2 - v3) (vI h v0 41) = none; refine Or.inr ?_; rw [x_sbe wk (by assumption)]; exact x_yt0n (by first | assumption | exact x_nn47 (by assumption))), (fun a k na => by rw [f0rz70_71_I a k (fun z => na (z.elim (fun z => Or.inl z) (fun z => z.elim (fun z => Or.inr (Or.inl z)) (fun z => Or.inr (Or.inr (z)))))), ih5i67_69 a k, if_neg (fun z => na (Or.inr (Or.inr (z)))), fr2i67_68_I a k (by omega), fr3i65_66_I a k (fun z => na (z.elim (fun z => Or.inl z) (fun z => Or.inr (Or.inl z))))]), (fun a na => by rw [f0rz70_71_A a (fun z => na (z.elim (fun z => Or.inl z) (fun z => z.elim (fun z => Or.inr (Or.inl z)) (fun z => Or.inr (Or.inr (z)))))), ah5i67_69 a, fr2i67_68_A a (fun z => na (z.elim (fun z => Or.inl z) (fun z => Or.inr (Or.inl z)))), fr3i65_66_A a (by omega)])⟩⟩
            · skip
              refine qi_if (fun cc72 => ?_) (fun cc72 => ?_)
              · skip
                unfold f_Mod_exchange_244
                refine l_gI (e := (vI h v0 41)) rfl ?_
                refine l_gO ?_
                refine j_Mod_wrong (v0 := v0) (v1 := (vI h v0 41)) T kv0 ?_
                intro hr3i73_74 Thr3i73_74 gr3i73_74_0 fr3i73_74_I fr3i73_74_A
                try dsimp only
                unfold f_Mod_exchange_252
                refine l_gO ?_
                refine j_Mod_keep (v0 := v0) (v1 := (x_lk t n (vI h v0 41))) Thr3i73_74 kv0 ?_
                intro hr2i75_76 Thr2i75_76 gr2i75_76_0 gr2i75_76_1 gr2i75_76_2 fr2i75_76_I fr2i75_76_A
                try dsimp only
                rw [show vI hr3i73_74 v0 42 = (vI h v0 42) from (by rw [fr3i73_74_I v0 42 (by omega)]), show vA hr3i73_74 (v0 + 22) = vA h (v0 + 22) from (by rw [fr3i73_74_A (v0 + 22) (by omega)])] at gr2i75_76_0
                rw [show vI hr3i73_74 v0 42 = (vI h v0 42) from (by rw [fr3i73_74_I v0 42 (by omega)]), show vA hr3i73_74 (v0 + 22) = vA h (v0 + 22) from (by rw [fr3i73_74_A (v0 + 22) (by omega)]), show vA hr3i73_74 (v0 + 28) = vA h (v0 + 28) from (by rw [fr3i73_74_A (v0 + 28) (by omega)])] at gr2i75_76_1
                rw [show vI hr3i73_74 v0 42 = (vI h v0 42) from (by rw [fr3i73_74_I v0 42 (by omega)]), show vA hr3i73_74 (v0 + 22) = vA h (v0 + 22) from (by rw [fr3i73_74_A (v0 + 22) (by omega)])] at gr2i75_76_2
                refine qi_bs ?_
                refine l_gI (e := (vI h v0 41)) (by rw [fr2i75_76_I v0 41 (by omega), fr3i73_74_I v0 41 (by omega)]) ?_
                refine l_sI Thr2i75_76 (q_Mk kv0) (by decide) rfl ?_
                intro h5i75_77 Th5i75_77 ih5i75_77 ah5i75_77
                refine qi_mono (ih v0 v1 v2 (v3 + 1) h5i75_77 Th5i75_77 kv0 (by show ∀ j, 0 ≤ j → j < n → vA h5i75_77 (v0 + 1) j = t j; rw [show vA h5i75_77 (v0 + 1) = vA h (v0 + 1) from (by rw [ah5i75_77 (v0 + 1), fr2i75_76_A (v0 + 1) (by omega), fr3i73_74_A (v0 + 1) (by omega)])] <;> (first | assumption | with_reducible rfl | grind)) (by show vI h5i75_77 v0 3 = n; rw [show vI h5i75_77 v0 3 = (vI h v0 3) from (by rw [ih5i75_77 v0 3, if_neg (fun z => absurd z.2 (by decide)), fr2i75_76_I v0 3 (by omega), fr3i73_74_I v0 3 (by omega)])] <;> (first | assumption | with_reducible rfl | grind)) n1 tp (by show vI h5i75_77 v0 48 = 0 → 0 ≤ vI h5i75_77 v0 41; rw [show vI h5i75_77 v0 48 = 1 from (by rw [ih5i75_77 v0 48, if_neg (fun z => absurd z.2 (by decide)), fr2i75_76_I v0 48 (by omega), gr3i73_74_0]), show vI h5i75_77 v0 41 = ((vI h v0 41) + 1) from (by rw [ih5i75_77 v0 41, if_pos ⟨rfl, rfl⟩])] <;> (intro z9; exact absurd z9 (by decide))) (by show vI h5i75_77 v0 48 = 0 → 0 ≤ (v3 + 1) ∧ (v3 + 1) ≤ v2 ∧ v2 ≤ 1000; rw [show vI h5i75_77 v0 48 = 1 from (by rw [ih5i75_77 v0 48, if_neg (fun z => absurd z.2 (by decide)), fr2i75_76_I v0 48 (by omega), gr3i73_74_0])] <;> (intro z9; exact absurd z9 (by decide)))) ?_
                rintro hrz78_79 ⟨Thrz78_79, ⟨g1rz78_79_0, g1rz78_79_1, g1rz78_79_2, f1rz78_79_I, f1rz78_79_A⟩ | ⟨g0rz78_79_0, g0rz78_79_1, f0rz78_79_I, f0rz78_79_A⟩⟩
                · try dsimp only at *
                  rw [show vI h5i75_77 v0 48 = 1 from (by rw [ih5i75_77 v0 48, if_neg (fun z => absurd z.2 (by decide)), fr2i75_76_I v0 48 (by omega), gr3i73_74_0])] at g1rz78_79_1
                  rw [show vI h5i75_77 v0 41 = ((vI h v0 41) + 1) from (by rw [ih5i75_77 v0 41, if_pos ⟨rfl, rfl⟩])] at g1rz78_79_2
                  exact absurd g1rz78_79_1 (by decide)
                · try dsimp only at *
                  rw [show vI h5i75_77 v0 48 = 1 from (by rw [ih5i75_77 v0 48, if_neg (fun z => absurd z.2 (by decide)), fr2i75_76_I v0 48 (by omega), gr3i73_74_0]), show vI h5i75_77 v0 41 = ((vI h v0 41) + 1) from (by rw [ih5i75_77 v0 41, if_pos ⟨rfl, rfl⟩])] at g0rz78_79_1
                  exact ⟨Thrz78_79, Or.inr ⟨g0rz78_79_0, (by show ¬ vI h v0 48 = 0 ∨ x_yt t n (v2 - v3) (vI h v0 41) = none; refine Or.inr ?_; rw [x_sbe wk (by assumption)]; exact x_yt0n (by first | assumption | exact x_nn47 (by assumption))), (fun a k na => by rw [f0rz78_79_I a k (fun z => na (z.elim (fun z => Or.inl z) (fun z => z.elim (fun z => Or.inr (Or.inl z)) (fun z => Or.inr (Or.inr (z)))))), ih5i75_77 a k, if_neg (fun z => na (Or.inr (Or.inr (z)))), fr2i75_76_I a k (by omega), fr3i73_74_I a k (fun z => na (z.elim (fun z => Or.inl z) (fun z => Or.inr (Or.inl z))))]), (fun a na => by rw [f0rz78_79_A a (fun z => na (z.elim (fun z => Or.inl z) (fun z => z.elim (fun z => Or.inr (Or.inl z)) (fun z => Or.inr (Or.inr (z)))))), ah5i75_77 a, fr2i75_76_A a (fun z => na (z.elim (fun z => Or.inl z) (fun z => Or.inr (Or.inl z)))), fr3i73_74_A a (by omega)])⟩⟩
              · skip
                refine qi_if (fun cc80 => absurd cc80 cc50) (fun _ => ?_)
                refine qi_if (fun cc81 => ?_) (fun cc81 => ?_)
                · skip
                  unfold f_Mod_exchange_244
                  refine l_gI (e := (vI h v0 41)) rfl ?_
                  refine l_gO ?_
                  refine j_Mod_wrong (v0 := v0) (v1 := (vI h v0 41)) T kv0 ?_
                  intro hr3i82_83 Thr3i82_83 gr3i82_83_0 fr3i82_83_I fr3i82_83_A
                  try dsimp only
                  unfold f_Mod_exchange_252
                  refine l_gO ?_
                  refine j_Mod_keep (v0 := v0) (v1 := (x_lk t n (vI h v0 41))) Thr3i82_83 kv0 ?_
                  intro hr2i84_85 Thr2i84_85 gr2i84_85_0 gr2i84_85_1 gr2i84_85_2 fr2i84_85_I fr2i84_85_A
                  try dsimp only
                  rw [show vI hr3i82_83 v0 42 = (vI h v0 42) from (by rw [fr3i82_83_I v0 42 (by omega)]), show vA hr3i82_83 (v0 + 22) = vA h (v0 + 22) from (by rw [fr3i82_83_A (v0 + 22) (by omega)])] at gr2i84_85_0
                  rw [show vI hr3i82_83 v0 42 = (vI h v0 42) from (by rw [fr3i82_83_I v0 42 (by omega)]), show vA hr3i82_83 (v0 + 22) = vA h (v0 + 22) from (by rw [fr3i82_83_A (v0 + 22) (by omega)]), show vA hr3i82_83 (v0 + 28) = vA h (v0 + 28) from (by rw [fr3i82_83_A (v0 + 28) (by omega)])] at gr2i84_85_1
                  rw [show vI hr3i82_83 v0 42 = (vI h v0 42) from (by rw [fr3i82_83_I v0 42 (by omega)]), show vA hr3i82_83 (v0 + 22) = vA h (v0 + 22) from (by rw [fr3i82_83_A (v0 + 22) (by omega)])] at gr2i84_85_2
                  refine qi_bs ?_
                  refine l_gI (e := (vI h v0 41)) (by rw [fr2i84_85_I v0 41 (by omega), fr3i82_83_I v0 41 (by omega)]) ?_
                  refine l_sI Thr2i84_85 (q_Mk kv0) (by decide) rfl ?_
                  intro h5i84_86 Th5i84_86 ih5i84_86 ah5i84_86
                  refine qi_mono (ih v0 v1 v2 (v3 + 1) h5i84_86 Th5i84_86 kv0 (by show ∀ j, 0 ≤ j → j < n → vA h5i84_86 (v0 + 1) j = t j; rw [show vA h5i84_86 (v0 + 1) = vA h (v0 + 1) from (by rw [ah5i84_86 (v0 + 1), fr2i84_85_A (v0 + 1) (by omega), fr3i82_83_A (v0 + 1) (by omega)])] <;> (first | assumption | with_reducible rfl | grind)) (by show vI h5i84_86 v0 3 = n; rw [show vI h5i84_86 v0 3 = (vI h v0 3) from (by rw [ih5i84_86 v0 3, if_neg (fun z => absurd z.2 (by decide)), fr2i84_85_I v0 3 (by omega), fr3i82_83_I v0 3 (by omega)])] <;> (first | assumption | with_reducible rfl | grind)) n1 tp (by show vI h5i84_86 v0 48 = 0 → 0 ≤ vI h5i84_86 v0 41; rw [show vI h5i84_86 v0 48 = 1 from (by rw [ih5i84_86 v0 48, if_neg (fun z => absurd z.2 (by decide)), fr2i84_85_I v0 48 (by omega), gr3i82_83_0]), show vI h5i84_86 v0 41 = ((vI h v0 41) + 1) from (by rw [ih5i84_86 v0 41, if_pos ⟨rfl, rfl⟩])] <;> (intro z9; exact absurd z9 (by decide))) (by show vI h5i84_86 v0 48 = 0 → 0 ≤ (v3 + 1) ∧ (v3 + 1) ≤ v2 ∧ v2 ≤ 1000; rw [show vI h5i84_86 v0 48 = 1 from (by rw [ih5i84_86 v0 48, if_neg (fun z => absurd z.2 (by decide)), fr2i84_85_I v0 48 (by omega), gr3i82_83_0])] <;> (intro z9; exact absurd z9 (by decide)))) ?_
                  rintro hrz87_88 ⟨Thrz87_88, ⟨g1rz87_88_0, g1rz87_88_1, g1rz87_88_2, f1rz87_88_I, f1rz87_88_A⟩ | ⟨g0rz87_88_0, g0rz87_88_1, f0rz87_88_I, f0rz87_88_A⟩⟩
                  · try dsimp only at *
                    rw [show vI h5i84_86 v0 48 = 1 from (by rw [ih5i84_86 v0 48, if_neg (fun z => absurd z.2 (by decide)), fr2i84_85_I v0 48 (by omega), gr3i82_83_0])] at g1rz87_88_1
                    rw [show vI h5i84_86 v0 41 = ((vI h v0 41) + 1) from (by rw [ih5i84_86 v0 41, if_pos ⟨rfl, rfl⟩])] at g1rz87_88_2
                    exact absurd g1rz87_88_1 (by decide)
                  · try dsimp only at *
                    rw [show vI h5i84_86 v0 48 = 1 from (by rw [ih5i84_86 v0 48, if_neg (fun z => absurd z.2 (by decide)), fr2i84_85_I v0 48 (by omega), gr3i82_83_0]), show vI h5i84_86 v0 41 = ((vI h v0 41) + 1) from (by rw [ih5i84_86 v0 41, if_pos ⟨rfl, rfl⟩])] at g0rz87_88_1
                    exact ⟨Thrz87_88, Or.inr ⟨g0rz87_88_0, (by show ¬ vI h v0 48 = 0 ∨ x_yt t n (v2 - v3) (vI h v0 41) = none; refine Or.inr ?_; rw [x_sbe wk (by assumption)]; exact x_yt0n (by first | assumption | exact x_nn47 (by assumption))), (fun a k na => by rw [f0rz87_88_I a k (fun z => na (z.elim (fun z => Or.inl z) (fun z => z.elim (fun z => Or.inr (Or.inl z)) (fun z => Or.inr (Or.inr (z)))))), ih5i84_86 a k, if_neg (fun z => na (Or.inr (Or.inr (z)))), fr2i84_85_I a k (by omega), fr3i82_83_I a k (fun z => na (z.elim (fun z => Or.inl z) (fun z => Or.inr (Or.inl z))))]), (fun a na => by rw [f0rz87_88_A a (fun z => na (z.elim (fun z => Or.inl z) (fun z => z.elim (fun z => Or.inr (Or.inl z)) (fun z => Or.inr (Or.inr (z)))))), ah5i84_86 a, fr2i84_85_A a (fun z => na (z.elim (fun z => Or.inl z) (fun z => Or.inr (Or.inl z)))), fr3i82_83_A a (by omega)])⟩⟩
                · skip
                  unfold f_Mod_exchange_252
                  refine l_gO ?_
                  refine j_Mod_keep (v0 := v0) (v1 := (x_lk t n (vI h v0 41))) T kv0 ?_
                  intro hr2i89_90 Thr2i89_90 gr2i89_90_0 gr2i89_90_1 gr2i89_90_2 fr2i89_90_I fr2i89_90_A
                  try dsimp only
                  refine qi_bs ?_
                  refine l_gI (e := (vI h v0 41)) (by rw [fr2i89_90_I v0 41 (by omega)]) ?_
                  refine l_sI Thr2i89_90 (q_Mk kv0) (by decide) rfl ?_
                  intro h5i89_91 Th5i89_91 ih5i89_91 ah5i89_91
                  refine qi_mono (ih v0 v1 v2 (v3 + 1) h5i89_91 Th5i89_91 kv0 (by show ∀ j, 0 ≤ j → j < n → vA h5i89_91 (v0 + 1) j = t j; rw [show vA h5i89_91 (v0 + 1) = vA h (v0 + 1) from (by rw [ah5i89_91 (v0 + 1), fr2i89_90_A (v0 + 1) (by omega)])] <;> (first | assumption | with_reducible rfl | grind)) (by show vI h5i89_91 v0 3 = n; rw [show vI h5i89_91 v0 3 = (vI h v0 3) from (by rw [ih5i89_91 v0 3, if_neg (fun z => absurd z.2 (by decide)), fr2i89_90_I v0 3 (by omega)])] <;> (first | assumption | with_reducible rfl | grind)) n1 tp (by show vI h5i89_91 v0 48 = 0 → 0 ≤ vI h5i89_91 v0 41; rw [show vI h5i89_91 v0 48 = (vI h v0 48) from (by rw [ih5i89_91 v0 48, if_neg (fun z => absurd z.2 (by decide)), fr2i89_90_I v0 48 (by omega)]), show vI h5i89_91 v0 41 = ((vI h v0 41) + 1) from (by rw [ih5i89_91 v0 41, if_pos ⟨rfl, rfl⟩])] <;> (intro z9; exact x_0le a0 (x_lp1 n2 (t := t) cc57))) (by show vI h5i89_91 v0 48 = 0 → 0 ≤ (v3 + 1) ∧ (v3 + 1) ≤ v2 ∧ v2 ≤ 1000; rw [show vI h5i89_91 v0 48 = (vI h v0 48) from (by rw [ih5i89_91 v0 48, if_neg (fun z => absurd z.2 (by decide)), fr2i89_90_I v0 48 (by omega)])] <;> (intro z9; exact x_wk2 wk (by assumption)))) ?_
                  rintro hrz92_93 ⟨Thrz92_93, ⟨g1rz92_93_0, g1rz92_93_1, g1rz92_93_2, f1rz92_93_I, f1rz92_93_A⟩ | ⟨g0rz92_93_0, g0rz92_93_1, f0rz92_93_I, f0rz92_93_A⟩⟩
                  · try dsimp only at *
                    rw [show vI h5i89_91 v0 48 = (vI h v0 48) from (by rw [ih5i89_91 v0 48, if_neg (fun z => absurd z.2 (by decide)), fr2i89_90_I v0 48 (by omega)])] at g1rz92_93_1
                    rw [show vI h5i89_91 v0 41 = ((vI h v0 41) + 1) from (by rw [ih5i89_91 v0 41, if_pos ⟨rfl, rfl⟩])] at g1rz92_93_2
                    exact ⟨Thrz92_93, Or.inl ⟨(by show vI hrz92_93 v0 48 = 0; rw [show vI hrz92_93 v0 48 = 0 from (by rw [g1rz92_93_0])] <;> (first | assumption | with_reducible rfl | grind)), (by show vI h v0 48 = 0; first | assumption | with_reducible rfl | grind), (by show x_yt t n (v2 - v3) (vI h v0 41) = some (vI hrz92_93 v0 41); rw [x_yts n2 (x_sb0 wk (x_ltn wk (by assumption) (by assumption))) cc57 cc50 cc64 cc72, x_sub1]; exact g1rz92_93_2), (fun a k na => by rw [f1rz92_93_I a k (fun z => na (z.elim (fun z => Or.inl z) (fun z => z.elim (fun z => Or.inr (Or.inl z)) (fun z => Or.inr (Or.inr (z)))))), ih5i89_91 a k, if_neg (fun z => na (Or.inr (Or.inr (z)))), fr2i89_90_I a k (by omega)]), (fun a na => by rw [f1rz92_93_A a (fun z => na (z.elim (fun z => Or.inl z) (fun z => z.elim (fun z => Or.inr (Or.inl z)) (fun z => Or.inr (Or.inr (z)))))), ah5i89_91 a, fr2i89_90_A a (fun z => na (z.elim (fun z => Or.inl z) (fun z => Or.inr (Or.inl z))))])⟩⟩
                  · try dsimp only at *
                    rw [show vI h5i89_91 v0 48 = (vI h v0 48) from (by rw [ih5i89_91 v0 48, if_neg (fun z => absurd z.2 (by decide)), fr2i89_90_I v0 48 (by omega)]), show vI h5i89_91 v0 41 = ((vI h v0 41) + 1) from (by rw [ih5i89_91 v0 41, if_pos ⟨rfl, rfl⟩])] at g0rz92_93_1
                    exact ⟨Thrz92_93, Or.inr ⟨g0rz92_93_0, (by show ¬ vI h v0 48 = 0 ∨ x_yt t n (v2 - v3) (vI h v0 41) = none; refine Or.inr ?_; rw [x_yts n2 (x_sb0 wk (x_ltn wk (by assumption) (by assumption))) cc57 cc50 cc64 cc72, x_sub1]; exact (g0rz92_93_1.resolve_left (fun z => z (by first | rfl | assumption)))), (fun a k na => by rw [f0rz92_93_I a k (fun z => na (z.elim (fun z => Or.inl z) (fun z => z.elim (fun z => Or.inr (Or.inl z)) (fun z => Or.inr (Or.inr (z)))))), ih5i89_91 a k, if_neg (fun z => na (Or.inr (Or.inr (z)))), fr2i89_90_I a k (by omega)]), (fun a na => by rw [f0rz92_93_A a (fun z => na (z.elim (fun z => Or.inl z) (fun z => z.elim (fun z => Or.inr (Or.inl z)) (fun z => Or.inr (Or.inr (z)))))), ah5i89_91 a, fr2i89_90_A a (fun z => na (z.elim (fun z => Or.inl z) (fun z => Or.inr (Or.inl z))))])⟩⟩
    · skip
      unfold f_Mod_exchange_274
      refine l_gI (e := (vI h v0 41)) rfl ?_
      refine l_sI T (q_Mk kv0) (by decide) rfl ?_
      intro h2i94_95 Th2i94_95 ih2i94_95 ah2i94_95
      refine l_gR Th2i94_95 (d_Mo_16 kv0) ?_
      refine l_gO ?_
      refine j_Mod_stored (v0 := v0) (e := (300 * (vI h v0 42) + vA h (v0 + 22) (vI h v0 42))) Th2i94_95 kv0 (by rw [show vI h2i94_95 v0 42 = (vI h v0 42) from (by rw [ih2i94_95 v0 42, if_neg (fun z => absurd z.2 (by decide))]), show vA h2i94_95 (v0 + 22) = vA h (v0 + 22) from (by rw [ah2i94_95 (v0 + 22)])]) ?_
      try dsimp only
      refine l_uI Th2i94_95 ?_
      intro h6i94_97 Th6i94_97 jh6i94_97 ih6i94_97 ah6i94_97 bh6i94_97
      refine qi_some ?_
      exact ⟨Th6i94_97, Or.inr ⟨(by show ¬ vI h6i94_97 v0 48 = 0; rw [show vI h6i94_97 v0 48 = (vI h v0 48) from (by rw [ih6i94_97 v0 48, ih2i94_95 v0 48, if_neg (fun z => absurd z.2 (by decide))])] <;> (first | assumption | decide)), (by show ¬ vI h v0 48 = 0 ∨ x_yt t n (v2 - v3) (vI h v0 41) = none; exact Or.inl cc1), (fun a k na => by rw [ih6i94_97 a k, ih2i94_95 a k, if_neg (fun z => na (Or.inr (Or.inr (z))))]), (fun a na => by rw [bh6i94_97 a (fun z => na (Or.inr (Or.inr (z)))), ah2i94_95 a])⟩⟩
theorem j_Mod_exchange_174 {L : q_L} {π : Nat → Nat → Option Nat} {N : Nat} {t : Int32 → Int32} {n : Int32} {m9 : Nat} {h : z_H} {v0 : Nat} {v1 : Int32} {v2 : Int32} {v3 : Int32} {β : Type} {f : z_H → Option β} {Q : β → Prop} (T : x_U L π h) (kv0 : q_M L π v0) (ht : ∀ j, 0 ≤ j → j < n → vA h (v0 + 1) j = t j) (hn : vI h v0 3 = n) (n1 : n ≤ 240) (tp : ∀ j, t j ≠ -1) (a0 : vI h v0 48 = 0 → 0 ≤ vI h v0 41) (wk : vI h v0 48 = 0 → 0 ≤ v3 ∧ v3 ≤ v2 ∧ v2 ≤ 1000) (H1 : ∀ h', x_U L π h' → (vI h' v0 48 = 0) → (vI h v0 48 = 0) → (x_yt t n (v2 - v3) (vI h v0 41) = some (vI h' v0 41)) → (∀ a k, ¬ ((a = v0 ∧ k = 5) ∨ (a = v0 ∧ k = 48) ∨ (a = v0 ∧ k = 41)) → vI h' a k = vI h a k) → (∀ a, ¬ (a = (v0 + 28) ∨ a = (v0 + 22) ∨ a = (v0 + 11)) → vA h' a = vA h a) → qi (f h') Q) (H0 : ∀ h', x_U L π h' → (¬ vI h' v0 48 = 0) → (¬ vI h v0 48 = 0 ∨ x_yt t n (v2 - v3) (vI h v0 41) = none) → (∀ a k, ¬ ((a = v0 ∧ k = 5) ∨ (a = v0 ∧ k = 48) ∨ (a = v0 ∧ k = 41)) → vI h' a k = vI h a k) → (∀ a, ¬ (a = (v0 + 28) ∨ a = (v0 + 22) ∨ a = (v0 + 11)) → vA h' a = vA h a) → qi (f h') Q) : qi (z_b (f_Mod_exchange_174 N m9 v0 v1 v2 v3 h) f) Q := by
  refine qi_b (i_Mod_exchange_174 m9 v0 v1 v2 v3 h  T kv0 ht hn n1 tp a0 wk) ?_
  rintro hz ⟨Tz, ⟨g0, g1, g2, g3, g4⟩ | ⟨g0, g1, g2, g3⟩⟩
  · exact H1 hz Tz g0 g1 g2 g3 g4
  · exact H0 hz Tz g0 g1 g2 g3

