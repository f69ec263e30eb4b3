set_option maxHeartbeats 8000000 in
theorem i_Mod_set_78 {L : q_L} {π : Nat → Nat → Option Nat} {N : Nat} {t : Int32 → Int32} {n : Int32} : ∀ (m9 : Nat) (v0 : Nat) (v2 : Int32) (v3 : Int32) (v4 : Int32) (h : z_H), x_U L π h → q_M L π v0 → (∀ j, 0 ≤ j → j < n → vA h (v0 + 1) j = t j) → (vI h v0 3 = n) → (n ≤ 240) → (∀ j, t j ≠ -1) → (vI h v0 48 = 0 → 0 ≤ vI h v0 41) → qi (f_Mod_set_78 N m9 v0 v2 v3 v4 h) (fun r => x_U L π r ∧ (((vI r v0 48 = 0) ∧ (vI h v0 48 = 0) ∧ ((if ¬ v4 = 0 ∧ x_lk t n (vI h v0 41) = 93 then some (vI h v0 41 + 1) else x_set t n (vI h v0 41)) = some (vI r v0 41)) ∧ (∀ a k, ¬ ((a = v0 ∧ k = 5) ∨ (a = v0 ∧ k = 48) ∨ (a = v0 ∧ k = 41)) → vI r a k = vI h a k) ∧ (∀ a, ¬ (a < a) → vA r a = vA h a)) ∨ ((¬ vI r v0 48 = 0) ∧ (¬ vI h v0 48 = 0 ∨ (if ¬ v4 = 0 ∧ x_lk t n (vI h v0 41) = 93 then some (vI h v0 41 + 1) else x_set t n (vI h v0 41)) = none) ∧ (∀ a k, ¬ ((a = v0 ∧ k = 5) ∨ (a = v0 ∧ k = 48) ∨ (a = v0 ∧ k = 41)) → vI r a k = vI h a k) ∧ (∀ a, ¬ (a < a) → vA r a = vA h a)))) := by
  intro m9
  induction m9 with
  | zero => intro v0 v2 v3 v4 h T kv0 ht hn n1 tp a0 r e; rw [f_Mod_set_78] at e; cases e
  | succ m9 ih =>
    intro v0 v2 v3 v4 h T kv0 ht hn n1 tp a0
    rw [f_Mod_set_78]
    have n2 : n ≤ 1000 := Int32.le_trans n1 (by decide)
    refine l_gI (e := (vI h v0 48)) rfl ?_
    refine qi_if (fun cc1 => ?_) (fun cc1 => ?_)
    · skip
      have a0 := a0 cc1
      refine qi_if (fun cc2 => ?_) (fun cc2 => ?_)
      · skip
        unfold f_Mod_set_99
        refine l_gO ?_
        refine j_Mod_isMember (v0 := v0) (t := t) (n := n) T kv0 ht hn ?_ ?_
        · intro hr2i3_4 Thr2i3_4 g1r2i3_4_0 g1r2i3_4_1 g1r2i3_4_2 g1r2i3_4_3 g1r2i3_4_4 f1r2i3_4_I f1r2i3_4_A
          try dsimp only
          refine qi_bs ?_
          refine qi_if (fun cc5 => absurd cc5 (by decide)) (fun _ => ?_)
          refine l_gO ?_
          refine j_Mod_here (v0 := v0) (t := t) (n := n) (e := (x_lk t n (vI h v0 41))) Thr2i3_4 kv0 (by show ∀ j, 0 ≤ j → j < n → vA hr2i3_4 (v0 + 1) j = t j; rw [show vA hr2i3_4 (v0 + 1) = vA h (v0 + 1) from (by rw [f1r2i3_4_A (v0 + 1) (by omega)])] <;> (first | assumption | with_reducible rfl | grind)) (by show vI hr2i3_4 v0 3 = n; rw [show vI hr2i3_4 v0 3 = (vI h v0 3) from (by rw [f1r2i3_4_I v0 3 (by omega)])] <;> (first | assumption | with_reducible rfl | grind)) (by rw [show vI hr2i3_4 v0 41 = (vI h v0 41) from (by rw [f1r2i3_4_I v0 41 (by omega)])]) ?_
          try dsimp only
          refine qi_bs ?_
          refine l_gI (e := (vI h v0 41)) (by rw [f1r2i3_4_I v0 41 (by omega)]) ?_
          refine l_sI Thr2i3_4 (q_Mk kv0) (by decide) rfl ?_
          intro h9i3_7 Th9i3_7 ih9i3_7 ah9i3_7
          refine l_gO ?_
          refine j_Mod_here (v0 := v0) (t := t) (n := n) (e := (x_lk t n ((vI h v0 41) + 1))) Th9i3_7 kv0 (by show ∀ j, 0 ≤ j → j < n → vA h9i3_7 (v0 + 1) j = t j; rw [show vA h9i3_7 (v0 + 1) = vA h (v0 + 1) from (by rw [ah9i3_7 (v0 + 1), f1r2i3_4_A (v0 + 1) (by omega)])] <;> (first | assumption | with_reducible rfl | grind)) (by show vI h9i3_7 v0 3 = n; rw [show vI h9i3_7 v0 3 = (vI h v0 3) from (by rw [ih9i3_7 v0 3, if_neg (fun z => absurd z.2 (by decide)), f1r2i3_4_I v0 3 (by omega)])] <;> (first | assumption | with_reducible rfl | grind)) (by rw [show vI h9i3_7 v0 41 = ((vI h v0 41) + 1) from (by rw [ih9i3_7 v0 41, if_pos ⟨rfl, rfl⟩])]) ?_
          try dsimp only
          refine qi_if (fun cc9 => ?_) (fun cc9 => ?_)
          · skip
            refine l_gO ?_
            refine j_Mod_behind (v0 := v0) (t := t) (n := n) (e := (x_lk t n ((vI h v0 41) + 2))) Th9i3_7 kv0 (by show ∀ j, 0 ≤ j → j < n → vA h9i3_7 (v0 + 1) j = t j; rw [show vA h9i3_7 (v0 + 1) = vA h (v0 + 1) from (by rw [ah9i3_7 (v0 + 1), f1r2i3_4_A (v0 + 1) (by omega)])] <;> (first | assumption | with_reducible rfl | grind)) (by show vI h9i3_7 v0 3 = n; rw [show vI h9i3_7 v0 3 = (vI h v0 3) from (by rw [ih9i3_7 v0 3, if_neg (fun z => absurd z.2 (by decide)), f1r2i3_4_I v0 3 (by omega)])] <;> (first | assumption | with_reducible rfl | grind)) (by rw [show vI h9i3_7 v0 41 = ((vI h v0 41) + 1) from (by rw [ih9i3_7 v0 41, if_pos ⟨rfl, rfl⟩])]; try simp only [Int32.add_zero, x_s11, x_s12, x_s21, x_s13, x_s22, x_s31]) ?_
            try dsimp only
            refine qi_if (fun cc11 => ?_) (fun cc11 => ?_)
            · skip
              unfold f_Mod_set_202
              refine l_gO ?_
              refine j_Mod_put (v0 := v0) (v1 := v2) (v2 := (x_lk t n (vI h v0 41))) (v3 := (x_lk t n (vI h v0 41))) Th9i3_7 kv0 ?_
              intro hr2i12_13 Thr2i12_13 fr2i12_13_I fr2i12_13_A
              try dsimp only
              refine qi_mono (ih v0 v2 v3 (1 : Int32) hr2i12_13 Thr2i12_13 kv0 (by show ∀ j, 0 ≤ j → j < n → vA hr2i12_13 (v0 + 1) j = t j; rw [show vA hr2i12_13 (v0 + 1) = vA h (v0 + 1) from (by rw [fr2i12_13_A (v0 + 1) (by omega), ah9i3_7 (v0 + 1), f1r2i3_4_A (v0 + 1) (by omega)])] <;> (first | assumption | with_reducible rfl | grind)) (by show vI hr2i12_13 v0 3 = n; rw [show vI hr2i12_13 v0 3 = (vI h v0 3) from (by rw [fr2i12_13_I v0 3 (by omega), ih9i3_7 v0 3, if_neg (fun z => absurd z.2 (by decide)), f1r2i3_4_I v0 3 (by omega)])] <;> (first | assumption | with_reducible rfl | grind)) n1 tp (by show vI hr2i12_13 v0 48 = 0 → 0 ≤ vI hr2i12_13 v0 41; rw [show vI hr2i12_13 v0 48 = (vI h v0 48) from (by rw [fr2i12_13_I v0 48 (by omega), ih9i3_7 v0 48, if_neg (fun z => absurd z.2 (by decide)), g1r2i3_4_0]), show vI hr2i12_13 v0 41 = ((vI h v0 41) + 1) from (by rw [fr2i12_13_I v0 41 (by omega), ih9i3_7 v0 41, if_pos ⟨rfl, rfl⟩])] <;> (intro z9; exact x_0le a0 (x_lp1 n2 (t := t) (by assumption))))) ?_
              rintro hrz14_15 ⟨Thrz14_15, ⟨g1rz14_15_0, g1rz14_15_1, g1rz14_15_2, f1rz14_15_I, f1rz14_15_A⟩ | ⟨g0rz14_15_0, g0rz14_15_1, f0rz14_15_I, f0rz14_15_A⟩⟩
              · try dsimp only at *
                rw [show vI hr2i12_13 v0 48 = (vI h v0 48) from (by rw [fr2i12_13_I v0 48 (by omega), ih9i3_7 v0 48, if_neg (fun z => absurd z.2 (by decide)), g1r2i3_4_0])] at g1rz14_15_1
                rw [show vI hr2i12_13 v0 41 = ((vI h v0 41) + 1) from (by rw [fr2i12_13_I v0 41 (by omega), ih9i3_7 v0 41, if_pos ⟨rfl, rfl⟩])] at g1rz14_15_2
                try simp only [Int32.add_zero, x_s11, x_s12, x_s21, x_s13, x_s22, x_s31] at g1rz14_15_2
                exact ⟨Thrz14_15, Or.inl ⟨(by show vI hrz14_15 v0 48 = 0; rw [show vI hrz14_15 v0 48 = 0 from (by rw [g1rz14_15_0])] <;> (first | assumption | with_reducible rfl | grind)), (by show vI h v0 48 = 0; first | assumption | with_reducible rfl | grind), (by show (if ¬ v4 = 0 ∧ x_lk t n (vI h v0 41) = 93 then some (vI h v0 41 + 1) else x_set t n (vI h v0 41)) = some (vI hrz14_15 v0 41); rw [if_neg (fun z => z.1 cc2), x_se1 n2 g1r2i3_4_1 g1r2i3_4_2 g1r2i3_4_3 g1r2i3_4_4 (by (first | grind (ematch := 0) | grind))]; simpa using g1rz14_15_2), (fun a k na => by rw [f1rz14_15_I a k (fun z => na (z.elim (fun z => Or.inl z) (fun z => z.elim (fun z => Or.inr (Or.inl z)) (fun z => Or.inr (Or.inr (z)))))), fr2i12_13_I a k (by omega), ih9i3_7 a k, if_neg (fun z => na (Or.inr (Or.inr (z)))), f1r2i3_4_I a k (fun z => na (z.elim (fun z => Or.inl z) (fun z => Or.inr (Or.inl z))))]), (fun a na => by rw [f1rz14_15_A a (by omega), fr2i12_13_A a (by omega), ah9i3_7 a, f1r2i3_4_A a (by omega)])⟩⟩
              · try dsimp only at *
                rw [show vI hr2i12_13 v0 48 = (vI h v0 48) from (by rw [fr2i12_13_I v0 48 (by omega), ih9i3_7 v0 48, if_neg (fun z => absurd z.2 (by decide)), g1r2i3_4_0]), show vI hr2i12_13 v0 41 = ((vI h v0 41) + 1) from (by rw [fr2i12_13_I v0 41 (by omega), ih9i3_7 v0 41, if_pos ⟨rfl, rfl⟩])] at g0rz14_15_1
                try simp only [Int32.add_zero, x_s11, x_s12, x_s21, x_s13, x_s22, x_s31] at g0rz14_15_1
                exact ⟨Thrz14_15, Or.inr ⟨g0rz14_15_0, (by show ¬ vI h v0 48 = 0 ∨ (if ¬ v4 = 0 ∧ x_lk t n (vI h v0 41) = 93 then some (vI h v0 41 + 1) else x_set t n (vI h v0 41)) = none; refine Or.inr ?_; rw [if_neg (fun z => z.1 cc2), x_se1 n2 g1r2i3_4_1 g1r2i3_4_2 g1r2i3_4_3 g1r2i3_4_4 (by (first | grind (ematch := 0) | grind))]; simpa using (g0rz14_15_1.resolve_left (fun z => z (by first | rfl | assumption)))), (fun a k na => by rw [f0rz14_15_I a k (fun z => na (z.elim (fun z => Or.inl z) (fun z => z.elim (fun z => Or.inr (Or.inl z)) (fun z => Or.inr (Or.inr (z)))))), fr2i12_13_I a k (by omega), ih9i3_7 a k, if_neg (fun z => na (Or.inr (Or.inr (z)))), f1r2i3_4_I a k (fun z => na (z.elim (fun z => Or.inl z) (fun z => Or.inr (Or.inl z))))]), (fun a na => by rw [f0rz14_15_A a (by omega), fr2i12_13_A a (by omega), ah9i3_7 a, f1r2i3_4_A a (by omega)])⟩⟩
            · skip
              refine l_gI (e := ((vI h v0 41) + 1)) (by rw [ih9i3_7 v0 41, if_pos ⟨rfl, rfl⟩]) ?_
              refine l_sI Th9i3_7 (q_Mk kv0) (by decide) rfl ?_
              intro h17i3_16 Th17i3_16 ih17i3_16 ah17i3_16
              refine l_gO ?_
              refine j_Mod_isMember (v0 := v0) (t := t) (n := n) Th17i3_16 kv0 (by show ∀ j, 0 ≤ j → j < n → vA h17i3_16 (v0 + 1) j = t j; rw [show vA h17i3_16 (v0 + 1) = vA h (v0 + 1) from (by rw [ah17i3_16 (v0 + 1), ah9i3_7 (v0 + 1), f1r2i3_4_A (v0 + 1) (by omega)])] <;> (first | assumption | with_reducible rfl | grind)) (by show vI h17i3_16 v0 3 = n; rw [show vI h17i3_16 v0 3 = (vI h v0 3) from (by rw [ih17i3_16 v0 3, if_neg (fun z => absurd z.2 (by decide)), ih9i3_7 v0 3, if_neg (fun z => absurd z.2 (by decide)), f1r2i3_4_I v0 3 (by omega)])] <;> (first | assumption | with_reducible rfl | grind)) ?_ ?_
              · intro hr19i3_17 Thr19i3_17 g1r19i3_17_0 g1r19i3_17_1 g1r19i3_17_2 g1r19i3_17_3 g1r19i3_17_4 f1r19i3_17_I f1r19i3_17_A
                try dsimp only
                rw [show vI h17i3_16 v0 48 = (vI h v0 48) from (by rw [ih17i3_16 v0 48, if_neg (fun z => absurd z.2 (by decide)), ih9i3_7 v0 48, if_neg (fun z => absurd z.2 (by decide)), g1r2i3_4_0])] at g1r19i3_17_0
                rw [show vI h17i3_16 v0 41 = (((vI h v0 41) + 1) + 1) from (by rw [ih17i3_16 v0 41, if_pos ⟨rfl, rfl⟩])] at g1r19i3_17_1
                try simp only [Int32.add_zero, x_s11, x_s12, x_s21, x_s13, x_s22, x_s31] at g1r19i3_17_1
                rw [show vI h17i3_16 v0 41 = (((vI h v0 41) + 1) + 1) from (by rw [ih17i3_16 v0 41, if_pos ⟨rfl, rfl⟩])] at g1r19i3_17_2
                try simp only [Int32.add_zero, x_s11, x_s12, x_s21, x_s13, x_s22, x_s31] at g1r19i3_17_2
                rw [show vI h17i3_16 v0 41 = (((vI h v0 41) + 1) + 1) from (by rw [ih17i3_16 v0 41, if_pos ⟨rfl, rfl⟩])] at g1r19i3_17_3
                try simp only [Int32.add_zero, x_s11, x_s12, x_s21, x_s13, x_s22, x_s31] at g1r19i3_17_3
                rw [show vI h17i3_16 v0 41 = (((vI h v0 41) + 1) + 1) from (by rw [ih17i3_16 v0 41, if_pos ⟨rfl, rfl⟩])] at g1r19i3_17_4
                try simp only [Int32.add_zero, x_s11, x_s12, x_s21, x_s13, x_s22, x_s31] at g1r19i3_17_4
                refine qi_bs ?_
                refine qi_if (fun cc18 => absurd cc18 (by decide)) (fun _ => ?_)
                refine l_gO ?_
                refine j_Mod_here (v0 := v0) (t := t) (n := n) (e := (x_lk t n ((vI h v0 41) + 2))) Thr19i3_17 kv0 (by show ∀ j, 0 ≤ j → j < n → vA hr19i3_17 (v0 + 1) j = t j; rw [show vA hr19i3_17 (v0 + 1) = vA h (v0 + 1) from (by rw [f1r19i3_17_A (v0 + 1) (by omega), ah17i3_16 (v0 + 1), ah9i3_7 (v0 + 1), f1r2i3_4_A (v0 + 1) (by omega)])] <;> (first | assumption | with_reducible rfl | grind)) (by show vI hr19i3_17 v0 3 = n; rw [show vI hr19i3_17 v0 3 = (vI h v0 3) from (by rw [f1r19i3_17_I v0 3 (by omega), ih17i3_16 v0 3, if_neg (fun z => absurd z.2 (by decide)), ih9i3_7 v0 3, if_neg (fun z => absurd z.2 (by decide)), f1r2i3_4_I v0 3 (by omega)])] <;> (first | assumption | with_reducible rfl | grind)) (by rw [show vI hr19i3_17 v0 41 = (((vI h v0 41) + 1) + 1) from (by rw [f1r19i3_17_I v0 41 (by omega), ih17i3_16 v0 41, if_pos ⟨rfl, rfl⟩])]; try simp only [Int32.add_zero, x_s11, x_s12, x_s21, x_s13, x_s22, x_s31]) ?_
                try dsimp only
                refine qi_bs ?_
                refine qi_if (fun cc20 => ?_) (fun cc20 => ?_)
                · skip
                  unfold f_Mod_set_192
                  refine l_gI (e := (((vI h v0 41) + 1) + 1)) (by rw [f1r19i3_17_I v0 41 (by omega), ih17i3_16 v0 41, if_pos ⟨rfl, rfl⟩]) ?_
                  refine l_sI Thr19i3_17 (q_Mk kv0) (by decide) rfl ?_
                  intro h2i21_22 Th2i21_22 ih2i21_22 ah2i21_22
                  unfold f_Mod_set_202
                  refine l_gO ?_
                  refine j_Mod_put (v0 := v0) (v1 := v2) (v2 := (x_lk t n (vI h v0 41))) (v3 := (x_lk t n ((vI h v0 41) + 2))) Th2i21_22 kv0 ?_
                  intro hr2i23_24 Thr2i23_24 fr2i23_24_I fr2i23_24_A
                  try dsimp only
                  refine qi_mono (ih v0 v2 v3 (1 : Int32) hr2i23_24 Thr2i23_24 kv0 (by show ∀ j, 0 ≤ j → j < n → vA hr2i23_24 (v0 + 1) j = t j; rw [show vA hr2i23_24 (v0 + 1) = vA h (v0 + 1) from (by rw [fr2i23_24_A (v0 + 1) (by omega), ah2i21_22 (v0 + 1), f1r19i3_17_A (v0 + 1) (by omega), ah17i3_16 (v0 + 1), ah9i3_7 (v0 + 1), f1r2i3_4_A (v0 + 1) (by omega)])] <;> (first | assumption | with_reducible rfl | grind)) (by show vI hr2i23_24 v0 3 = n; rw [show vI hr2i23_24 v0 3 = (vI h v0 3) from (by rw [fr2i23_24_I v0 3 (by omega), ih2i21_22 v0 3, if_neg (fun z => absurd z.2 (by decide)), f1r19i3_17_I v0 3 (by omega), ih17i3_16 v0 3, if_neg (fun z => absurd z.2 (by decide)), ih9i3_7 v0 3, if_neg (fun z => absurd z.2 (by decide)), f1r2i3_4_I v0 3 (by omega)])] <;> (first | assumption | with_reducible rfl | grind)) n1 tp (by show vI hr2i23_24 v0 48 = 0 → 0 ≤ vI hr2i23_24 v0 41; rw [show vI hr2i23_24 v0 48 = (vI h v0 48) from (by rw [fr2i23_24_I v0 48 (by omega), ih2i21_22 v0 48, if_neg (fun z => absurd z.2 (by decide)), g1r19i3_17_0]), show vI hr2i23_24 v0 41 = ((((vI h v0 41) + 1) + 1) + 1) from (by rw [fr2i23_24_I v0 41 (by omega), ih2i21_22 v0 41, if_pos ⟨rfl, rfl⟩])] <;> ((try simp only [Int32.add_zero, x_s11, x_s12, x_s21, x_s13, x_s22, x_s31]) <;> (intro z9; exact x_0le a0 (x_lp3 n2 (t := t) (by assumption)))))) ?_
                  rintro hrz25_26 ⟨Thrz25_26, ⟨g1rz25_26_0, g1rz25_26_1, g1rz25_26_2, f1rz25_26_I, f1rz25_26_A⟩ | ⟨g0rz25_26_0, g0rz25_26_1, f0rz25_26_I, f0rz25_26_A⟩⟩
                  · try dsimp only at *
                    rw [show vI hr2i23_24 v0 48 = (vI h v0 48) from (by rw [fr2i23_24_I v0 48 (by omega), ih2i21_22 v0 48, if_neg (fun z => absurd z.2 (by decide)), g1r19i3_17_0])] at g1rz25_26_1
                    rw [show vI hr2i23_24 v0 41 = ((((vI h v0 41) + 1) + 1) + 1) from (by rw [fr2i23_24_I v0 41 (by omega), ih2i21_22 v0 41, if_pos ⟨rfl, rfl⟩])] at g1rz25_26_2
                    try simp only [Int32.add_zero, x_s11, x_s12, x_s21, x_s13, x_s22, x_s31] at g1rz25_26_2
                    exact ⟨Thrz25_26, Or.inl ⟨(by show vI hrz25_26 v0 48 = 0; rw [show vI hrz25_26 v0 48 = 0 from (by rw [g1rz25_26_0])] <;> (first | assumption | with_reducible rfl | grind)), (by show vI h v0 48 = 0; first | assumption | with_reducible rfl | grind), (by show (if ¬ v4 = 0 ∧ x_lk t n (vI h v0 41) = 93 then some (vI h v0 41 + 1) else x_set t n (vI h v0 41)) = some (vI hrz25_26 v0 41); rw [if_neg (fun z => z.1 cc2), x_se2 n2 g1r2i3_4_1 g1r2i3_4_2 g1r2i3_4_3 g1r2i3_4_4 cc9 g1r19i3_17_4, if_neg (by (first | grind (ematch := 0) | grind))]; simpa using g1rz25_26_2), (fun a k na => by rw [f1rz25_26_I a k (fun z => na (z.elim (fun z => Or.inl z) (fun z => z.elim (fun z => Or.inr (Or.inl z)) (fun z => Or.inr (Or.inr (z)))))), fr2i23_24_I a k (by omega), ih2i21_22 a k, if_neg (fun z => na (Or.inr (Or.inr (z)))), f1r19i3_17_I a k (fun z => na (z.elim (fun z => Or.inl z) (fun z => Or.inr (Or.inl z)))), ih17i3_16 a k, if_neg (fun z => na (Or.inr (Or.inr (z)))), ih9i3_7 a k, if_neg (fun z => na (Or.inr (Or.inr (z)))), f1r2i3_4_I a k (fun z => na (z.elim (fun z => Or.inl z) (fun z => Or.inr (Or.inl z))))]), (fun a na => by rw [f1rz25_26_A a (by omega), fr2i23_24_A a (by omega), ah2i21_22 a, f1r19i3_17_A a (by omega), ah17i3_16 a, ah9i3_7 a, f1r2i3_4_A a (by omega)])⟩⟩
                  · try dsimp only at *
                    rw [show vI hr2i23_24 v0 48 = (vI h v0 48) from (by rw [fr2i23_24_I v0 48 (by omega), ih2i21_22 v0 48, if_neg (fun z => absurd z.2 (by decide)), g1r19i3_17_0]), show vI hr2i23_24 v0 41 = ((((vI h v0 41) + 1) + 1) + 1) from (by rw [fr2i23_24_I v0 41 (by omega), ih2i21_22 v0 41, if_pos ⟨rfl, rfl⟩])] at g0rz25_26_1
                    try simp only [Int32.add_zero, x_s11, x_s12, x_s21, x_s13, x_s22, x_s31] at g0rz25_26_1
                    exact ⟨Thrz25_26, Or.inr ⟨g0rz25_26_0, (by show ¬ vI h v0 48 = 0 ∨ (if ¬ v4 = 0 ∧ x_lk t n (vI h v0 41) = 93 then some (vI h v0 41 + 1) else x_set t n (vI h v0 41)) = none; refine Or.inr ?_; rw [if_neg (fun z => z.1 cc2), x_se2 n2 g1r2i3_4_1 g1r2i3_4_2 g1r2i3_4_3 g1r2i3_4_4 cc9 g1r19i3_17_4, if_neg (by (first | grind (ematch := 0) | grind))]; simpa using (g0rz25_26_1.resolve_left (fun z => z (by first | rfl | assumption)))), (fun a k na => by rw [f0rz25_26_I a k (fun z => na (z.elim (fun z => Or.inl z) (fun z => z.elim (fun z => Or.inr (Or.inl z)) (fun z => Or.inr (Or.inr (z)))))), fr2i23_24_I a k (by omega), ih2i21_22 a k, if_neg (fun z => na (Or.inr (Or.inr (z)))), f1r19i3_17_I a k (fun z => na (z.elim (fun z => Or.inl z) (fun z => Or.inr (Or.inl z)))), ih17i3_16 a k, if_neg (fun z => na (Or.inr (Or.inr (z)))), ih9i3_7 a k, if_neg (fun z => na (Or.inr (Or.inr (z)))), f1r2i3_4_I a k (fun z => na (z.elim (fun z => Or.inl z) (fun z => Or.inr (Or.inl z))))]), (fun a na => by rw [f0rz25_26_A a (by omega), fr2i23_24_A a (by omega), ah2i21_22 a, f1r19i3_17_A a (by omega), ah17i3_16 a, ah9i3_7 a, f1r2i3_4_A a (by omega)])⟩⟩
                · skip
                  refine l_gI (e := (((vI h v0 41) + 1) + 1)) (by rw [f1r19i3_17_I v0 41 (by omega), ih17i3_16 v0 41, if_pos ⟨rfl, rfl⟩]) ?_
                  refine l_gO ?_
                  refine j_Mod_wrong (v0 := v0) (v1 := (((vI h v0 41) + 1) + 1)) Thr19i3_17 kv0 ?_
                  intro hr28i3_27 Thr28i3_27 gr28i3_27_0 fr28i3_27_I fr28i3_27_A
                  try dsimp only
                  unfold f_Mod_set_192
                  refine l_gI (e := (((vI h v0 41) + 1) + 1)) (by rw [fr28i3_27_I v0 41 (by omega), f1r19i3_17_I v0 41 (by omega), ih17i3_16 v0 41, if_pos ⟨rfl, rfl⟩]) ?_
                  refine l_sI Thr28i3_27 (q_Mk kv0) (by decide) rfl ?_
                  intro h2i28_29 Th2i28_29 ih2i28_29 ah2i28_29
                  unfold f_Mod_set_202
                  refine l_gO ?_
                  refine j_Mod_put (v0 := v0) (v1 := v2) (v2 := (x_lk t n (vI h v0 41))) (v3 := (x_lk t n ((vI h v0 41) + 2))) Th2i28_29 kv0 ?_
                  intro hr2i30_31 Thr2i30_31 fr2i30_31_I fr2i30_31_A
                  try dsimp only
                  refine qi_mono (ih v0 v2 v3 (1 : Int32) hr2i30_31 Thr2i30_31 kv0 (by show ∀ j, 0 ≤ j → j < n → vA hr2i30_31 (v0 + 1) j = t j; rw [show vA hr2i30_31 (v0 + 1) = vA h (v0 + 1) from (by rw [fr2i30_31_A (v0 + 1) (by omega), ah2i28_29 (v0 + 1), fr28i3_27_A (v0 + 1) (by omega), f1r19i3_17_A (v0 + 1) (by omega), ah17i3_16 (v0 + 1), ah9i3_7 (v0 + 1), f1r2i3_4_A (v0 + 1) (by omega)])] <;> (first | assumption | with_reducible rfl | grind)) (by show vI hr2i30_31 v0 3 = n; rw [show vI hr2i30_31 v0 3 = (vI h v0 3) from (by rw [fr2i30_31_I v0 3 (by omega), ih2i28_29 v0 3, if_neg (fun z => absurd z.2 (by decide)), fr28i3_27_I v0 3 (by omega), f1r19i3_17_I v0 3 (by omega), ih17i3_16 v0 3, if_neg (fun z => absurd z.2 (by decide)), ih9i3_7 v0 3, if_neg (fun z => absurd z.2 (by decide)), f1r2i3_4_I v0 3 (by omega)])] <;> (first | assumption | with_reducible rfl | grind)) n1 tp (by show vI hr2i30_31 v0 48 = 0 → 0 ≤ vI hr2i30_31 v0 41; rw [show vI hr2i30_31 v0 48 = 1 from (by rw [fr2i30_31_I v0 48 (by omega), ih2i28_29 v0 48, if_neg (fun z => absurd z.2 (by decide)), gr28i3_27_0]), show vI hr2i30_31 v0 41 = ((((vI h v0 41) + 1) + 1) + 1) from (by rw [fr2i30_31_I v0 41 (by omega), ih2i28_29 v0 41, if_pos ⟨rfl, rfl⟩])] <;> ((try simp only [Int32.add_zero, x_s11, x_s12, x_s21, x_s13, x_s22, x_s31]) <;> (intro z9; exact x_0le a0 (x_lp3 n2 (t := t) (by assumption)))))) ?_
                  rintro hrz32_33 ⟨Thrz32_33, ⟨g1rz32_33_0, g1rz32_33_1, g1rz32_33_2, f1rz32_33_I, f1rz32_33_A⟩ | ⟨g0rz32_33_0, g0rz32_33_1, f0rz32_33_I, f0rz32_33_A⟩⟩
                  · try dsimp only at *
                    rw [show vI hr2i30_31 v0 48 = 1 from (by rw [fr2i30_31_I v0 48 (by omega), ih2i28_29 v0 48, if_neg (fun z => absurd z.2 (by decide)), gr28i3_27_0])] at g1rz32_33_1
                    rw [show vI hr2i30_31 v0 41 = ((((vI h v0 41) + 1) + 1) + 1) from (by rw [fr2i30_31_I v0 41 (by omega), ih2i28_29 v0 41, if_pos ⟨rfl, rfl⟩])] at g1rz32_33_2
                    try simp only [Int32.add_zero, x_s11, x_s12, x_s21, x_s13, x_s22, x_s31] at g1rz32_33_2
                    exact absurd g1rz32_33_1 (by decide)
                  · try dsimp only at *
                    rw [show vI hr2i30_31 v0 48 = 1 from (by rw [fr2i30_31_I v0 48 (by omega), ih2i28_29 v0 48, if_neg (fun z => absurd z.2 (by decide)), gr28i3_27_0]), show vI hr2i30_31 v0 41 = ((((vI h v0 41) + 1) + 1) + 1) from (by rw [fr2i30_31_I v0 41 (by omega), ih2i28_29 v0 41, if_pos ⟨rfl, rfl⟩])] at g0rz32_33_1
                    try simp only [Int32.add_zero, x_s11, x_s12, x_s21, x_s13, x_s22, x_s31] at g0rz32_33_1
                    exact ⟨Thrz32_33, Or.inr ⟨g0rz32_33_0, (by show ¬ vI h v0 48 = 0 ∨ (if ¬ v4 = 0 ∧ x_lk t n (vI h v0 41) = 93 then some (vI h v0 41 + 1) else x_set t n (vI h v0 41)) = none; refine Or.inr ?_; rw [if_neg (fun z => z.1 cc2), x_se2 n2 g1r2i3_4_1 g1r2i3_4_2 g1r2i3_4_3 g1r2i3_4_4 cc9 g1r19i3_17_4, if_pos (by (first | grind (ematch := 0) | grind))]), (fun a k na => by rw [f0rz32_33_I a k (fun z => na (z.elim (fun z => Or.inl z) (fun z => z.elim (fun z => Or.inr (Or.inl z)) (fun z => Or.inr (Or.inr (z)))))), fr2i30_31_I a k (by omega), ih2i28_29 a k, if_neg (fun z => na (Or.inr (Or.inr (z)))), fr28i3_27_I a k (fun z => na (z.elim (fun z => Or.inl z) (fun z => Or.inr (Or.inl z)))), f1r19i3_17_I a k (fun z => na (z.elim (fun z => Or.inl z) (fun z => Or.inr (Or.inl z)))), ih17i3_16 a k, if_neg (fun z => na (Or.inr (Or.inr (z)))), ih9i3_7 a k, if_neg (fun z => na (Or.inr (Or.inr (z)))), f1r2i3_4_I a k (fun z => na (z.elim (fun z => Or.inl z) (fun z => Or.inr (Or.inl z))))]), (fun a na => by rw [f0rz32_33_A a (by omega), fr2i30_31_A a (by omega), ah2i28_29 a, fr28i3_27_A a (by omega), f1r19i3_17_A a (by omega), ah17i3_16 a, ah9i3_7 a, f1r2i3_4_A a (by omega)])⟩⟩
              · intro hr19i3_17 Thr19i3_17 g0r19i3_17_0 g0r19i3_17_1 f0r19i3_17_I f0r19i3_17_A
                try dsimp only
                rw [show vI h17i3_16 v0 41 = (((vI h v0 41) + 1) + 1) from (by rw [ih17i3_16 v0 41, if_pos ⟨rfl, rfl⟩])] at g0r19i3_17_1
                try simp only [Int32.add_zero, x_s11, x_s12, x_s21, x_s13, x_s22, x_s31] at g0r19i3_17_1
                refine qi_bs ?_
                refine qi_if (fun _ => ?_) (fun cc34 => absurd (by decide) cc34)
                refine qi_some ?_
                exact ⟨Thr19i3_17, Or.inr ⟨(by show ¬ vI hr19i3_17 v0 48 = 0; rw [show vI hr19i3_17 v0 48 = 1 from (by rw [g0r19i3_17_0])] <;> (first | assumption | decide)), (by show ¬ vI h v0 48 = 0 ∨ (if ¬ v4 = 0 ∧ x_lk t n (vI h v0 41) = 93 then some (vI h v0 41 + 1) else x_set t n (vI h v0 41)) = none; refine Or.inr ?_; rw [if_neg (fun z => z.1 cc2), x_se2 n2 g1r2i3_4_1 g1r2i3_4_2 g1r2i3_4_3 g1r2i3_4_4 cc9 cc11, if_pos (by (first | grind (ematch := 0) | grind))]), (fun a k na => by rw [f0r19i3_17_I a k (fun z => na (z.elim (fun z => Or.inl z) (fun z => Or.inr (Or.inl z)))), ih17i3_16 a k, if_neg (fun z => na (Or.inr (Or.inr (z)))), ih9i3_7 a k, if_neg (fun z => na (Or.inr (Or.inr (z)))), f1r2i3_4_I a k (fun z => na (z.elim (fun z => Or.inl z) (fun z => Or.inr (Or.inl z))))]), (fun a na => by rw [f0r19i3_17_A a (by omega), ah17i3_16 a, ah9i3_7 a, f1r2i3_4_A a (by omega)])⟩⟩
          · skip
            unfold f_Mod_set_202
            refine l_gO ?_
            refine j_Mod_put (v0 := v0) (v1 := v2) (v2 := (x_lk t n (vI h v0 41))) (v3 := (x_lk t n (vI h v0 41))) Th9i3_7 kv0 ?_
            intro hr2i35_36 Thr2i35_36 fr2i35_36_I fr2i35_36_A
            try dsimp only
            refine qi_mono (ih v0 v2 v3 (1 : Int32) hr2i35_36 Thr2i35_36 kv0 (by show ∀ j, 0 ≤ j → j < n → vA hr2i35_36 (v0 + 1) j = t j; rw [show vA hr2i35_36 (v0 + 1) = vA h (v0 + 1) from (by rw [fr2i35_36_A (v0 + 1) (by omega), ah9i3_7 (v0 + 1), f1r2i3_4_A (v0 + 1) (by omega)])] <;> (first | assumption | with_reducible rfl | grind)) (by show vI hr2i35_36 v0 3 = n; rw [show vI hr2i35_36 v0 3 = (vI h v0 3) from (by rw [fr2i35_36_I v0 3 (by omega), ih9i3_7 v0 3, if_neg (fun z => absurd z.2 (by decide)), f1r2i3_4_I v0 3 (by omega)])] <;> (first | assumption | with_reducible rfl | grind)) n1 tp (by show vI hr2i35_36 v0 48 = 0 → 0 ≤ vI hr2i35_36 v0 41; rw [show vI hr2i35_36 v0 48 = (vI h v0 48) from (by rw [fr2i35_36_I v0 48 (by omega), ih9i3_7 v0 48, if_neg (fun z => absurd z.2 (by decide)), g1r2i3_4_0]), show vI hr2i35_36 v0 41 = ((vI h v0 41) + 1) from (by rw [fr2i35_36_I v0 41 (by omega), ih9i3_7 v0 41, if_pos ⟨rfl, rfl⟩])] <;> (intro z9; exact x_0le a0 (x_lp1 n2 (t := t) (by assumption))))) ?_
            rintro hrz37_38 ⟨Thrz37_38, ⟨g1rz37_38_0, g1rz37_38_1, g1rz37_38_2, f1rz37_38_I, f1rz37_38_A⟩ | ⟨g0rz37_38_0, g0rz37_38_1, f0rz37_38_I, f0rz37_38_A⟩⟩
            · try dsimp only at *
              rw [show vI hr2i35_36 v0 48 = (vI h v0 48) from (by rw [fr2i35_36_I v0 48 (by omega), ih9i3_7 v0 48, if_neg (fun z => absurd z.2 (by decide)), g1r2i3_4_0])] at g1rz37_38_1
              rw [show vI hr2i35_36 v0 41 = ((vI h v0 41) + 1) from (by rw [fr2i35_36_I v0 41 (by omega), ih9i3_7 v0 41, if_pos ⟨rfl, rfl⟩])] at g1rz37_38_2
              try simp only [Int32.add_zero, x_s11, x_s12, x_s21, x_s13, x_s22, x_s31] at g1rz37_38_2
              exact ⟨Thrz37_38, Or.inl ⟨(by show vI hrz37_38 v0 48 = 0; rw [show vI hrz37_38 v0 48 = 0 from (by rw [g1rz37_38_0])] <;> (first | assumption | with_reducible rfl | grind)), (by show vI h v0 48 = 0; first | assumption | with_reducible rfl | grind), (by show (if ¬ v4 = 0 ∧ x_lk t n (vI h v0 41) = 93 then some (vI h v0 41 + 1) else x_set t n (vI h v0 41)) = some (vI hrz37_38 v0 41); rw [if_neg (fun z => z.1 cc2), x_se1 n2 g1r2i3_4_1 g1r2i3_4_2 g1r2i3_4_3 g1r2i3_4_4 (by (first | grind (ematch := 0) | grind))]; simpa using g1rz37_38_2), (fun a k na => by rw [f1rz37_38_I a k (fun z => na (z.elim (fun z => Or.inl z) (fun z => z.elim (fun z => Or.inr (Or.inl z)) (fun z => Or.inr (Or.inr (z)))))), fr2i35_36_I a k (by omega), ih9i3_7 a k, if_neg (fun z => na (Or.inr (Or.inr (z)))), f1r2i3_4_I a k (fun z => na (z.elim (fun z => Or.inl z) (fun z => Or.inr (Or.inl z))))]), (fun a na => by rw [f1rz37_38_A a (by omega), fr2i35_36_A a (by omega), ah9i3_7 a, f1r2i3_4_A a (by omega)])⟩⟩
            · try dsimp only at *
              rw [show vI hr2i35_36 v0 48 = (vI h v0 48) from (by rw [fr2i35_36_I v0 48 (by omega), ih9i3_7 v0 48, if_neg (fun z => absurd z.2 (by decide)), g1r2i3_4_0]), show vI hr2i35_36 v0 41 = ((vI h v0 41) + 1) from (by rw [fr2i35_36_I v0 41 (by omega), ih9i3_7 v0 41, if_pos ⟨rfl, rfl⟩])] at g0rz37_38_1
              try simp only [Int32.add_zero, x_s11, x_s12, x_s21, x_s13, x_s22, x_s31] at g0rz37_38_1
              exact ⟨Thrz37_38, Or.inr ⟨g0rz37_38_0, (by show ¬ vI h v0 48 = 0 ∨ (if ¬ v4 = 0 ∧ x_lk t n (vI h v0 41) = 93 then some (vI h v0 41 + 1) else x_set t n (vI h v0 41)) = none; refine Or.inr ?_; rw [if_neg (fun z => z.1 cc2), x_se1 n2 g1r2i3_4_1 g1r2i3_4_2 g1r2i3_4_3 g1r2i3_4_4 (by (first | grind (ematch := 0) | grind))]; simpa using (g0rz37_38_1.resolve_left (fun z => z (by first | rfl | assumption)))), (fun a k na => by rw [f0rz37_38_I a k (fun z => na (z.elim (fun z => Or.inl z) (fun z => z.elim (fun z => Or.inr (Or.inl z)) (fun z => Or.inr (Or.inr (z)))))), fr2i35_36_I a k (by omega), ih9i3_7 a k, if_neg (fun z => na (Or.inr (Or.inr (z)))), f1r2i3_4_I a k (fun z => na (z.elim (fun z => Or.inl z) (fun z => Or.inr (Or.inl z))))]), (fun a na => by rw [f0rz37_38_A a (by omega), fr2i35_36_A a (by omega), ah9i3_7 a, f1r2i3_4_A a (by omega)])⟩⟩
        · intro hr2i3_4 Thr2i3_4 g0r2i3_4_0 g0r2i3_4_1 f0r2i3_4_I f0r2i3_4_A
          try dsimp only
          refine qi_bs ?_
          refine qi_if (fun _ => ?_) (fun cc39 => absurd (by decide) cc39)
          refine qi_some ?_
          exact ⟨Thr2i3_4, Or.inr ⟨(by show ¬ vI hr2i3_4 v0 48 = 0; rw [show vI hr2i3_4 v0 48 = 1 from (by rw [g0r2i3_4_0])] <;> (first | assumption | decide)), (by show ¬ vI h v0 48 = 0 ∨ (if ¬ v4 = 0 ∧ x_lk t n (vI h v0 41) = 93 then some (vI h v0 41 + 1) else x_set t n (vI h v0 41)) = none; refine Or.inr ?_; rw [if_neg (fun z => z.1 cc2)]; exact x_se0 tp n2 (by assumption)), (fun a k na => by rw [f0r2i3_4_I a k (fun z => na (z.elim (fun z => Or.inl z) (fun z => Or.inr (Or.inl z))))]), (fun a na => by rw [f0r2i3_4_A a (by omega)])⟩⟩
      · skip
        refine l_gO ?_
        refine j_Mod_here (v0 := v0) (t := t) (n := n) (e := (x_lk t n (vI h v0 41))) T kv0 ht hn rfl ?_
        try dsimp only
        refine qi_if (fun cc41 => ?_) (fun cc41 => ?_)
        · skip
          unfold f_Mod_set_217
          refine l_gI (e := (vI h v0 41)) rfl ?_
          refine l_sI T (q_Mk kv0) (by decide) rfl ?_
          intro h2i42_43 Th2i42_43 ih2i42_43 ah2i42_43
          refine qi_if (fun cc44 => ?_) (fun cc44 => ?_)
          · skip
            refine qi_some ?_
            exact ⟨Th2i42_43, Or.inl ⟨(by show vI h2i42_43 v0 48 = 0; rw [show vI h2i42_43 v0 48 = (vI h v0 48) from (by rw [ih2i42_43 v0 48, if_neg (fun z => absurd z.2 (by decide))])] <;> (first | assumption | with_reducible rfl | grind)), (by show vI h v0 48 = 0; first | assumption | with_reducible rfl | grind), (by show (if ¬ v4 = 0 ∧ x_lk t n (vI h v0 41) = 93 then some (vI h v0 41 + 1) else x_set t n (vI h v0 41)) = some (vI h2i42_43 v0 41); rw [show vI h2i42_43 v0 41 = ((vI h v0 41) + 1) from (by rw [ih2i42_43 v0 41, if_pos ⟨rfl, rfl⟩])] <;> (rw [if_pos ⟨by assumption, by assumption⟩])), (fun a k na => by rw [ih2i42_43 a k, if_neg (fun z => na (Or.inr (Or.inr (z))))]), (fun a na => by rw [ah2i42_43 a])⟩⟩
          · skip
            refine l_gR Th2i42_43 (d_Mo_37 kv0) ?_
            refine l_gR Th2i42_43 (d_Mo_37 kv0) ?_
            refine l_aL (fun lx45 => ?_)
            refine l_uL Th2i42_43 ?_
            intro h7i42_46 Th7i42_46 ih7i42_46 ah7i42_46
            refine l_gR Th7i42_46 (d_Mo_38 kv0) ?_
            refine l_gR Th7i42_46 (d_Mo_38 kv0) ?_
            refine l_aL (fun lx47 => ?_)
            refine l_uL Th7i42_46 ?_
            intro h11i42_48 Th11i42_48 ih11i42_48 ah11i42_48
            refine qi_some ?_
            exact ⟨Th11i42_48, Or.inl ⟨(by show vI h11i42_48 v0 48 = 0; rw [show vI h11i42_48 v0 48 = (vI h v0 48) from (by rw [ih11i42_48 v0 48, ih7i42_46 v0 48, ih2i42_43 v0 48, if_neg (fun z => absurd z.2 (by decide))])] <;> (first | assumption | with_reducible rfl | grind)), (by show vI h v0 48 = 0; first | assumption | with_reducible rfl | grind), (by show (if ¬ v4 = 0 ∧ x_lk t n (vI h v0 41) = 93 then some (vI h v0 41 + 1) else x_set t n (vI h v0 41)) = some (vI h11i42_48 v0 41); rw [show vI h11i42_48 v0 41 = ((vI h v0 41) + 1) from (by rw [ih11i42_48 v0 41, ih7i42_46 v0 41, ih2i42_43 v0 41, if_pos ⟨rfl, rfl⟩])] <;> (rw [if_pos ⟨by assumption, by assumption⟩])), (fun a k na => by rw [ih11i42_48 a k, ih7i42_46 a k, ih2i42_43 a k, if_neg (fun z => na (Or.inr (Or.inr (z))))]), (fun a na => by rw [ah11i42_48 a, ah7i42_46 a, ah2i42_43 a])⟩⟩
        · skip
          unfold f_Mod_set_99
          refine l_gO ?_
          refine j_Mod_isMember (v0 := v0) (t := t) (n := n) T kv0 ht hn ?_ ?_
          · intro hr2i49_50 Thr2i49_50 g1r2i49_50_0 g1r2i49_50_1 g1r2i49_50_2 g1r2i49_50_3 g1r2i49_50_4 f1r2i49_50_I f1r2i49_50_A
            try dsimp only
            refine qi_bs ?_
            refine qi_if (fun cc51 => absurd cc51 (by decide)) (fun _ => ?_)
            refine l_gO ?_
            refine j_Mod_here (v0 := v0) (t := t) (n := n) (e := (x_lk t n (vI h v0 41))) Thr2i49_50 kv0 (by show ∀ j, 0 ≤ j → j < n → vA hr2i49_50 (v0 + 1) j = t j; rw [show vA hr2i49_50 (v0 + 1) = vA h (v0 + 1) from (by rw [f1r2i49_50_A (v0 + 1) (by omega)])] <;> (first | assumption | with_reducible rfl | grind)) (by show vI hr2i49_50 v0 3 = n; rw [show vI hr2i49_50 v0 3 = (vI h v0 3) from (by rw [f1r2i49_50_I v0 3 (by omega)])] <;> (first | assumption | with_reducible rfl | grind)) (by rw [show vI hr2i49_50 v0 41 = (vI h v0 41) from (by rw [f1r2i49_50_I v0 41 (by omega)])]) ?_
            try dsimp only
            refine qi_bs ?_
            refine l_gI (e := (vI h v0 41)) (by rw [f1r2i49_50_I v0 41 (by omega)]) ?_
            refine l_sI Thr2i49_50 (q_Mk kv0) (by decide) rfl ?_
            intro h9i49_53 Th9i49_53 ih9i49_53 ah9i49_53
            refine l_gO ?_
            refine j_Mod_here (v0 := v0) (t := t) (n := n) (e := (x_lk t n ((vI h v0 41) + 1))) Th9i49_53 kv0 (by show ∀ j, 0 ≤ j → j < n → vA h9i49_53 (v0 + 1) j = t j; rw [show vA h9i49_53 (v0 + 1) = vA h (v0 + 1) from (by rw [ah9i49_53 (v0 + 1), f1r2i49_50_A (v0 + 1) (by omega)])] <;> (first | assumption | with_reducible rfl | grind)) (by show vI h9i49_53 v0 3 = n; rw [show vI h9i49_53 v0 3 = (vI h v0 3) from (by rw [ih9i49_53 v0 3, if_neg (fun z => absurd z.2 (by decide)), f1r2i49_50_I v0 3 (by omega)])] <;> (first | assumption | with_reducible rfl | grind)) (by rw [show vI h9i49_53 v0 41 = ((vI h v0 41) + 1) from (by rw [ih9i49_53 v0 41, if_pos ⟨rfl, rfl⟩])]) ?_
            try dsimp only
            refine qi_if (fun cc55 => ?_) (fun cc55 => ?_)
            · skip
              refine l_gO ?_
              refine j_Mod_behind (v0 := v0) (t := t) (n := n) (e := (x_lk t n ((vI h v0 41) + 2))) Th9i49_53 kv0 (by show ∀ j, 0 ≤ j → j < n → vA h9i49_53 (v0 + 1) j = t j; rw [show vA h9i49_53 (v0 + 1) = vA h (v0 + 1) from (by rw [ah9i49_53 (v0 + 1), f1r2i49_50_A (v0 + 1) (by omega)])] <;> (first | assumption | with_reducible rfl | grind)) (by show vI h9i49_53 v0 3 = n; rw [show vI h9i49_53 v0 3 = (vI h v0 3) from (by rw [ih9i49_53 v0 3, if_neg (fun z => absurd z.2 (by decide)), f1r2i49_50_I v0 3 (by omega)])] <;> (first | assumption | with_reducible rfl | grind)) (by rw [show vI h9i49_53 v0 41 = ((vI h v0 41) + 1) from (by rw [ih9i49_53 v0 41, if_pos ⟨rfl, rfl⟩])]; try simp only [Int32.add_zero, x_s11, x_s12, x_s21, x_s13, x_s22, x_s31]) ?_
              try dsimp only
              refine qi_if (fun cc57 => ?_) (fun cc57 => ?_)
              · skip
                unfold f_Mod_set_202
                refine l_gO ?_
                refine j_Mod_put (v0 := v0) (v1 := v2) (v2 := (x_lk t n (vI h v0 41))) (v3 := (x_lk t n (vI h v0 41))) Th9i49_53 kv0 ?_
                intro hr2i58_59 Thr2i58_59 fr2i58_59_I fr2i58_59_A
                try dsimp only
                refine qi_mono (ih v0 v2 v3 (1 : Int32) hr2i58_59 Thr2i58_59 kv0 (by show ∀ j, 0 ≤ j → j < n → vA hr2i58_59 (v0 + 1) j = t j; rw [show vA hr2i58_59 (v0 + 1) = vA h (v0 + 1) from (by rw [fr2i58_59_A (v0 + 1) (by omega), ah9i49_53 (v0 + 1), f1r2i49_50_A (v0 + 1) (by omega)])] <;> (first | assumption | with_reducible rfl | grind)) (by show vI hr2i58_59 v0 3 = n; rw [show vI hr2i58_59 v0 3 = (vI h v0 3) from (by rw [fr2i58_59_I v0 3 (by omega), ih9i49_53 v0 3, if_neg (fun z => absurd z.2 (by decide)), f1r2i49_50_I v0 3 (by omega)])] <;> (first | assumption | with_reducible rfl | grind)) n1 tp (by show vI hr2i58_59 v0 48 = 0 → 0 ≤ vI hr2i58_59 v0 41; rw [show vI hr2i58_59 v0 48 = (vI h v0 48) from (by rw [fr2i58_59_I v0 48 (by omega), ih9i49_53 v0 48, if_neg (fun z => absurd z.2 (by decide)), g1r2i49_50_0]), show vI hr2i58_59 v0 41 = ((vI h v0 41) + 1) from (by rw [fr2i58_59_I v0 41 (by omega), ih9i49_53 v0 41, if_pos ⟨rfl, rfl⟩])] <;> (intro z9; exact x_0le a0 (x_lp1 n2 (t := t) (by assumption))))) ?_
                rintro hrz60_61 ⟨Thrz60_61, ⟨g1rz60_61_0, g1rz60_61_1, g1rz60_61_2, f1rz60_61_I, f1rz60_61_A⟩ | ⟨g0rz60_61_0, g0rz60_61_1, f0rz60_61_I, f0rz60_61_A⟩⟩
                · try dsimp only at *
                  rw [show vI hr2i58_59 v0 48 = (vI h v0 48) from (by rw [fr2i58_59_I v0 48 (by omega), ih9i49_53 v0 48, if_neg (fun z => absurd z.2 (by decide)), g1r2i49_50_0])] at g1rz60_61_1
                  rw [show vI hr2i58_59 v0 41 = ((vI h v0 41) + 1) from (by rw [fr2i58_59_I v0 41 (by omega), ih9i49_53 v0 41, if_pos ⟨rfl, rfl⟩])] at g1rz60_61_2
                  try simp only [Int32.add_zero, x_s11, x_s12, x_s21, x_s13, x_s22, x_s31] at g1rz60_61_2
                  exact ⟨Thrz60_61, Or.inl ⟨(by show vI hrz60_61 v0 48 = 0; rw [show vI hrz60_61 v0 48 = 0 from (by rw [g1rz60_61_0])] <;> (first | assumption | with_reducible rfl | grind)), (by show vI h v0 48 = 0; first | assumption | with_reducible rfl | grind), (by show (if ¬ v4 = 0 ∧ x_lk t n (vI h v0 41) = 93 then some (vI h v0 41 + 1) else x_set t n (vI h v0 41)) = some (vI hrz60_61 v0 41); rw [if_neg (fun z => absurd z.2 g1r2i49_50_4), x_se1 n2 g1r2i49_50_1 g1r2i49_50_2 g1r2i49_50_3 g1r2i49_50_4 (by (first | grind (ematch := 0) | grind))]; simpa using g1rz60_61_2), (fun a k na => by rw [f1rz60_61_I a k (fun z => na (z.elim (fun z => Or.inl z) (fun z => z.elim (fun z => Or.inr (Or.inl z)) (fun z => Or.inr (Or.inr (z)))))), fr2i58_59_I a k (by omega), ih9i49_53 a k, if_neg (fun z => na (Or.inr (Or.inr (z)))), f1r2i49_50_I a k (fun z => na (z.elim (fun z => Or.inl z) (fun z => Or.inr (Or.inl z))))]), (fun a na => by rw [f1rz60_61_A a (by omega), fr2i58_59_A a (by omega), ah9i49_53 a, f1r2i49_50_A a (by omega)])⟩⟩
                · try dsimp only at *
                  rw [show vI hr2i58_59 v0 48 = (vI h v0 48) from (by rw [fr2i58_59_I v0 48 (by omega), ih9i49_53 v0 48, if_neg (fun z => absurd z.2 (by decide)), g1r2i49_50_0]), show vI hr2i58_59 v0 41 = ((vI h v0 41) + 1) from (by rw [fr2i58_59_I v0 41 (by omega), ih9i49_53 v0 41, if_pos ⟨rfl, rfl⟩])] at g0rz60_61_1
                  try simp only [Int32.add_zero, x_s11, x_s12, x_s21, x_s13, x_s22, x_s31] at g0rz60_61_1
                  exact ⟨Thrz60_61, Or.inr ⟨g0rz60_61_0, (by show ¬ vI h v0 48 = 0 ∨ (if ¬ v4 = 0 ∧ x_lk t n (vI h v0 41) = 93 then some (vI h v0 41 + 1) else x_set t n (vI h v0 41)) = none; refine Or.inr ?_; rw [if_neg (fun z => absurd z.2 g1r2i49_50_4), x_se1 n2 g1r2i49_50_1 g1r2i49_50_2 g1r2i49_50_3 g1r2i49_50_4 (by (first | grind (ematch := 0) | grind))]; simpa using (g0rz60_61_1.resolve_left (fun z => z (by first | rfl | assumption)))), (fun a k na => by rw [f0rz60_61_I a k (fun z => na (z.elim (fun z => Or.inl z) (fun z => z.elim (fun z => Or.inr (Or.inl z)) (fun z => Or.inr (Or.inr (z)))))), fr2i58_59_I a k (by omega), ih9i49_53 a k, if_neg (fun z => na (Or.inr (Or.inr (z)))), f1r2i49_50_I a k (fun z => na (z.elim (fun z => Or.inl z) (fun z => Or.inr (Or.inl z))))]), (fun a na => by rw [f0rz60_61_A a (by omega), fr2i58_59_A a (by omega), ah9i49_53 a, f1r2i49_50_A a (by omega)])⟩⟩
              · skip
                refine l_gI (e := ((vI h v0 41) + 1)) (by rw [ih9i49_53 v0 41, if_pos ⟨rfl, rfl⟩]) ?_
                refine l_sI Th9i49_53 (q_Mk kv0) (by decide) rfl ?_
                intro h17i49_62 Th17i49_62 ih17i49_62 ah17i49_62
                refine l_gO ?_
                refine j_Mod_isMember (v0 := v0) (t := t) (n := n) Th17i49_62 kv0 (by show ∀ j, 0 ≤ j → j < n → vA h17i49_62 (v0 + 1) j = t j; rw [show vA h17i49_62 (v0 + 1) = vA h (v0 + 1) from (by rw [ah17i49_62 (v0 + 1), ah9i49_53 (v0 + 1), f1r2i49_50_A (v0 + 1) (by omega)])] <;> (first | assumption | with_reducible rfl | grind)) (by show vI h17i49_62 v0 3 = n; rw [show vI h17i49_62 v0 3 = (vI h v0 3) from (by rw [ih17i49_62 v0 3, if_neg (fun z => absurd z.2 (by decide)), ih9i49_53 v0 3, if_neg (fun z => absurd z.2 (by decide)), f1r2i49_50_I v0 3 (by omega)])] <;> (first | assumption | with_reducible rfl | grind)) ?_ ?_
                · intro hr19i49_63 Thr19i49_63 g1r19i49_63_0 g1r19i49_63_1 g1r19i49_63_2 g1r19i49_63_3 g1r19i49_63_4 f1r19i49_63_I f1r19i49_63_A
                  try dsimp only
                  rw [show vI h17i49_62 v0 48 = (vI h v0 48) from (by rw [ih17i49_62 v0 48, if_neg (fun z => absurd z.2 (by decide)), ih9i49_53 v0 48, if_neg (fun z => absurd z.2 (by decide)), g1r2i49_50_0])] at g1r19i49_63_0
                  rw [show vI h17i49_62 v0 41 = (((vI h v0 41) + 1) + 1) from (by rw [ih17i49_62 v0 41, if_pos ⟨rfl, rfl⟩])] at g1r19i49_63_1
                  try simp only [Int32.add_zero, x_s11, x_s12, x_s21, x_s13, x_s22, x_s31] at g1r19i49_63_1
                  rw [show vI h17i49_62 v0 41 = (((vI h v0 41) + 1) + 1) from (by rw [ih17i49_62 v0 41, if_pos ⟨rfl, rfl⟩])] at g1r19i49_63_2
                  try simp only [Int32.add_zero, x_s11, x_s12, x_s21, x_s13, x_s22, x_s31] at g1r19i49_63_2
                  rw [show vI h17i49_62 v0 41 = (((vI h v0 41) + 1) + 1) from (by rw [ih17i49_62 v0 41, if_pos ⟨rfl, rfl⟩])] at g1r19i49_63_3
                  try simp only [Int32.add_zero, x_s11, x_s12, x_s21, x_s13, x_s22, x_s31] at g1r19i49_63_3
                  rw [show vI h17i49_62 v0 41 = (((vI h v0 41) + 1) + 1) from (by rw [ih17i49_62 v0 41, if_pos ⟨rfl, rfl⟩])] at g1r19i49_63_4
                  try simp only [Int32.add_zero, x_s11, x_s12, x_s21, x_s13, x_s22, x_s31] at g1r19i49_63_4
                  refine qi_bs ?_
                  refine qi_if (fun cc64 => absurd cc64 (by decide)) (fun _ => ?_)
                  refine l_gO ?_
                  refine j_Mod_here (v0 := v0) (t := t) (n := n) (e := (x_lk t n ((vI h v0 41) + 2))) Thr19i49_63 kv0 (by show ∀ j, 0 ≤ j → j < n → vA hr19i49_63 (v0 + 1) j = t j; rw [show vA hr19i49_63 (v0 + 1) = vA h (v0 + 1) from (by rw [f1r19i49_63_A (v0 + 1) (by omega), ah17i49_62 (v0 + 1), ah9i49_53 (v0 + 1), f1r2i49_50_A (v0 + 1) (by omega)])] <;> (first | assumption | with_reducible rfl | grind)) (by show vI hr19i49_63 v0 3 = n; rw [show vI hr19i49_63 v0 3 = (vI h v0 3) from (by rw [f1r19i49_63_I v0 3 (by omega), ih17i49_62 v0 3, if_neg (fun z => absurd z.2 (by decide)), ih9i49_53 v0 3, if_neg (fun z => absurd z.2 (by decide)), f1r2i49_50_I v0 3 (by omega)])] <;> (first | assumption | with_reducible rfl | grind)) (by rw [show vI hr19i49_63 v0 41 = (((vI h v0 41) + 1) + 1) from (by rw [f1r19i49_63_I v0 41 (by omega), ih17i49_62 v0 41, if_pos ⟨rfl, rfl⟩])]; try simp only [Int32.add_zero, x_s11, x_s12, x_s21, x_s13, x_s22, x_s31]) ?_
                  try dsimp only
                  refine qi_bs ?_
                  refine qi_if (fun cc66 => ?_) (fun cc66 => ?_)
                  · skip
                    unfold f_Mod_set_192
                    refine l_gI (e := (((vI h v0 41) + 1) + 1)) (by rw [f1r19i49_63_I v0 41 (by omega), ih17i49_62 v0 41, if_pos ⟨rfl, rfl⟩]) ?_
                    refine l_sI Thr19i49_63 (q_Mk kv0) (by decide) rfl ?_
                    intro h2i67_68 Th2i67_68 ih2i67_68 ah2i67_68
                    unfold f_Mod_set_202
                    refine l_gO ?_
                    refine j_Mod_put (v0 := v0) (v1 := v2) (v2 := (x_lk t n (vI h v0 41))) (v3 := (x_lk t n ((vI h v0 41) + 2))) Th2i67_68 kv0 ?_
                    intro hr2i69_70 Thr2i69_70 fr2i69_70_I fr2i69_70_A
                    try dsimp only
                    refine qi_mono (ih v0 v2 v3 (1 : Int32) hr2i69_70 Thr2i69_70 kv0 (by show ∀ j, 0 ≤ j → j < n → vA hr2i69_70 (v0 + 1) j = t j; rw [show vA hr2i69_70 (v0 + 1) = vA h (v0 + 1) from (by rw [fr2i69_70_A (v0 + 1) (by omega), ah2i67_68 (v0 + 1), f1r19i49_63_A (v0 + 1) (by omega), ah17i49_62 (v0 + 1), ah9i49_53 (v0 + 1), f1r2i49_50_A (v0 + 1) (by omega)])] <;> (first | assumption | with_reducible rfl | grind)) (by show vI hr2i69_70 v0 3 = n; rw [show vI hr2i69_70 v0 3 = (vI h v0 3) from (by rw [fr2i69_70_I v0 3 (by omega), ih2i67_68 v0 3, if_neg (fun z => absurd z.2 (by decide)), f1r19i49_63_I v0 3 (by omega), ih17i49_62 v0 3, if_neg (fun z => absurd z.2 (by decide)), ih9i49_53 v0 3, if_neg (fun z => absurd z.2 (by decide)), f1r2i49_50_I v0 3 (by omega)])] <;> (first | assumption | with_reducible rfl | grind)) n1 tp (by show vI hr2i69_70 v0 48 = 0 → 0 ≤ vI hr2i69_70 v0 41; rw [show vI hr2i69_70 v0 48 = (vI h v0 48) from (by rw [fr2i69_70_I v0 48 (by omega), ih2i67_68 v0 48, if_neg (fun z => absurd z.2 (by decide)), g1r19i49_63_0]), show vI hr2i69_70 v0 41 = ((((vI h v0 41) + 1) + 1) + 1) from (by rw [fr2i69_70_I v0 41 (by omega), ih2i67_68 v0 41, if_pos ⟨rfl, rfl⟩])] <;> ((try simp only [Int32.add_zero, x_s11, x_s12, x_s21, x_s13, x_s22, x_s31]) <;> (intro z9; exact x_0le a0 (x_lp3 n2 (t := t) (by assumption)))))) ?_
                    rintro hrz71_72 ⟨Thrz71_72, ⟨g1rz71_72_0, g1rz71_72_1, g1rz71_72_2, f1rz71_72_I, f1rz71_72_A⟩ | ⟨g0rz71_72_0, g0rz71_72_1, f0rz71_72_I, f0rz71_72_A⟩⟩
                    · try dsimp only at *
                      rw [show vI hr2i69_70 v0 48 = (vI h v0 48) from (by rw [fr2i69_70_I v0 48 (by omega), ih2i67_68 v0 48, if_neg (fun z => absurd z.2 (by decide)), g1r19i49_63_0])] at g1rz71_72_1
                      rw [show vI hr2i69_70 v0 41 = ((((vI h v0 41) + 1) + 1) + 1) from (by rw [fr2i69_70_I v0 41 (by omega), ih2i67_68 v0 41, if_pos ⟨rfl, rfl⟩])] at g1rz71_72_2
                      try simp only [Int32.add_zero, x_s11, x_s12, x_s21, x_s13, x_s22, x_s31] at g1rz71_72_2
                      exact ⟨Thrz71_72, Or.inl ⟨(by show vI hrz71_72 v0 48 = 0; rw [show vI hrz71_72 v0 48 = 0 from (by rw [g1rz71_72_0])] <;> (first | assumption | with_reducible rfl | grind)), (by show vI h v0 48 = 0; first | assumption | with_reducible rfl | grind), (by show (if ¬ v4 = 0 ∧ x_lk t n (vI h v0 41) = 93 then some (vI h v0 41 + 1) else x_set t n (vI h v0 41)) = some (vI hrz71_72 v0 41); rw [if_neg (fun z => absurd z.2 g1r2i49_50_4), x_se2 n2 g1r2i49_50_1 g1r2i49_50_2 g1r2i49_50_3 g1r2i49_50_4 cc55 g1r19i49_63_4, if_neg (by (first | grind (ematch := 0) | grind))]; simpa using g1rz71_72_2), (fun a k na => by rw [f1rz71_72_I a k (fun z => na (z.elim (fun z => Or.inl z) (fun z => z.elim (fun z => Or.inr (Or.inl z)) (fun z => Or.inr (Or.inr (z)))))), fr2i69_70_I a k (by omega), ih2i67_68 a k, if_neg (fun z => na (Or.inr (Or.inr (z)))), f1r19i49_63_I a k (fun z => na (z.elim (fun z => Or.inl z) (fun z => Or.inr (Or.inl z)))), ih17i49_62 a k, if_neg (fun z => na (Or.inr (Or.inr (z)))), ih9i49_53 a k, if_neg (fun z => na (Or.inr (Or.inr (z)))), f1r2i49_50_I a k (fun z => na (z.elim (fun z => Or.inl z) (fun z => Or.inr (Or.inl z))))]), (fun a na => by rw [f1rz71_72_A a (by omega), fr2i69_70_A a (by omega), ah2i67_68 a, f1r19i49_63_A a (by omega), ah17i49_62 a, ah9i49_53 a, f1r2i49_50_A a (by omega)])⟩⟩
                    · try dsimp only at *
                      rw [show vI hr2i69_70 v0 48 = (vI h v0 48) from (by rw [fr2i69_70_I v0 48 (by omega), ih2i67_68 v0 48, if_neg (fun z => absurd z.2 (by decide)), g1r19i49_63_0]), show vI hr2i69_70 v0 41 = ((((vI h v0 41) + 1) + 1) + 1) from (by rw [fr2i69_70_I v0 41 (by omega), ih2i67_68 v0 41, if_pos ⟨rfl, rfl⟩])] at g0rz71_72_1
                      try simp only [Int32.add_zero, x_s11, x_s12, x_s21, x_s13, x_s22, x_s31] at g0rz71_72_1
                      exact ⟨Thrz71_72, Or.inr ⟨g0rz71_72_0, (by show ¬ vI h v0 48 = 0 ∨ (if ¬ v4 = 0 ∧ x_lk t n (vI h v0 41) = 93 then some (vI h v0 41 + 1) else x_set t n (vI h v0 41)) = none; refine Or.inr ?_; rw [if_neg (fun z => absurd z.2 g1r2i49_50_4), x_se2 n2 g1r2i49_50_1 g1r2i49_50_2 g1r2i49_50_3 g1r2i49_50_4 cc55 g1r19i49_63_4, if_neg (by (first | grind (ematch := 0) | grind))]; simpa using (g0rz71_72_1.resolve_left (fun z => z (by first | rfl | assumption)))), (fun a k na => by rw [f0rz71_72_I a k (fun z => na (z.elim (fun z => Or.inl z) (fun z => z.elim (fun z => Or.inr (Or.inl z)) (fun z => Or.inr (Or.inr (z)))))), fr2i69_70_I a k (by omega), ih2i67_68 a k, if_neg (fun z => na (Or.inr (Or.inr (z)))), f1r19i49_63_I a k (fun z => na (z.elim (fun z => Or.inl z) (fun z => Or.inr (Or.inl z)))), ih17i49_62 a k, if_neg (fun z => na (Or.inr (Or.inr (z)))), ih9i49_53 a k, if_neg (fun z => na (Or.inr (Or.inr (z)))), f1r2i49_50_I a k (fun z => na (z.elim (fun z => Or.inl z) (fun z => Or.inr (Or.inl z))))]), (fun a na => by rw [f0rz71_72_A a (by omega), fr2i69_70_A a (by omega), ah2i67_68 a, f1r19i49_63_A a (by omega), ah17i49_62 a, ah9i49_53 a, f1r2i49_50_A a (by omega)])⟩⟩
                  · skip
                    refine l_gI (e := (((vI h v0 41) + 1) + 1)) (by rw [f1r19i49_63_I v0 41 (by omega), ih17i49_62 v0 41, if_pos ⟨rfl, rfl⟩]) ?_
                    refine l_gO ?_
                    refine j_Mod_wrong (v0 := v0) (v1 := (((vI h v0 41) + 1) + 1)) Thr19i49_63 kv0 ?_
                    intro hr28i49_73 Thr28i49_73 gr28i49_73_0 fr28i49_73_I fr28i49_73_A
                    try dsimp only
                    unfold f_Mod_set_192
                    refine l_gI (e := (((vI h v0 41) + 1) + 1)) (by rw [fr28i49_73_I v0 41 (by omega), f1r19i49_63_I v0 41 (by omega), ih17i49_62 v0 41, if_pos ⟨rfl, rfl⟩]) ?_
                    refine l_sI Thr28i49_73 (q_Mk kv0) (by decide) rfl ?_
                    intro h2i74_75 Th2i74_75 ih2i74_75 ah2i74_75
                    unfold f_Mod_set_202
                    refine l_gO ?_
                    refine j_Mod_put (v0 := v0) (v1 := v2) (v2 := (x_lk t n (vI h v0 41))) (v3 := (x_lk t n ((vI h v0 41) + 2))) Th2i74_75 kv0 ?_
                    intro hr2i76_77 Thr2i76_77 fr2i76_77_I fr2i76_77_A
                    try dsimp only
                    refine qi_mono (ih v0 v2 v3 (1 : Int32) hr2i76_77 Thr2i76_77 kv0 (by show ∀ j, 0 ≤ j → j < n → vA hr2i76_77 (v0 + 1) j = t j; rw [show vA hr2i76_77 (v0 + 1) = vA h (v0 + 1) from (by rw [fr2i76_77_A (v0 + 1) (by omega), ah2i74_75 (v0 + 1), fr28i49_73_A (v0 + 1) (by omega), f1r19i49_63_A (v0 + 1) (by omega), ah17i49_62 (v0 + 1), ah9i49_53 (v0 + 1), f1r2i49_50_A (v0 + 1) (by omega)])] <;> (first | assumption | with_reducible rfl | grind)) (by show vI hr2i76_77 v0 3 = n; rw [show vI hr2i76_77 v0 3 = (vI h v0 3) from (by rw [fr2i76_77_I v0 3 (by omega), ih2i74_75 v0 3, if_neg (fun z => absurd z.2 (by decide)), fr28i49_73_I v0 3 (by omega), f1r19i49_63_I v0 3 (by omega), ih17i49_62 v0 3, if_neg (fun z => absurd z.2 (by decide)), ih9i49_53 v0 3, if_neg (fun z => absurd z.2 (by decide)), f1r2i49_50_I v0 3 (by omega)])] <;> (first | assumption | with_reducible rfl | grind)) n1 tp (by show vI hr2i76_77 v0 48 = 0 → 0 ≤ vI hr2i76_77 v0 41; rw [show vI hr2i76_77 v0 48 = 1 from (by rw [fr2i76_77_I v0 48 (by omega), ih2i74_75 v0 48, if_neg (fun z => absurd z.2 (by decide)), gr28i49_73_0]), show vI hr2i76_77 v0 41 = ((((vI h v0 41) + 1) + 1) + 1) from (by rw [fr2i76_77_I v0 41 (by omega), ih2i74_75 v0 41, if_pos ⟨rfl, rfl⟩])] <;> ((try simp only [Int32.add_zero, x_s11, x_s12, x_s21, x_s13, x_s22, x_s31]) <;> (intro z9; exact x_0le a0 (x_lp3 n2 (t := t) (by assumption)))))) ?_
                    rintro hrz78_79 ⟨Thrz78_79, ⟨g1rz78_79_0, g1rz78_79_1, g1rz78_79_2, f1rz78_79_I, f1rz78_79_A⟩ | ⟨g0rz78_79_0, g0rz78_79_1, f0rz78_79_I, f0rz78_79_A⟩⟩
                    · try dsimp only at *
                      rw [show vI hr2i76_77 v0 48 = 1 from (by rw [fr2i76_77_I v0 48 (by omega), ih2i74_75 v0 48, if_neg (fun z => absurd z.2 (by decide)), gr28i49_73_0])] at g1rz78_79_1
                      rw [show vI hr2i76_77 v0 41 = ((((vI h v0 41) + 1) + 1) + 1) from (by rw [fr2i76_77_I v0 41 (by omega), ih2i74_75 v0 41, if_pos ⟨rfl, rfl⟩])] at g1rz78_79_2
                      try simp only [Int32.add_zero, x_s11, x_s12, x_s21, x_s13, x_s22, x_s31] at g1rz78_79_2
                      exact absurd g1rz78_79_1 (by decide)
                    · try dsimp only at *
                      rw [show vI hr2i76_77 v0 48 = 1 from (by rw [fr2i76_77_I v0 48 (by omega), ih2i74_75 v0 48, if_neg (fun z => absurd z.2 (by decide)), gr28i49_73_0]), show vI hr2i76_77 v0 41 = ((((vI h v0 41) + 1) + 1) + 1) from (by rw [fr2i76_77_I v0 41 (by omega), ih2i74_75 v0 41, if_pos ⟨rfl, rfl⟩])] at g0rz78_79_1
                      try simp only [Int32.add_zero, x_s11, x_s12, x_s21, x_s13, x_s22, x_s31] at g0rz78_79_1
                      exact ⟨Thrz78_79, Or.inr ⟨g0rz78_79_0, (by show ¬ vI h v0 48 = 0 ∨ (if ¬ v4 = 0 ∧ x_lk t n (vI h v0 41) = 93 then some (vI h v0 41 + 1) else x_set t n (vI h v0 41)) = none; refine Or.inr ?_; rw [if_neg (fun z => absurd z.2 g1r2i49_50_4), x_se2 n2 g1r2i49_50_1 g1r2i49_50_2 g1r2i49_50_3 g1r2i49_50_4 cc55 g1r19i49_63_4, if_pos (by (first | grind (ematch := 0) | grind))]), (fun a k na => by rw [f0rz78_79_I a k (fun z => na (z.elim (fun z => Or.inl z) (fun z => z.elim (fun z => Or.inr (Or.inl z)) (fun z => Or.inr (Or.inr (z)))))), fr2i76_77_I a k (by omega), ih2i74_75 a k, if_neg (fun z => na (Or.inr (Or.inr (z)))), fr28i49_73_I a k (fun z => na (z.elim (fun z => Or.inl z) (fun z => Or.inr (Or.inl z)))), f1r19i49_63_I a k (fun z => na (z.elim (fun z => Or.inl z) (fun z => Or.inr (Or.inl z)))), ih17i49_62 a k, if_neg (fun z => na (Or.inr (Or.inr (z)))), ih9i49_53 a k, if_neg (fun z => na (Or.inr (Or.inr (z)))), f1r2i49_50_I a k (fun z => na (z.elim (fun z => Or.inl z) (fun z => Or.inr (Or.inl z))))]), (fun a na => by rw [f0rz78_79_A a (by omega), fr2i76_77_A a (by omega), ah2i74_75 a, fr28i49_73_A a (by omega), f1r19i49_63_A a (by omega), ah17i49_62 a, ah9i49_53 a, f1r2i49_50_A a (by omega)])⟩⟩
                · intro hr19i49_63 Thr19i49_63 g0r19i49_63_0 g0r19i49_63_1 f0r19i49_63_I f0r19i49_63_A
                  try dsimp only
                  rw [show vI h17i49_62 v0 41 = (((vI h v0 41) + 1) + 1) from (by rw [ih17i49_62 v0 41, if_pos ⟨rfl, rfl⟩])] at g0r19i49_63_1
                  try simp only [Int32.add_zero, x_s11, x_s12, x_s21, x_s13, x_s22, x_s31] at g0r19i49_63_1
                  refine qi_bs ?_
                  refine qi_if (fun _ => ?_) (fun cc80 => absurd (by decide) cc80)
                  refine qi_some ?_
                  exact ⟨Thr19i49_63, Or.inr ⟨(by show ¬ vI hr19i49_63 v0 48 = 0; rw [show vI hr19i49_63 v0 48 = 1 from (by rw [g0r19i49_63_0])] <;> (first | assumption | decide)), (by show ¬ vI h v0 48 = 0 ∨ (if ¬ v4 = 0 ∧ x_lk t n (vI h v0 41) = 93 then some (vI h v0 41 + 1) else x_set t n (vI h v0 41)) = none; refine Or.inr ?_; rw [if_neg (fun z => absurd z.2 g1r2i49_50_4), x_se2 n2 g1r2i49_50_1 g1r2i49_50_2 g1r2i49_50_3 g1r2i49_50_4 cc55 cc57, if_pos (by (first | grind (ematch := 0) | grind))]), (fun a k na => by rw [f0r19i49_63_I a k (fun z => na (z.elim (fun z => Or.inl z) (fun z => Or.inr (Or.inl z)))), ih17i49_62 a k, if_neg (fun z => na (Or.inr (Or.inr (z)))), ih9i49_53 a k, if_neg (fun z => na (Or.inr (Or.inr (z)))), f1r2i49_50_I a k (fun z => na (z.elim (fun z => Or.inl z) (fun z => Or.inr (Or.inl z))))]), (fun a na => by rw [f0r19i49_63_A a (by omega), ah17i49_62 a, ah9i49_53 a, f1r2i49_50_A a (by omega)])⟩⟩
            · skip
              unfold f_Mod_set_202
              refine l_gO ?_
              refine j_Mod_put (v0 := v0) (v1 := v2) (v2 := (x_lk t n (vI h v0 41))) (v3 := (x_lk t n (vI h v0 41))) Th9i49_53 kv0 ?_
              intro hr2i81_82 Thr2i81_82 fr2i81_82_I fr2i81_82_A
              try dsimp only
              refine qi_mono (ih v0 v2 v3 (1 : Int32) hr2i81_82 Thr2i81_82 kv0 (by show ∀ j, 0 ≤ j → j < n → vA hr2i81_82 (v0 + 1) j = t j; rw [show vA hr2i81_82 (v0 + 1) = vA h (v0 + 1) from (by rw [fr2i81_82_A (v0 + 1) (by omega), ah9i49_53 (v0 + 1), f1r2i49_50_A (v0 + 1) (by omega)])] <;> (first | assumption | with_reducible rfl | grind)) (by show vI hr2i81_82 v0 3 = n; rw [show vI hr2i81_82 v0 3 = (vI h v0 3) from (by rw [fr2i81_82_I v0 3 (by omega), ih9i49_53 v0 3, if_neg (fun z => absurd z.2 (by decide)), f1r2i49_50_I v0 3 (by omega)])] <;> (first | assumption | with_reducible rfl | grind)) n1 tp (by show vI hr2i81_82 v0 48 = 0 → 0 ≤ vI hr2i81_82 v0 41; rw [show vI hr2i81_82 v0 48 = (vI h v0 48) from (by rw [fr2i81_82_I v0 48 (by omega), ih9i49_53 v0 48, if_neg (fun z => absurd z.2 (by decide)), g1r2i49_50_0]), show vI hr2i81_82 v0 41 = ((vI h v0 41) + 1) from (by rw [fr2i81_82_I v0 41 (by omega), ih9i49_53 v0 41, if_pos ⟨rfl, rfl⟩])] <;> (intro z9; exact x_0le a0 (x_lp1 n2 (t := t) (by assumption))))) ?_
              rintro hrz83_84 ⟨Thrz83_84, ⟨g1rz83_84_0, g1rz83_84_1, g1rz83_84_2, f1rz83_84_I, f1rz83_84_A⟩ | ⟨g0rz83_84_0, g0rz83_84_1, f0rz83_84_I, f0rz83_84_A⟩⟩
              · try dsimp only at *
                rw [show vI hr2i81_82 v0 48 = (vI h v0 48) from (by rw [fr2i81_82_I v0 48 (by omega), ih9i49_53 v0 48, if_neg (fun z => absurd z.2 (by decide)), g1r2i49_50_0])] at g1rz83_84_1
                rw [show vI hr2i81_82 v0 41 = ((vI h v0 41) + 1) from (by rw [fr2i81_82_I v0 41 (by omega), ih9i49_53 v0 41, if_pos ⟨rfl, rfl⟩])] at g1rz83_84_2
                try simp only [Int32.add_zero, x_s11, x_s12, x_s21, x_s13, x_s22, x_s31] at g1rz83_84_2
                exact ⟨Thrz83_84, Or.inl ⟨(by show vI hrz83_84 v0 48 = 0; rw [show vI hrz83_84 v0 48 = 0 from (by rw [g1rz83_84_0])] <;> (first | assumption | with_reducible rfl | grind)), (by show vI h v0 48 = 0; first | assumption | with_reducible rfl | grind), (by show (if ¬ v4 = 0 ∧ x_lk t n (vI h v0 41) = 93 then some (vI h v0 41 + 1) else x_set t n (vI h v0 41)) = some (vI hrz83_84 v0 41); rw [if_neg (fun z => absurd z.2 g1r2i49_50_4), x_se1 n2 g1r2i49_50_1 g1r2i49_50_2 g1r2i49_50_3 g1r2i49_50_4 (by (first | grind (ematch := 0) | grind))]; simpa using g1rz83_84_2), (fun a k na => by rw [f1rz83_84_I a k (fun z => na (z.elim (fun z => Or.inl z) (fun z => z.elim (fun z => Or.inr (Or.inl z)) (fun z => Or.inr (Or.inr (z)))))), fr2i81_82_I a k (by omega), ih9i49_53 a k, if_neg (fun z => na (Or.inr (Or.inr (z)))), f1r2i49_50_I a k (fun z => na (z.elim (fun z => Or.inl z) (fun z => Or.inr (Or.inl z))))]), (fun a na => by rw [f1rz83_84_A a (by omega), fr2i81_82_A a (by omega), ah9i49_53 a, f1r2i49_50_A a (by omega)])⟩⟩
              · try dsimp only at *
                rw [show vI hr2i81_82 v0 48 = (vI h v0 48) from (by rw [fr2i81_82_I v0 48 (by omega), ih9i49_53 v0 48, if_neg (fun z => absurd z.2 (by decide)), g1r2i49_50_0]), show vI hr2i81_82 v0 41 = ((vI h v0 41) + 1) from (by rw [fr2i81_82_I v0 41 (by omega), ih9i49_53 v0 41, if_pos ⟨rfl, rfl⟩])] at g0rz83_84_1
                try simp only [Int32.add_zero, x_s11, x_s12, x_s21, x_s13, x_s22, x_s31] at g0rz83_84_1
                exact ⟨Thrz83_84, Or.inr ⟨g0rz83_84_0, (by show ¬ vI h v0 48 = 0 ∨ (if ¬ v4 = 0 ∧ x_lk t n (vI h v0 41) = 93 then some (vI h v0 41 + 1) else x_set t n (vI h v0 41)) = none; refine Or.inr ?_; rw [if_neg (fun z => absurd z.2 g1r2i49_50_4), x_se1 n2 g1r2i49_50_1 g1r2i49_50_2 g1r2i49_50_3 g1r2i49_50_4 (by (first | grind (ematch := 0) | grind))]; simpa using (g0rz83_84_1.resolve_left (fun z => z (by first | rfl | assumption)))), (fun a k na => by rw [f0rz83_84_I a k (fun z => na (z.elim (fun z => Or.inl z) (fun z => z.elim (fun z => Or.inr (Or.inl z)) (fun z => Or.inr (Or.inr (z)))))), fr2i81_82_I a k (by omega), ih9i49_53 a k, if_neg (fun z => na (Or.inr (Or.inr (z)))), f1r2i49_50_I a k (fun z => na (z.elim (fun z => Or.inl z) (fun z => Or.inr (Or.inl z))))]), (fun a na => by rw [f0rz83_84_A a (by omega), fr2i81_82_A a (by omega), ah9i49_53 a, f1r2i49_50_A a (by omega)])⟩⟩
          · intro hr2i49_50 Thr2i49_50 g0r2i49_50_0 g0r2i49_50_1 f0r2i49_50_I f0r2i49_50_A
            try dsimp only
            refine qi_bs ?_
            refine qi_if (fun _ => ?_) (fun cc85 => absurd (by decide) cc85)
            refine qi_some ?_
            exact ⟨Thr2i49_50, Or.inr ⟨(by show ¬ vI hr2i49_50 v0 48 = 0; rw [show vI hr2i49_50 v0 48 = 1 from (by rw [g0r2i49_50_0])] <;> (first | assumption | decide)), (by show ¬ vI h v0 48 = 0 ∨ (if ¬ v4 = 0 ∧ x_lk t n (vI h v0 41) = 93 then some (vI h v0 41 + 1) else x_set t n (vI h v0 41)) = none; refine Or.inr ?_; rw [if_neg (fun z => absurd z.2 cc41)]; exact x_se0 tp n2 (by assumption)), (fun a k na => by rw [f0r2i49_50_I a k (fun z => na (z.elim (fun z => Or.inl z) (fun z => Or.inr (Or.inl z))))]), (fun a na => by rw [f0r2i49_50_A a (by omega)])⟩⟩
    · skip
      unfold f_Mod_set_217
      refine l_gI (e := (vI h v0 41)) rfl ?_
      refine l_sI T (q_Mk kv0) (by decide) rfl ?_
      intro h2i86_87 Th2i86_87 ih2i86_87 ah2i86_87
      refine qi_if (fun cc88 => ?_) (fun cc88 => ?_)
      · skip
        refine qi_some ?_
        exact ⟨Th2i86_87, Or.inr ⟨(by show ¬ vI h2i86_87 v0 48 = 0; rw [show vI h2i86_87 v0 48 = (vI h v0 48) from (by rw [ih2i86_87 v0 48, if_neg (fun z => absurd z.2 (by decide))])] <;> (first | assumption | decide)), (by show ¬ vI h v0 48 = 0 ∨ (if ¬ v4 = 0 ∧ x_lk t n (vI h v0 41) = 93 then some (vI h v0 41 + 1) else x_set t n (vI h v0 41)) = none; exact Or.inl cc1), (fun a k na => by rw [ih2i86_87 a k, if_neg (fun z => na (Or.inr (Or.inr (z))))]), (fun a na => by rw [ah2i86_87 a])⟩⟩
      · skip
        refine l_gR Th2i86_87 (d_Mo_37 kv0) ?_
        refine l_gR Th2i86_87 (d_Mo_37 kv0) ?_
        refine l_aL (fun lx89 => ?_)
        refine l_uL Th2i86_87 ?_
        intro h7i86_90 Th7i86_90 ih7i86_90 ah7i86_90
        refine l_gR Th7i86_90 (d_Mo_38 kv0) ?_
        refine l_gR Th7i86_90 (d_Mo_38 kv0) ?_
        refine l_aL (fun lx91 => ?_)
        refine l_uL Th7i86_90 ?_
        intro h11i86_92 Th11i86_92 ih11i86_92 ah11i86_92
        refine qi_some ?_
        exact ⟨Th11i86_92, Or.inr ⟨(by show ¬ vI h11i86_92 v0 48 = 0; rw [show vI h11i86_92 v0 48 = (vI h v0 48) from (by rw [ih11i86_92 v0 48, ih7i86_90 v0 48, ih2i86_87 v0 48, if_neg (fun z => absurd z.2 (by decide))])] <;> (first | assumption | decide)), (by show ¬ vI h v0 48 = 0 ∨ (if ¬ v4 = 0 ∧ x_lk t n (vI h v0 41) = 93 then some (vI h v0 41 + 1) else x_set t n (vI h v0 41)) = none; exact Or.inl cc1), (fun a k na => by rw [ih11i86_92 a k, ih7i86_90 a k, ih2i86_87 a k, if_neg (fun z => na (Or.inr (Or.inr (z))))]), (fun a na => by rw [ah11i86_92 a, ah7i86_90 a, ah2i86_87 a])⟩⟩
theorem j_Mod_set_78 {L : q_L} {π : Nat → Nat → Option Nat} {N : Nat} {t : Int32 → Int32} {n : Int32} {m9 : Nat} {h : z_H} {v0 : Nat} {v2 : Int32} {v3 : Int32} {v4 : Int32} {β : Type} {f : z_H → Option β} {Q : β → Prop} (T : x_U L π h) (kv0 : q_M L π v0) (ht : ∀ j, 0 ≤ j → j < n → vA h (v0 + 1) j = t j) (hn : vI h v0 3 = n) (n1 : n ≤ 240) (tp : ∀ j, t j ≠ -1) (a0 : vI h v0 48 = 0 → 0 ≤ vI h v0 41) (H1 : ∀ h', x_U L π h' → (vI h' v0 48 = 0) → (vI h v0 48 = 0) → ((if ¬ v4 = 0 ∧ x_lk t n (vI h v0 41) = 93 then some (vI h v0 41 + 1) else x_set t n (vI h v0 41)) = some (vI h' v0 41)) → (∀ a k, ¬ ((a = v0 ∧ k = 5) ∨ (a = v0 ∧ k = 48) ∨ (a = v0 ∧ k = 41)) → vI h' a k = vI h a k) → (∀ a, ¬ (a < a) → vA h' a = vA h a) → qi (f h') Q) (H0 : ∀ h', x_U L π h' → (¬ vI h' v0 48 = 0) → (¬ vI h v0 48 = 0 ∨ (if ¬ v4 = 0 ∧ x_lk t n (vI h v0 41) = 93 then some (vI h v0 41 + 1) else x_set t n (vI h v0 41)) = none) → (∀ a k, ¬ ((a = v0 ∧ k = 5) ∨ (a = v0 ∧ k = 48) ∨ (a = v0 ∧ k = 41)) → vI h' a k = vI h a k) → (∀ a, ¬ (a < a) → vA h' a = vA h a) → qi (f h') Q) : qi (z_b (f_Mod_set_78 N m9 v0 v2 v3 v4 h) f) Q := by
  refine qi_b (i_Mod_set_78 m9 v0 v2 v3 v4 h  T kv0 ht hn n1 tp a0) ?_
  rintro hz ⟨Tz, ⟨g0, g1, g2, g3, g4⟩ | ⟨g0, g1, g2, g3⟩⟩
  · exact H1 hz Tz g0 g1 g2 g3 g4
  · exact H0 hz Tz g0 g1 g2 g3

