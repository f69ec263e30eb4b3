set_option maxHeartbeats 2000000 in
theorem i_Pa_joinLabels_2 {L : q_L} {π : Nat → Nat → Option Nat} {N : Nat} {pg : Nat} : ∀ (m9 : Nat) (lab use : Int32 → Int32) (v0 : Nat) (v1 : Int32) (h : z_H), x_U L π h → qκ L v0 = 7 → (qκ L pg = 10) → (π v0 5 = some pg) → (v0 + 5 ≤ pg) → (x_R1 x_abc (vA h (v0 + 4)) lab) → (x_R2 h pg (vI h pg 3) use) → (0 ≤ vI h pg 3 ∧ vI h pg 3 ≤ 40) → (0 ≤ v1) → qi (f_Pa_joinLabels_2 N m9 v0 v1 h) (fun r => x_U L π r.2 ∧ ((r.1 = 1 ∧ (vI r.2 pg 3 = vI h pg 3) ∧ (x_ok lab use v1 (vI h pg 3) = true)) ∨ (r.1 = 0 ∧ (x_ok lab use v1 (vI h pg 3) = false)))) := by
  intro m9
  induction m9 with
  | zero => intro lab use v0 v1 h T kv0 kpg ppg D R1 R2 s0 v10 r e; rw [f_Pa_joinLabels_2] at e; cases e
  | succ m9 ih =>
    intro lab use v0 v1 h T kv0 kpg ppg D R1 R2 s0 v10
    rw [f_Pa_joinLabels_2]
    have s41 : vI h pg 3 ≤ 1000 := Int32.le_trans s0.2 (by decide)
    refine l_gR T ppg ?_
    refine l_gI (e := (vI h pg 3)) rfl ?_
    refine qi_if (fun cc1 => ?_) (fun cc1 => ?_)
    · skip
      refine qi_some ?_
      exact ⟨T, Or.inl ⟨rfl, (by show vI h pg 3 = vI h pg 3; first | assumption | with_reducible rfl | grind), (by show x_ok lab use v1 (vI h pg 3) = true; exact x_ok_e (Int32.not_lt.mpr (by assumption)))⟩⟩
    · skip
      refine l_gR T ppg ?_
      refine l_gR T (d_Prog_2 T kpg) ?_
      refine l_Prog_e8 T kpg ?_
      intro ij2 ik2 kc2
      have in2 := q_clp ij2 ik2
      refine l_gI (e := (vI h (pg + (9 + 6 * Int32.toNatClampNeg v1)) 3)) rfl ?_
      refine qi_if (fun cc3 => ?_) (fun cc3 => ?_)
      · skip
        unfold f_Pa_joinLabels_41
        refine l_gI (e := (vI h (pg + (9 + 6 * Int32.toNatClampNeg v1)) 8)) rfl ?_
        refine qi_if (fun cc5 => ?_) (fun cc5 => ?_)
        · skip
          refine l_gR T ppg ?_
          refine l_gI (e := (vI h pg 3)) rfl ?_
          unfold f_Pa_joinLabels_69
          refine l_sI T kc2 (by decide) rfl ?_
          intro h1i6_7 Th1i6_7 ih1i6_7 ah1i6_7
          refine l_gI (e := (vI h pg 3)) (by rw [ih1i6_7 (pg + (9 + 6 * Int32.toNatClampNeg v1)) 7, if_pos ⟨rfl, rfl⟩]) ?_
          refine qi_if (fun cc8 => ?_) (fun cc8 => ?_)
          · skip
            refine l_gR Th1i6_7 (d_Pa_0 Th1i6_7 kv0) ?_
            have kk9 := e_Pa_0 Th1i6_7 kv0
            refine l_gI (e := (vI h (pg + (9 + 6 * Int32.toNatClampNeg v1)) 4)) (by rw [ih1i6_7 (pg + (9 + 6 * Int32.toNatClampNeg v1)) 4, if_neg (fun z => absurd z.2 (by decide))]) ?_
            refine l_sI Th1i6_7 kk9 (by decide) rfl ?_
            intro h7i6_10 Th7i6_10 ih7i6_10 ah7i6_10
            refine l_gR Th7i6_10 (d_Pa_0 Th7i6_10 kv0) ?_
            refine l_gO ?_
            refine j_Cur_refuse (v0 := (v0 + 1)) (v1 := (0 : Int32)) Th7i6_10 kk9 ?_
            · intro hr10i6_11 Thr10i6_11
              try dsimp only
              refine qi_zB (fun zb12 => ?_)
              refine qi_some ?_
              exact ⟨Thr10i6_11, Or.inr ⟨rfl, (by show x_ok lab use v1 (vI h pg 3) = false; exfalso; exact x_absz v10 (Int32.not_le.mp (by assumption)) (by assumption))⟩⟩
          · skip
            refine qi_bs ?_
            refine qi_mono (ih lab use v0 (v1 + 1) h1i6_7 Th1i6_7 kv0 kpg ppg D (by show x_R1 x_abc (vA h1i6_7 (v0 + 4)) lab; rw [show vA h1i6_7 (v0 + 4) = vA h (v0 + 4) from (by rw [ah1i6_7 (v0 + 4)])] <;> (first | assumption | with_reducible rfl | grind)) (by show x_R2 h1i6_7 pg (vI h1i6_7 pg 3) use; rw [show vI h1i6_7 pg 3 = (vI h pg 3) from (by rw [ih1i6_7 pg 3, if_neg (fun z => absurd z.2 (by decide))])] <;> (exact x_R2_eq R2 (fun a => by rw [ih1i6_7 a 3, if_neg (fun z => absurd z.2 (by decide))]) (fun a => by rw [ih1i6_7 a 8, if_neg (fun z => absurd z.2 (by decide))]))) (by show 0 ≤ vI h1i6_7 pg 3 ∧ vI h1i6_7 pg 3 ≤ 40; rw [show vI h1i6_7 pg 3 = (vI h pg 3) from (by rw [ih1i6_7 pg 3, if_neg (fun z => absurd z.2 (by decide))])] <;> (first | assumption | with_reducible rfl | grind)) (by show 0 ≤ (v1 + 1); exact x_inc v10 (Int32.not_le.mp (by assumption)) (Int32.le_trans s0.2 (by decide)))) ?_
            rintro ⟨y, hrz13_14⟩ ⟨Thrz13_14, ⟨ey, g1rz13_14_0, g1rz13_14_1⟩ | ⟨ey, g0rz13_14_0⟩⟩
            · dsimp only at *
              subst ey
              rw [show vI h1i6_7 pg 3 = (vI h pg 3) from (by rw [ih1i6_7 pg 3, if_neg (fun z => absurd z.2 (by decide))])] at g1rz13_14_0
              rw [show vI h1i6_7 pg 3 = (vI h pg 3) from (by rw [ih1i6_7 pg 3, if_neg (fun z => absurd z.2 (by decide))])] at g1rz13_14_1
              exact ⟨Thrz13_14, Or.inl ⟨rfl, (by show vI hrz13_14 pg 3 = vI h pg 3; rw [show vI hrz13_14 pg 3 = (vI h pg 3) from (by rw [g1rz13_14_0])] <;> (first | assumption | with_reducible rfl | grind)), (by show x_ok lab use v1 (vI h pg 3) = true; exact (x_ok_s ⟨(Int32.not_le.mp (by assumption)), s41⟩ (Or.inl (((R2 v1 v10 (Int32.not_le.mp (by assumption))).1 (Or.inl cc3)).1.trans cc5))).trans g1rz13_14_1)⟩⟩
            · dsimp only at *
              subst ey
              rw [show vI h1i6_7 pg 3 = (vI h pg 3) from (by rw [ih1i6_7 pg 3, if_neg (fun z => absurd z.2 (by decide))])] at g0rz13_14_0
              exact ⟨Thrz13_14, Or.inr ⟨rfl, (by show x_ok lab use v1 (vI h pg 3) = false; exact (x_ok_s ⟨(Int32.not_le.mp (by assumption)), s41⟩ (Or.inl (((R2 v1 v10 (Int32.not_le.mp (by assumption))).1 (Or.inl cc3)).1.trans cc5))).trans g0rz13_14_0)⟩⟩
        · skip
          refine l_gR T (d_Pa_3 T kv0) ?_
          refine l_gI (e := (vI h (pg + (9 + 6 * Int32.toNatClampNeg v1)) 8)) rfl ?_
          refine l_aI (e := (vA h (v0 + 4) (vI h (pg + (9 + 6 * Int32.toNatClampNeg v1)) 8))) (fun _ => rfl) (fun ix15 => ?_)
          unfold f_Pa_joinLabels_69
          refine l_sI T kc2 (by decide) rfl ?_
          intro h1i16_17 Th1i16_17 ih1i16_17 ah1i16_17
          refine l_gI (e := (vA h (v0 + 4) (vI h (pg + (9 + 6 * Int32.toNatClampNeg v1)) 8))) (by rw [ih1i16_17 (pg + (9 + 6 * Int32.toNatClampNeg v1)) 7, if_pos ⟨rfl, rfl⟩]) ?_
          refine qi_if (fun cc18 => ?_) (fun cc18 => ?_)
          · skip
            refine l_gR Th1i16_17 (d_Pa_0 Th1i16_17 kv0) ?_
            have kk19 := e_Pa_0 Th1i16_17 kv0
            refine l_gI (e := (vI h (pg + (9 + 6 * Int32.toNatClampNeg v1)) 4)) (by rw [ih1i16_17 (pg + (9 + 6 * Int32.toNatClampNeg v1)) 4, if_neg (fun z => absurd z.2 (by decide))]) ?_
            refine l_sI Th1i16_17 kk19 (by decide) rfl ?_
            intro h7i16_20 Th7i16_20 ih7i16_20 ah7i16_20
            refine l_gR Th7i16_20 (d_Pa_0 Th7i16_20 kv0) ?_
            refine l_gO ?_
            refine j_Cur_refuse (v0 := (v0 + 1)) (v1 := (0 : Int32)) Th7i16_20 kk19 ?_
            · intro hr10i16_21 Thr10i16_21
              try dsimp only
              refine qi_zB (fun zb22 => ?_)
              refine qi_some ?_
              exact ⟨Thr10i16_21, Or.inr ⟨rfl, (by show x_ok lab use v1 (vI h pg 3) = false; exact x_ok_f ⟨(Int32.not_le.mp (by assumption)), s41⟩ (x_jf ((R2 v1 v10 (Int32.not_le.mp (by assumption))).1 (Or.inl cc3)) R1 cc5 (by assumption)))⟩⟩
          · skip
            refine qi_bs ?_
            refine qi_mono (ih lab use v0 (v1 + 1) h1i16_17 Th1i16_17 kv0 kpg ppg D (by show x_R1 x_abc (vA h1i16_17 (v0 + 4)) lab; rw [show vA h1i16_17 (v0 + 4) = vA h (v0 + 4) from (by rw [ah1i16_17 (v0 + 4)])] <;> (first | assumption | with_reducible rfl | grind)) (by show x_R2 h1i16_17 pg (vI h1i16_17 pg 3) use; rw [show vI h1i16_17 pg 3 = (vI h pg 3) from (by rw [ih1i16_17 pg 3, if_neg (fun z => absurd z.2 (by decide))])] <;> (exact x_R2_eq R2 (fun a => by rw [ih1i16_17 a 3, if_neg (fun z => absurd z.2 (by decide))]) (fun a => by rw [ih1i16_17 a 8, if_neg (fun z => absurd z.2 (by decide))]))) (by show 0 ≤ vI h1i16_17 pg 3 ∧ vI h1i16_17 pg 3 ≤ 40; rw [show vI h1i16_17 pg 3 = (vI h pg 3) from (by rw [ih1i16_17 pg 3, if_neg (fun z => absurd z.2 (by decide))])] <;> (first | assumption | with_reducible rfl | grind)) (by show 0 ≤ (v1 + 1); exact x_inc v10 (Int32.not_le.mp (by assumption)) (Int32.le_trans s0.2 (by decide)))) ?_
            rintro ⟨y, hrz23_24⟩ ⟨Thrz23_24, ⟨ey, g1rz23_24_0, g1rz23_24_1⟩ | ⟨ey, g0rz23_24_0⟩⟩
            · dsimp only at *
              subst ey
              rw [show vI h1i16_17 pg 3 = (vI h pg 3) from (by rw [ih1i16_17 pg 3, if_neg (fun z => absurd z.2 (by decide))])] at g1rz23_24_0
              rw [show vI h1i16_17 pg 3 = (vI h pg 3) from (by rw [ih1i16_17 pg 3, if_neg (fun z => absurd z.2 (by decide))])] at g1rz23_24_1
              exact ⟨Thrz23_24, Or.inl ⟨rfl, (by show vI hrz23_24 pg 3 = vI h pg 3; rw [show vI hrz23_24 pg 3 = (vI h pg 3) from (by rw [g1rz23_24_0])] <;> (first | assumption | with_reducible rfl | grind)), (by show x_ok lab use v1 (vI h pg 3) = true; exact (x_ok_s ⟨(Int32.not_le.mp (by assumption)), s41⟩ (x_jt ((R2 v1 v10 (Int32.not_le.mp (by assumption))).1 (Or.inl cc3)) R1 cc5 (by assumption))).trans g1rz23_24_1)⟩⟩
            · dsimp only at *
              subst ey
              rw [show vI h1i16_17 pg 3 = (vI h pg 3) from (by rw [ih1i16_17 pg 3, if_neg (fun z => absurd z.2 (by decide))])] at g0rz23_24_0
              exact ⟨Thrz23_24, Or.inr ⟨rfl, (by show x_ok lab use v1 (vI h pg 3) = false; exact (x_ok_s ⟨(Int32.not_le.mp (by assumption)), s41⟩ (x_jt ((R2 v1 v10 (Int32.not_le.mp (by assumption))).1 (Or.inl cc3)) R1 cc5 (by assumption))).trans g0rz23_24_0)⟩⟩
      · skip
        refine l_gI (e := (vI h (pg + (9 + 6 * Int32.toNatClampNeg v1)) 3)) rfl ?_
        refine qi_if (fun cc25 => ?_) (fun cc25 => ?_)
        · skip
          unfold f_Pa_joinLabels_41
          refine l_gI (e := (vI h (pg + (9 + 6 * Int32.toNatClampNeg v1)) 8)) rfl ?_
          refine qi_if (fun cc27 => ?_) (fun cc27 => ?_)
          · skip
            refine l_gR T ppg ?_
            refine l_gI (e := (vI h pg 3)) rfl ?_
            unfold f_Pa_joinLabels_69
            refine l_sI T kc2 (by decide) rfl ?_
            intro h1i28_29 Th1i28_29 ih1i28_29 ah1i28_29
            refine l_gI (e := (vI h pg 3)) (by rw [ih1i28_29 (pg + (9 + 6 * Int32.toNatClampNeg v1)) 7, if_pos ⟨rfl, rfl⟩]) ?_
            refine qi_if (fun cc30 => ?_) (fun cc30 => ?_)
            · skip
              refine l_gR Th1i28_29 (d_Pa_0 Th1i28_29 kv0) ?_
              have kk31 := e_Pa_0 Th1i28_29 kv0
              refine l_gI (e := (vI h (pg + (9 + 6 * Int32.toNatClampNeg v1)) 4)) (by rw [ih1i28_29 (pg + (9 + 6 * Int32.toNatClampNeg v1)) 4, if_neg (fun z => absurd z.2 (by decide))]) ?_
              refine l_sI Th1i28_29 kk31 (by decide) rfl ?_
              intro h7i28_32 Th7i28_32 ih7i28_32 ah7i28_32
              refine l_gR Th7i28_32 (d_Pa_0 Th7i28_32 kv0) ?_
              refine l_gO ?_
              refine j_Cur_refuse (v0 := (v0 + 1)) (v1 := (0 : Int32)) Th7i28_32 kk31 ?_
              · intro hr10i28_33 Thr10i28_33
                try dsimp only
                refine qi_zB (fun zb34 => ?_)
                refine qi_some ?_
                exact ⟨Thr10i28_33, Or.inr ⟨rfl, (by show x_ok lab use v1 (vI h pg 3) = false; exfalso; exact x_absz v10 (Int32.not_le.mp (by assumption)) (by assumption))⟩⟩
            · skip
              refine qi_bs ?_
              refine qi_mono (ih lab use v0 (v1 + 1) h1i28_29 Th1i28_29 kv0 kpg ppg D (by show x_R1 x_abc (vA h1i28_29 (v0 + 4)) lab; rw [show vA h1i28_29 (v0 + 4) = vA h (v0 + 4) from (by rw [ah1i28_29 (v0 + 4)])] <;> (first | assumption | with_reducible rfl | grind)) (by show x_R2 h1i28_29 pg (vI h1i28_29 pg 3) use; rw [show vI h1i28_29 pg 3 = (vI h pg 3) from (by rw [ih1i28_29 pg 3, if_neg (fun z => absurd z.2 (by decide))])] <;> (exact x_R2_eq R2 (fun a => by rw [ih1i28_29 a 3, if_neg (fun z => absurd z.2 (by decide))]) (fun a => by rw [ih1i28_29 a 8, if_neg (fun z => absurd z.2 (by decide))]))) (by show 0 ≤ vI h1i28_29 pg 3 ∧ vI h1i28_29 pg 3 ≤ 40; rw [show vI h1i28_29 pg 3 = (vI h pg 3) from (by rw [ih1i28_29 pg 3, if_neg (fun z => absurd z.2 (by decide))])] <;> (first | assumption | with_reducible rfl | grind)) (by show 0 ≤ (v1 + 1); exact x_inc v10 (Int32.not_le.mp (by assumption)) (Int32.le_trans s0.2 (by decide)))) ?_
              rintro ⟨y, hrz35_36⟩ ⟨Thrz35_36, ⟨ey, g1rz35_36_0, g1rz35_36_1⟩ | ⟨ey, g0rz35_36_0⟩⟩
              · dsimp only at *
                subst ey
                rw [show vI h1i28_29 pg 3 = (vI h pg 3) from (by rw [ih1i28_29 pg 3, if_neg (fun z => absurd z.2 (by decide))])] at g1rz35_36_0
                rw [show vI h1i28_29 pg 3 = (vI h pg 3) from (by rw [ih1i28_29 pg 3, if_neg (fun z => absurd z.2 (by decide))])] at g1rz35_36_1
                exact ⟨Thrz35_36, Or.inl ⟨rfl, (by show vI hrz35_36 pg 3 = vI h pg 3; rw [show vI hrz35_36 pg 3 = (vI h pg 3) from (by rw [g1rz35_36_0])] <;> (first | assumption | with_reducible rfl | grind)), (by show x_ok lab use v1 (vI h pg 3) = true; exact (x_ok_s ⟨(Int32.not_le.mp (by assumption)), s41⟩ (Or.inl (((R2 v1 v10 (Int32.not_le.mp (by assumption))).1 (Or.inr cc25)).1.trans cc27))).trans g1rz35_36_1)⟩⟩
              · dsimp only at *
                subst ey
                rw [show vI h1i28_29 pg 3 = (vI h pg 3) from (by rw [ih1i28_29 pg 3, if_neg (fun z => absurd z.2 (by decide))])] at g0rz35_36_0
                exact ⟨Thrz35_36, Or.inr ⟨rfl, (by show x_ok lab use v1 (vI h pg 3) = false; exact (x_ok_s ⟨(Int32.not_le.mp (by assumption)), s41⟩ (Or.inl (((R2 v1 v10 (Int32.not_le.mp (by assumption))).1 (Or.inr cc25)).1.trans cc27))).trans g0rz35_36_0)⟩⟩
          · skip
            refine l_gR T (d_Pa_3 T kv0) ?_
            refine l_gI (e := (vI h (pg + (9 + 6 * Int32.toNatClampNeg v1)) 8)) rfl ?_
            refine l_aI (e := (vA h (v0 + 4) (vI h (pg + (9 + 6 * Int32.toNatClampNeg v1)) 8))) (fun _ => rfl) (fun ix37 => ?_)
            unfold f_Pa_joinLabels_69
            refine l_sI T kc2 (by decide) rfl ?_
            intro h1i38_39 Th1i38_39 ih1i38_39 ah1i38_39
            refine l_gI (e := (vA h (v0 + 4) (vI h (pg + (9 + 6 * Int32.toNatClampNeg v1)) 8))) (by rw [ih1i38_39 (pg + (9 + 6 * Int32.toNatClampNeg v1)) 7, if_pos ⟨rfl, rfl⟩]) ?_
            refine qi_if (fun cc40 => ?_) (fun cc40 => ?_)
            · skip
              refine l_gR Th1i38_39 (d_Pa_0 Th1i38_39 kv0) ?_
              have kk41 := e_Pa_0 Th1i38_39 kv0
              refine l_gI (e := (vI h (pg + (9 + 6 * Int32.toNatClampNeg v1)) 4)) (by rw [ih1i38_39 (pg + (9 + 6 * Int32.toNatClampNeg v1)) 4, if_neg (fun z => absurd z.2 (by decide))]) ?_
              refine l_sI Th1i38_39 kk41 (by decide) rfl ?_
              intro h7i38_42 Th7i38_42 ih7i38_42 ah7i38_42
              refine l_gR Th7i38_42 (d_Pa_0 Th7i38_42 kv0) ?_
              refine l_gO ?_
              refine j_Cur_refuse (v0 := (v0 + 1)) (v1 := (0 : Int32)) Th7i38_42 kk41 ?_
              · intro hr10i38_43 Thr10i38_43
                try dsimp only
                refine qi_zB (fun zb44 => ?_)
                refine qi_some ?_
                exact ⟨Thr10i38_43, Or.inr ⟨rfl, (by show x_ok lab use v1 (vI h pg 3) = false; exact x_ok_f ⟨(Int32.not_le.mp (by assumption)), s41⟩ (x_jf ((R2 v1 v10 (Int32.not_le.mp (by assumption))).1 (Or.inr cc25)) R1 cc27 (by assumption)))⟩⟩
            · skip
              refine qi_bs ?_
              refine qi_mono (ih lab use v0 (v1 + 1) h1i38_39 Th1i38_39 kv0 kpg ppg D (by show x_R1 x_abc (vA h1i38_39 (v0 + 4)) lab; rw [show vA h1i38_39 (v0 + 4) = vA h (v0 + 4) from (by rw [ah1i38_39 (v0 + 4)])] <;> (first | assumption | with_reducible rfl | grind)) (by show x_R2 h1i38_39 pg (vI h1i38_39 pg 3) use; rw [show vI h1i38_39 pg 3 = (vI h pg 3) from (by rw [ih1i38_39 pg 3, if_neg (fun z => absurd z.2 (by decide))])] <;> (exact x_R2_eq R2 (fun a => by rw [ih1i38_39 a 3, if_neg (fun z => absurd z.2 (by decide))]) (fun a => by rw [ih1i38_39 a 8, if_neg (fun z => absurd z.2 (by decide))]))) (by show 0 ≤ vI h1i38_39 pg 3 ∧ vI h1i38_39 pg 3 ≤ 40; rw [show vI h1i38_39 pg 3 = (vI h pg 3) from (by rw [ih1i38_39 pg 3, if_neg (fun z => absurd z.2 (by decide))])] <;> (first | assumption | with_reducible rfl | grind)) (by show 0 ≤ (v1 + 1); exact x_inc v10 (Int32.not_le.mp (by assumption)) (Int32.le_trans s0.2 (by decide)))) ?_
              rintro ⟨y, hrz45_46⟩ ⟨Thrz45_46, ⟨ey, g1rz45_46_0, g1rz45_46_1⟩ | ⟨ey, g0rz45_46_0⟩⟩
              · dsimp only at *
                subst ey
                rw [show vI h1i38_39 pg 3 = (vI h pg 3) from (by rw [ih1i38_39 pg 3, if_neg (fun z => absurd z.2 (by decide))])] at g1rz45_46_0
                rw [show vI h1i38_39 pg 3 = (vI h pg 3) from (by rw [ih1i38_39 pg 3, if_neg (fun z => absurd z.2 (by decide))])] at g1rz45_46_1
                exact ⟨Thrz45_46, Or.inl ⟨rfl, (by show vI hrz45_46 pg 3 = vI h pg 3; rw [show vI hrz45_46 pg 3 = (vI h pg 3) from (by rw [g1rz45_46_0])] <;> (first | assumption | with_reducible rfl | grind)), (by show x_ok lab use v1 (vI h pg 3) = true; exact (x_ok_s ⟨(Int32.not_le.mp (by assumption)), s41⟩ (x_jt ((R2 v1 v10 (Int32.not_le.mp (by assumption))).1 (Or.inr cc25)) R1 cc27 (by assumption))).trans g1rz45_46_1)⟩⟩
              · dsimp only at *
                subst ey
                rw [show vI h1i38_39 pg 3 = (vI h pg 3) from (by rw [ih1i38_39 pg 3, if_neg (fun z => absurd z.2 (by decide))])] at g0rz45_46_0
                exact ⟨Thrz45_46, Or.inr ⟨rfl, (by show x_ok lab use v1 (vI h pg 3) = false; exact (x_ok_s ⟨(Int32.not_le.mp (by assumption)), s41⟩ (x_jt ((R2 v1 v10 (Int32.not_le.mp (by assumption))).1 (Or.inr cc25)) R1 cc27 (by assumption))).trans g0rz45_46_0)⟩⟩
        · skip
          refine qi_bs ?_
          refine qi_mono (ih lab use v0 (v1 + 1) h T kv0 kpg ppg D R1 R2 s0 (by show 0 ≤ (v1 + 1); exact x_inc v10 (Int32.not_le.mp (by assumption)) (Int32.le_trans s0.2 (by decide)))) ?_
          rintro ⟨y, hrz47_48⟩ ⟨Thrz47_48, ⟨ey, g1rz47_48_0, g1rz47_48_1⟩ | ⟨ey, g0rz47_48_0⟩⟩
          · dsimp only at *
            subst ey
            exact ⟨Thrz47_48, Or.inl ⟨rfl, (by show vI hrz47_48 pg 3 = vI h pg 3; rw [show vI hrz47_48 pg 3 = (vI h pg 3) from (by rw [g1rz47_48_0])] <;> (first | assumption | with_reducible rfl | grind)), (by show x_ok lab use v1 (vI h pg 3) = true; exact (x_ok_s ⟨(Int32.not_le.mp (by assumption)), s41⟩ (Or.inl ((R2 v1 v10 (Int32.not_le.mp (by assumption))).2 (fun z => z.elim (by assumption) (by assumption))))).trans g1rz47_48_1)⟩⟩
          · dsimp only at *
            subst ey
            exact ⟨Thrz47_48, Or.inr ⟨rfl, (by show x_ok lab use v1 (vI h pg 3) = false; exact (x_ok_s ⟨(Int32.not_le.mp (by assumption)), s41⟩ (Or.inl ((R2 v1 v10 (Int32.not_le.mp (by assumption))).2 (fun z => z.elim (by assumption) (by assumption))))).trans g0rz47_48_0)⟩⟩
theorem j_Pa_joinLabels_2 {L : q_L} {π : Nat → Nat → Option Nat} {N : Nat} {pg : Nat} {lab use : Int32 → Int32} {m9 : Nat} {h : z_H} {v0 : Nat} {v1 : Int32} {β : Type} {f : Int32 × z_H → Option β} {Q : β → Prop} (T : x_U L π h) (kv0 : qκ L v0 = 7) (kpg : qκ L pg = 10) (ppg : π v0 5 = some pg) (D : v0 + 5 ≤ pg) (R1 : x_R1 x_abc (vA h (v0 + 4)) lab) (R2 : x_R2 h pg (vI h pg 3) use) (s0 : 0 ≤ vI h pg 3 ∧ vI h pg 3 ≤ 40) (v10 : 0 ≤ v1) (H1 : ∀ h', x_U L π h' → (vI h' pg 3 = vI h pg 3) → (x_ok lab use v1 (vI h pg 3) = true) → qi (f (1, h')) Q) (H0 : ∀ h', x_U L π h' → (x_ok lab use v1 (vI h pg 3) = false) → qi (f (0, h')) Q) : qi (z_b (f_Pa_joinLabels_2 N m9 v0 v1 h) f) Q := by
  refine qi_b (i_Pa_joinLabels_2 m9 lab use v0 v1 h  T kv0 kpg ppg D R1 R2 s0 v10) ?_
  rintro ⟨y, hz⟩ ⟨Tz, ⟨ey, g0, g1⟩ | ⟨ey, g0⟩⟩
  · dsimp only at *; subst ey; exact H1 hz Tz g0 g1
  · dsimp only at *; subst ey; exact H0 hz Tz g0

set_option maxHeartbeats 2000000 in
theorem i_Pa_joinLabels {L : q_L} {π : Nat → Nat → Option Nat} {N : Nat} {pg : Nat} {lab use : Int32 → Int32} {h : z_H} {v0 : Nat} (T : x_U L π h) (kv0 : qκ L v0 = 7) (kpg : qκ L pg = 10) (ppg : π v0 5 = some pg) (D : v0 + 5 ≤ pg) (R1 : x_R1 x_abc (vA h (v0 + 4)) lab) (R2 : x_R2 h pg (vI h pg 3) use) (s0 : 0 ≤ vI h pg 3 ∧ vI h pg 3 ≤ 40) : qi (f_Pa_joinLabels N v0 h) (fun r => x_U L π r.2 ∧ ((r.1 = 1 ∧ (vI r.2 pg 3 = vI h pg 3) ∧ (x_ok lab use 0 (vI h pg 3) = true)) ∨ (r.1 = 0 ∧ (x_ok lab use 0 (vI h pg 3) = false)))) := by
  unfold f_Pa_joinLabels
  refine qi_tailp ?_
  refine j_Pa_joinLabels_2 (v0 := v0) (v1 := (0 : Int32)) (pg := pg) (lab := lab) (use := use) T kv0 kpg ppg D R1 R2 s0 (by show 0 ≤ (0 : Int32); decide) ?_ ?_
  · intro hrz1_2 Thrz1_2 g1rz1_2_0 g1rz1_2_1
    try dsimp only
    refine qi_some ?_
    exact ⟨Thrz1_2, Or.inl ⟨rfl, (by show vI hrz1_2 pg 3 = vI h pg 3; rw [show vI hrz1_2 pg 3 = (vI h pg 3) from (by rw [g1rz1_2_0])] <;> (first | assumption | with_reducible rfl | grind)), g1rz1_2_1⟩⟩
  · intro hrz1_2 Thrz1_2 g0rz1_2_0
    try dsimp only
    refine qi_some ?_
    exact ⟨Thrz1_2, Or.inr ⟨rfl, g0rz1_2_0⟩⟩
theorem j_Pa_joinLabels {L : q_L} {π : Nat → Nat → Option Nat} {N : Nat} {pg : Nat} {lab use : Int32 → Int32} {h : z_H} {v0 : Nat} {β : Type} {f : Int32 × z_H → Option β} {Q : β → Prop} (T : x_U L π h) (kv0 : qκ L v0 = 7) (kpg : qκ L pg = 10) (ppg : π v0 5 = some pg) (D : v0 + 5 ≤ pg) (R1 : x_R1 x_abc (vA h (v0 + 4)) lab) (R2 : x_R2 h pg (vI h pg 3) use) (s0 : 0 ≤ vI h pg 3 ∧ vI h pg 3 ≤ 40) (H1 : ∀ h', x_U L π h' → (vI h' pg 3 = vI h pg 3) → (x_ok lab use 0 (vI h pg 3) = true) → qi (f (1, h')) Q) (H0 : ∀ h', x_U L π h' → (x_ok lab use 0 (vI h pg 3) = false) → qi (f (0, h')) Q) : qi (z_b (f_Pa_joinLabels N v0 h) f) Q := by
  refine qi_b (i_Pa_joinLabels  T kv0 kpg ppg D R1 R2 s0) ?_
  rintro ⟨y, hz⟩ ⟨Tz, ⟨ey, g0, g1⟩ | ⟨ey, g0⟩⟩
  · dsimp only at *; subst ey; exact H1 hz Tz g0 g1
  · dsimp only at *; subst ey; exact H0 hz Tz g0

