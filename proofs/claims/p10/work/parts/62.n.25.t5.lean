/-! the editor of the class: rows copied, joined, swapped, numbers -/
section YC
variable {L : q_L} {e pg sf ln : Nat} {π : Nat → Nat → Option Nat} {N : Nat} {h h0 : z_H} {sp ho dr : Nat} {O S H A : List Int32} {LN : Int32 → List Int32} {lc : Int32}
theorem y_cp {o r : Nat} {X : List Int32} (T : x_U L π h) (kr : qκ L r = 11 ∧ qhi L r 1 = 60) (ko : qκ L o = 11) (D : r + 1 < o ∨ o + 1 < r) (ro : y_R1 h o 60 X) : qi (f_Ed_copy N e o r h) (fun h' => x_U L π h' ∧ (∀ b, b ≠ r → b ≠ r + 1 → h' b = h b) ∧ y_R1 h' r 60 X) := by
  unfold f_Ed_copy
  refine l_gO (qi_b (y_em (N := N) T kr.1) ?_)
  rintro h1 ⟨T1, f1, i1, w1⟩
  have ro1 : y_R1 h1 o 60 X := y_R1_c ro (f1 o (by omega)) (f1 (o + 1) (by omega))
  have m0 := ro1.2.1.1
  have m1 := ro1.2.1.2
  refine l_gI (e := vI h1 o 1) rfl (l_gO (qi_b (y_ap (N := N) T1 kr.1 ko D (Int32.le_refl 0) ro1.2.1.1 (Int32.le_refl _) (by lia) (by rw [i1]; decide) (by rw [i1, kr.2]; decide) (by rw [i1, kr.2]; lia) (by rw [kr.2]; decide) (by rw [ro1.1]; exact ro1.2.2)) ?_))
  rintro h2 ⟨T2, f2, i2, w2⟩
  refine qi_some ⟨T2, fun b b1 b2 => (f2 b b1 b2).trans (f1 b b1), ?_, ?_, ro.2.2⟩
  · rw [w2, w1, List.nil_append]; exact ro1.1
  · rw [i2, i1]; constructor <;> lia
theorem y_jn {o r : Nat} {X R : List Int32} (T : x_U L π h) (kr : qκ L r = 11 ∧ qhi L r 1 = 60) (ko : qκ L o = 11) (D : r + 1 < o ∨ o + 1 < r) (ro : y_R1 h o 60 X) (rr : y_R1 h r 60 R) : qi (f_Ed_join N e o r h) (fun y => (y.1 = .inl () ∧ R.length + X.length + 1 ≤ 60 ∧ x_U L π y.2 ∧ (∀ b, b ≠ r → b ≠ r + 1 → y.2 b = h b) ∧ y_R1 y.2 r 60 (R ++ [10] ++ X)) ∨ (y.1 = .inr xE3 ∧ ¬ R.length + X.length + 1 ≤ 60 ∧ y.2 = h)) := by
  have m0 := ro.2.1.1
  have m1 := ro.2.1.2
  have k0 := rr.2.1.1
  have k1 := rr.2.1.2
  have RM := x_rm (a := 0) k0 k1 (by decide : (60 : Int32) ≤ 1000) (Int32.le_refl 0) m0 (by lia)
  rw [← y_R1_len rr, ← y_R1_len ro, show x_ct 0 60 = 60 from by decide, show vI h o 1 - 0 + 1 = 1 + vI h o 1 from by grind] at RM
  unfold f_Ed_join
  refine l_gI (e := vI h o 1) rfl (l_gO (qi_b (y_hr (N := N) T kr.1) ?_))
  rintro ⟨y, h1⟩ ⟨e1, q⟩
  dsimp only at e1 q ⊢
  subst e1
  rw [kr.2] at q
  rcases q with ⟨q1, q2⟩ | ⟨q1, q2⟩
  · rw [q1, if_neg (by decide)]
    refine l_gO (qi_b (y_ad (N := N) (c := 10) T kr.1 (by decide) k0 (by rw [kr.2]; lia) (by lia)) ?_)
    rintro h2 ⟨T2, f2, i2, w2⟩
    have ro2 : y_R1 h2 o 60 X := y_R1_c ro (f2 o (by omega) (by omega)) (f2 (o + 1) (by omega) (by omega))
    have eo : vI h2 o 1 = vI h1 o 1 := x_vI_c (f2 o (by omega) (by omega))
    refine l_gI (e := vI h1 o 1) eo (l_gO (qi_b (y_ap (N := N) (v3 := vI h1 o 1) T2 kr.1 ko D (Int32.le_refl 0) m0 (by rw [eo]; exact Int32.le_refl _) (by rw [eo]; lia) (by rw [i2]; lia) (by rw [i2, kr.2]; lia) (by rw [i2, kr.2]; lia) (by rw [kr.2]; decide) (by rw [ro2.1]; exact ro2.2.2)) ?_))
    rintro h3 ⟨T3, f3, i3, w3⟩
    refine qi_some (Or.inl ⟨rfl, RM.mp q2, T3, fun b b1 b2 => (f3 b b1 b2).trans (f2 b b1 b2), ?_, ?_, x_kt_a (x_kt_a rr.2.2 (x_kt_1 x_kc10)) ro.2.2⟩)
    · show x_rw h3 r = _
      have z := ro2.1
      unfold x_rw at z
      rw [eo] at z
      rw [w3, w2, rr.1, z]
    · show 0 ≤ vI h3 r 1 ∧ vI h3 r 1 ≤ 60
      rw [i3, i2]; constructor <;> lia
  · rw [q1, if_pos rfl]
    exact qi_some (Or.inr ⟨rfl, fun z => absurd (RM.mpr z) (Int32.not_le.mpr q2), rfl⟩)
theorem y_sw (ly : y_L L e) (s : y_S L e pg ln π h sp ho dr O S H A) : qi (f_Ed_swap N e h) (fun r => ∃ π', y_S L e pg ln π' r ho sp dr O H S A ∧ y_F e h r ∧ ∀ k, vI r e k = vI h e k) := by
  obtain ⟨⟨T, p1, p2, p3, p4, p5⟩, d, a1, a2, a3, a4, a5⟩ := id s
  obtain ⟨d1, d2, d3, d4, d5, d6⟩ := d
  unfold f_Ed_swap
  refine l_gR T p1 (l_gR T p2 (l_Ed_1 T ly.1 ?_))
  intro π1 h1 T1 e1 c1 i1
  refine l_Ed_2 T1 ly.1 ?_
  intro π2 h2 T2 e2 c2 i2
  have c : ∀ b, b ≠ e → h2 b = h b := fun b hb => (c2 b hb).trans (c1 b hb)
  refine qi_some ⟨π2, ⟨⟨T2, ?_, ?_, ?_, ?_, ?_⟩, ⟨d2, d1, d3, fun z => d4 z.symm, d6, d5⟩, y_R1_c a1 (c _ (by omega)) (c _ (by omega)), y_R1_c a3 (c _ (by omega)) (c _ (by omega)), y_R1_c a2 (c _ (by omega)) (c _ (by omega)), y_R1_c a4 (c _ (by omega)) (c _ (by omega)), ?_⟩, fun a ha => c a (by omega), fun k => by rw [i2 k, i1 k]⟩
  · rw [e2, if_neg (by omega), e1, if_pos ⟨rfl, rfl⟩]
  · rw [e2, if_pos ⟨rfl, rfl⟩]
  · rw [e2, if_neg (by omega), e1, if_neg (by omega)]; exact p3
  · rw [e2, if_neg (by omega), e1, if_neg (by omega)]; exact p4
  · rw [e2, if_neg (by omega), e1, if_neg (by omega)]; exact p5
  · rw [x_vI_c (c dr (by omega))]; exact a5
/-- a number as a text -/
def x_nm (n : Int32) : List Int32 := if n < 10 then [48 + (n - n / 10 * 10)] else [48 + (n / 10), 48 + (n - n / 10 * 10)]
theorem x_nm_k {n : Int32} (n0 : 0 ≤ n) (n1 : n ≤ 12) : (0 ≤ 48 + n / 10 ∧ 48 + n / 10 ≤ 255) ∧ (0 ≤ 48 + (n - n / 10 * 10) ∧ 48 + (n - n / 10 * 10) ≤ 255) ∧ x_kc (48 + n / 10) ∧ x_kc (48 + (n - n / 10 * 10)) := by
  have q : n = 0 ∨ n = 1 ∨ n = 2 ∨ n = 3 ∨ n = 4 ∨ n = 5 ∨ n = 6 ∨ n = 7 ∨ n = 8 ∨ n = 9 ∨ n = 10 ∨ n = 11 ∨ n = 12 := by lia
  unfold x_kc
  rcases q with q | q | q | q | q | q | q | q | q | q | q | q | q <;> subst q <;> decide
set_option maxHeartbeats 1000000 in
theorem y_tN (ly : y_L L e) (s : y_S L e pg ln π h sp ho dr O S H A) (r0 : 0 ≤ vI h e 3) (r1 : vI h e 3 ≤ 12) : qi (f_Ed_tellNumber N e h) (fun r => y_F e h r.2 ∧ (∀ k, vI r.2 e k = vI h e k) ∧ ((r.1 = .inl () ∧ O.length + (x_nm (vI h e 3)).length + 1 ≤ 600 ∧ y_S L e pg ln π r.2 sp ho dr (O ++ x_nm (vI h e 3) ++ [10]) S H A) ∨ (r.1 = .inr xE3 ∧ ¬ O.length + (x_nm (vI h e 3)).length + 1 ≤ 600 ∧ y_S L e pg ln π r.2 sp ho dr O S H A))) := by
  obtain ⟨⟨T, p1, p2, p3, p4, p5⟩, d, a1, a2, a3, a4, a5⟩ := id s
  have d' := d
  obtain ⟨d1, d2, d3, d4, d5, d6⟩ := d'
  have kd := y_kr ly d3
  have nk := x_nm_k r0 r1
  have TAIL : ∀ (h1 : z_H) (X : List Int32), y_S L e pg ln π h1 sp ho dr O S H A → y_F e h h1 → (∀ k, vI h1 e k = vI h e k) → y_R1 h1 dr 10 X → vI h1 dr 1 ≤ 1 → X ++ [48 + (vI h e 3 - vI h e 3 / 10 * 10)] = x_nm (vI h e 3) → qi (f_Ed_tellNumber_33 N e h1) (fun r => y_F e h r.2 ∧ (∀ k, vI r.2 e k = vI h e k) ∧ ((r.1 = .inl () ∧ O.length + (x_nm (vI h e 3)).length + 1 ≤ 600 ∧ y_S L e pg ln π r.2 sp ho dr (O ++ x_nm (vI h e 3) ++ [10]) S H A) ∨ (r.1 = .inr xE3 ∧ ¬ O.length + (x_nm (vI h e 3)).length + 1 ≤ 600 ∧ y_S L e pg ln π r.2 sp ho dr O S H A))) := by
    intro h1 X s1 F1 I1 rx l1 eX
    have T1 := s1.1.1
    have z0 := rx.2.1.1
    unfold f_Ed_tellNumber_33
    refine l_gR T1 p3 (l_gI (e := vI h e 3) (I1 3) (l_gO (qi_b (y_ad (N := N) T1 kd.1 nk.2.1 z0 (by rw [kd.2]; lia) (by lia)) ?_)))
    rintro h2 ⟨T2, f2, i2, w2⟩
    have s2 : y_S L e pg ln π h2 sp ho dr O S H A := y_S_D s1 T2 f2 (by rw [i2]; constructor <;> lia)
    have rd2 : y_R1 h2 dr 60 (x_nm (vI h e 3)) := by
      refine ⟨by rw [w2, rx.1, eX], by rw [i2]; constructor <;> lia, ?_⟩
      rw [← eX]
      exact x_kt_a rx.2.2 (x_kt_1 nk.2.2.2)
    have F2 : y_F e h h2 := fun a ha => (f2 a (by omega) (by omega)).trans (F1 a ha)
    have I2 : ∀ k, vI h2 e k = vI h e k := fun k => by rw [x_vI_c (f2 e (by omega) (by omega)), I1 k]
    have TR := y_tR (N := N) (o := dr) (v2 := 0) (v3 := vI h2 dr 1) ly s2 kd.1 (by omega) rd2 (by decide) (Int32.le_refl 0) rd2.2.1.1 (Int32.le_refl _)
    rw [← y_R1_len rd2, show x_sl (vA h2 (dr + 1)) 0 (vI h2 dr 1) = x_nm (vI h e 3) from rd2.1] at TR
    refine l_gR T2 p3 (l_gR T2 p3 (l_gI (e := vI h2 dr 1) rfl (l_gO (qi_b TR ?_))))
    rintro ⟨y, h3⟩ (⟨q1, q2, s3, F3, I3⟩ | ⟨q1, q2, q3⟩)
    · dsimp only at q1 s3 F3 I3 ⊢
      refine qi_zx (fun x _ => ?_) (fun E eE => by rw [q1] at eE; cases eE)
      exact qi_some ⟨y_F_t F2 F3, fun k => by rw [I3 k, I2 k], Or.inl ⟨rfl, q2, s3⟩⟩
    · dsimp only at q1 q3 ⊢
      refine qi_zx (fun x ex => by rw [q1] at ex; cases ex) (fun E eE => ?_)
      rw [q1] at eE
      cases eE
      rw [q3]
      exact ⟨F2, I2, Or.inr ⟨rfl, q2, s2⟩⟩
  unfold f_Ed_tellNumber
  refine l_gR T p3 (l_gO (qi_b (y_em (N := N) T kd.1) ?_))
  rintro h1 ⟨T1, f1, i1, w1⟩
  have s1 : y_S L e pg ln π h1 sp ho dr O S H A := y_S_D s T1 (fun b b1 _ => f1 b b1) (by rw [i1]; decide)
  have F1 : y_F e h h1 := fun a ha => f1 a (by omega)
  have I1 : ∀ k, vI h1 e k = vI h e k := fun k => x_vI_c (f1 e (by omega))
  refine l_gI (e := vI h e 3) (I1 3) ?_
  refine qi_if (fun c => ?_) (fun c => ?_)
  · refine TAIL h1 [] s1 F1 I1 ⟨w1, by rw [i1]; decide, x_kt_0⟩ (by rw [i1]; decide) ?_
    unfold x_nm
    rw [if_pos c, List.nil_append]
  · refine l_gR T1 p3 (l_gI (e := vI h e 3) (I1 3) (l_gO (qi_b (y_ad (N := N) T1 kd.1 nk.1 (by rw [i1]; decide) (by rw [i1, kd.2]; decide) (by rw [i1]; decide)) ?_)))
    rintro h2 ⟨T2, f2, i2, w2⟩
    have e2 : vI h2 dr 1 = 1 := by rw [i2, i1]; rfl
    refine TAIL h2 [48 + vI h e 3 / 10] (y_S_D s1 T2 f2 (by rw [e2]; decide)) (fun a ha => (f2 a (by omega) (by omega)).trans (F1 a ha)) (fun k => by rw [x_vI_c (f2 e (by omega) (by omega)), I1 k]) ⟨by rw [w2, w1, List.nil_append], by rw [e2]; decide, x_kt_1 nk.2.2.1⟩ (by rw [e2]; decide) ?_
    unfold x_nm
    rw [if_neg c]
    rfl
/-- a text is appended -/
theorem y_ap8 {c : Nat} {tf tt : Int32} {TX : List Int32} (hpg : e + 16 ≤ pg) (hc : pg + 9 ≤ c) (ly : y_L L e) (kp : qκ L pg = 10) (s : y_S L e pg ln π h sp ho dr O S H A) (rt : y_R1 h (pg + 1) 240 TX) (htf : vI h c 9 = tf) (htt : vI h c 10 = tt) (b0 : 0 ≤ tf) (b1 : tf ≤ tt) (b2 : tt ≤ vI h (pg + 1) 1) : qi (f_Ed_append N e c h) (fun r => (∀ k, vI r.2 e k = vI h e k) ∧ y_F e h r.2 ∧ ((r.1 = .inl () ∧ A.length + x_ct tf tt + 1 ≤ 200 ∧ y_S L e pg ln π r.2 sp ho dr O S H (A ++ x_sl (vA h (pg + 2)) tf tt ++ [10])) ∨ (r.1 = .inr xE3 ∧ ¬ A.length + x_ct tf tt + 1 ≤ 200 ∧ y_S L e pg ln π r.2 sp ho dr O S H A))) := by
  obtain ⟨⟨T, p1, p2, p3, p4, p5⟩, d, a1, a2, a3, a4, a5⟩ := id s
  have k7 := ly.2.2.2.2.2.1
  have kt := e_Prog_0 T kp
  have n0 := a4.2.1.1
  have n1 := a4.2.1.2
  have m1 := rt.2.1.2
  have RM := x_rm n0 n1 (by decide : (200 : Int32) ≤ 1000) b0 b1 (by lia)
  rw [← y_R1_len a4, show x_ct 0 200 = 200 from by decide] at RM
  unfold f_Ed_append
  refine l_gR T (d_Ed_7 T ly.1) (l_gI (e := tt) htt (l_gI (e := tf) htf (l_gO (qi_b (y_hr (N := N) T k7.1) ?_))))
  rintro ⟨y, h1⟩ ⟨e1, q⟩
  dsimp only at e1 q ⊢
  subst e1
  rw [k7.2] at q
  rcases q with ⟨q1, q2⟩ | ⟨q1, q2⟩
  · rw [q1, if_neg (by decide)]
    refine l_gR T (d_Ed_7 T ly.1) (l_gR T p4 (l_gR T (d_Prog_0 T kp) (l_gI (e := tf) htf (l_gI (e := tt) htt (l_gO (qi_b (y_ap (N := N) T k7.1 kt (by omega) b0 b1 b2 (by lia) n0 (by rw [k7.2]; exact n1) (by rw [k7.2]; lia) (by rw [k7.2]; decide) (by rw [rt.1]; exact rt.2.2)) ?_))))))
    rintro h2 ⟨T2, f2, i2, w2⟩
    refine l_gR T2 (d_Ed_7 T2 ly.1) (l_gO (qi_b (y_ad (N := N) (c := 10) T2 k7.1 (by decide) (by rw [i2]; lia) (by rw [i2, k7.2]; lia) (by rw [i2]; lia)) ?_))
    rintro h3 ⟨T3, f3, i3, w3⟩
    have f : ∀ b, b ≠ e + 7 → b ≠ e + 8 → h3 b = h1 b := fun b b1 b2 => (f3 b b1 b2).trans (f2 b b1 b2)
    refine qi_some ⟨fun k => x_vI_c (f e (by omega) (by omega)), fun a ha => f a (by omega) (by omega), Or.inl ⟨rfl, RM.mp q2, y_S_A s T3 f ⟨?_, ?_, ?_⟩⟩⟩
    · rw [w3, w2, a4.1]
    · rw [i3, i2]; constructor <;> lia
    · have k := rt.2.2
      rw [← rt.1] at k
      exact x_kt_a (x_kt_a a4.2.2 (x_kt_s k rt.2.1.1 b0 b1 b2)) (x_kt_1 x_kc10)
  · rw [q1, if_pos rfl]
    exact qi_some ⟨fun _ => rfl, y_F_r, Or.inr ⟨rfl, fun z => absurd (RM.mpr z) (Int32.not_le.mpr q2), s⟩⟩
end YC
