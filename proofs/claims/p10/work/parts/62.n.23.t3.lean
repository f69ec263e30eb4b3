/-! the editor of the class: its state, lines, cycles -/
def y_L (L : q_L) (e : Nat) : Prop := qκ L e = 4 ∧ (qκ L (e + 3) = 11 ∧ qhi L (e + 3) 1 = 60) ∧ (qκ L (e + 5) = 11 ∧ qhi L (e + 5) 1 = 60) ∧ (qκ L (e + 14) = 11 ∧ qhi L (e + 14) 1 = 60) ∧ (qκ L (e + 1) = 11 ∧ qhi L (e + 1) 1 = 600) ∧ (qκ L (e + 7) = 11 ∧ qhi L (e + 7) 1 = 200) ∧ qκ L (e + 9) = 6
def y_Dr (e sp ho dr : Nat) : Prop := (sp = e + 3 ∨ sp = e + 5 ∨ sp = e + 14) ∧ (ho = e + 3 ∨ ho = e + 5 ∨ ho = e + 14) ∧ (dr = e + 3 ∨ dr = e + 5 ∨ dr = e + 14) ∧ sp ≠ ho ∧ sp ≠ dr ∧ ho ≠ dr
/-- a row holds this text, its length is in its room -/
def y_R1 (h : z_H) (r : Nat) (c : Int32) (X : List Int32) : Prop := x_rw h r = X ∧ (0 ≤ vI h r 1 ∧ vI h r 1 ≤ c) ∧ x_kt X
theorem y_R1_c {h h' : z_H} {r : Nat} {c : Int32} {X : List Int32} (a : y_R1 h r c X) (e : h' r = h r) (e1 : h' (r + 1) = h (r + 1)) : y_R1 h' r c X := ⟨(x_rw_c e e1).trans a.1, by rw [x_vI_c e]; exact a.2.1, a.2.2⟩
def y_S (L : q_L) (e pg ln : Nat) (π : Nat → Nat → Option Nat) (h : z_H) (sp ho dr : Nat) (O S H A : List Int32) : Prop :=
  (x_U L π h ∧ π e 1 = some sp ∧ π e 2 = some ho ∧ π e 9 = some dr ∧ π e 10 = some pg ∧ π e 11 = some ln) ∧ y_Dr e sp ho dr ∧ y_R1 h (e + 1) 600 O ∧ y_R1 h sp 60 S ∧ y_R1 h ho 60 H ∧ y_R1 h (e + 7) 200 A ∧ (0 ≤ vI h dr 1 ∧ vI h dr 1 ≤ 60)
theorem y_kr {L : q_L} {e r : Nat} (ly : y_L L e) (d : r = e + 3 ∨ r = e + 5 ∨ r = e + 14) : qκ L r = 11 ∧ qhi L r 1 = 60 := by
  rcases d with d | d | d <;> subst d
  · exact ly.2.1
  · exact ly.2.2.1
  · exact ly.2.2.2.1
section YS
variable {L : q_L} {e pg ln : Nat} {π : Nat → Nat → Option Nat} {h h1 : z_H} {sp ho dr : Nat} {O S H A : List Int32}
theorem y_S_e (s : y_S L e pg ln π h sp ho dr O S H A) (T : x_U L π h1) (c : ∀ b, b ≠ e → h1 b = h b) : y_S L e pg ln π h1 sp ho dr O S H A := by
  obtain ⟨⟨_, p1⟩, d, a1, a2, a3, a4, a5⟩ := s
  have d' := d
  obtain ⟨d1, d2, d3, d4, d5, d6⟩ := d'
  refine ⟨⟨T, p1⟩, d, y_R1_c a1 (c _ (by omega)) (c _ (by omega)), y_R1_c a2 (c _ (by omega)) (c _ (by omega)), y_R1_c a3 (c _ (by omega)) (c _ (by omega)), y_R1_c a4 (c _ (by omega)) (c _ (by omega)), ?_⟩
  rw [x_vI_c (c dr (by omega))]; exact a5
theorem y_S_O {O' : List Int32} (s : y_S L e pg ln π h sp ho dr O S H A) (T : x_U L π h1) (c : ∀ b, b ≠ e + 1 → b ≠ e + 2 → h1 b = h b) (n : y_R1 h1 (e + 1) 600 O') : y_S L e pg ln π h1 sp ho dr O' S H A := by
  obtain ⟨⟨_, p1⟩, d, a1, a2, a3, a4, a5⟩ := s
  have d' := d
  obtain ⟨d1, d2, d3, d4, d5, d6⟩ := d'
  refine ⟨⟨T, p1⟩, d, n, y_R1_c a2 (c _ (by omega) (by omega)) (c _ (by omega) (by omega)), y_R1_c a3 (c _ (by omega) (by omega)) (c _ (by omega) (by omega)), y_R1_c a4 (c _ (by omega) (by omega)) (c _ (by omega) (by omega)), ?_⟩
  rw [x_vI_c (c dr (by omega) (by omega))]; exact a5
theorem y_S_S {S' : List Int32} (s : y_S L e pg ln π h sp ho dr O S H A) (T : x_U L π h1) (c : ∀ b, b ≠ sp → b ≠ sp + 1 → h1 b = h b) (n : y_R1 h1 sp 60 S') : y_S L e pg ln π h1 sp ho dr O S' H A := by
  obtain ⟨⟨_, p1⟩, d, a1, a2, a3, a4, a5⟩ := s
  have d' := d
  obtain ⟨d1, d2, d3, d4, d5, d6⟩ := d'
  refine ⟨⟨T, p1⟩, d, y_R1_c a1 (c _ (by omega) (by omega)) (c _ (by omega) (by omega)), n, y_R1_c a3 (c _ (by omega) (by omega)) (c _ (by omega) (by omega)), y_R1_c a4 (c _ (by omega) (by omega)) (c _ (by omega) (by omega)), ?_⟩
  rw [x_vI_c (c dr (by omega) (by omega))]; exact a5
theorem y_S_H {H' : List Int32} (s : y_S L e pg ln π h sp ho dr O S H A) (T : x_U L π h1) (c : ∀ b, b ≠ ho → b ≠ ho + 1 → h1 b = h b) (n : y_R1 h1 ho 60 H') : y_S L e pg ln π h1 sp ho dr O S H' A := by
  obtain ⟨⟨_, p1⟩, d, a1, a2, a3, a4, a5⟩ := s
  have d' := d
  obtain ⟨d1, d2, d3, d4, d5, d6⟩ := d'
  refine ⟨⟨T, p1⟩, d, y_R1_c a1 (c _ (by omega) (by omega)) (c _ (by omega) (by omega)), y_R1_c a2 (c _ (by omega) (by omega)) (c _ (by omega) (by omega)), n, y_R1_c a4 (c _ (by omega) (by omega)) (c _ (by omega) (by omega)), ?_⟩
  rw [x_vI_c (c dr (by omega) (by omega))]; exact a5
theorem y_S_A {A' : List Int32} (s : y_S L e pg ln π h sp ho dr O S H A) (T : x_U L π h1) (c : ∀ b, b ≠ e + 7 → b ≠ e + 8 → h1 b = h b) (n : y_R1 h1 (e + 7) 200 A') : y_S L e pg ln π h1 sp ho dr O S H A' := by
  obtain ⟨⟨_, p1⟩, d, a1, a2, a3, a4, a5⟩ := s
  have d' := d
  obtain ⟨d1, d2, d3, d4, d5, d6⟩ := d'
  refine ⟨⟨T, p1⟩, d, y_R1_c a1 (c _ (by omega) (by omega)) (c _ (by omega) (by omega)), y_R1_c a2 (c _ (by omega) (by omega)) (c _ (by omega) (by omega)), y_R1_c a3 (c _ (by omega) (by omega)) (c _ (by omega) (by omega)), n, ?_⟩
  rw [x_vI_c (c dr (by omega) (by omega))]; exact a5
theorem y_S_D (s : y_S L e pg ln π h sp ho dr O S H A) (T : x_U L π h1) (c : ∀ b, b ≠ dr → b ≠ dr + 1 → h1 b = h b) (n : 0 ≤ vI h1 dr 1 ∧ vI h1 dr 1 ≤ 60) : y_S L e pg ln π h1 sp ho dr O S H A := by
  obtain ⟨⟨_, p1⟩, d, a1, a2, a3, a4, a5⟩ := s
  have d' := d
  obtain ⟨d1, d2, d3, d4, d5, d6⟩ := d'
  exact ⟨⟨T, p1⟩, d, y_R1_c a1 (c _ (by omega) (by omega)) (c _ (by omega) (by omega)), y_R1_c a2 (c _ (by omega) (by omega)) (c _ (by omega) (by omega)), y_R1_c a3 (c _ (by omega) (by omega)) (c _ (by omega) (by omega)), y_R1_c a4 (c _ (by omega) (by omega)) (c _ (by omega) (by omega)), n⟩
/-- a row of lines -/
theorem l_ln {sf : Nat} {β : Type} {Q : β → Prop} {f : Nat → Option β} {i : Int32} (T : x_U L π h) (ha : qκ L sf = 12) (H : 0 ≤ i → i < 12 → qκ L (sf + (528 + 2 * i.toNatClampNeg)) = 11 → qi (f (sf + (528 + 2 * i.toNatClampNeg))) Q) : qi (z_b (aR h (sf + 3) 4 i) f) Q := by
  intro r z
  obtain ⟨x, e1, e2⟩ := z_bs z
  obtain ⟨n, g, f1, f2, f3⟩ := aR_s e1
  obtain ⟨g2, w⟩ := q_arR (h := h) (a := sf + 3) (t := 4) (n := 12) (by rw [T.2.2.1]; exact (T.1.2.2.2.2.2.2.2.2.2.2.2 sf ha).2.2.2.2.2.2.2.2.1) (by decide)
  rw [f1] at w
  have hn : n = 12 := by cases w; rfl
  subst hn
  have i0 : 0 ≤ i := Int32.not_lt.mp fun q => f2 (Or.inl q)
  have i1 : i < 12 := by
    refine Int32.not_le.mp fun q => f2 (Or.inr ?_)
    have q1 := Int32.le_iff_toInt_le.mp q
    have q2 : (12 : Int32).toInt = 12 := rfl
    rw [q2] at q1
    show 12 ≤ i.toInt.toNat
    omega
  have t := (T.1.2.2.2.2.2.2.2.2.2.2.2 sf ha).2.2.2.2.2.2.2.2.2 i i0 i1
  have q1 : vQ h (sf + 3) i = some x := by simp only [vQ, f1, f3]
  rw [T.2.2.2.2, t.1] at q1
  exact H i0 i1 t.2.1 r (by rw [Option.some.inj q1]; exact e2)
end YS
section YB
variable {L : q_L} {e pg sf : Nat} {π : Nat → Nat → Option Nat} {N : Nat} {h h0 : z_H} {sp ho dr : Nat} {O S H A : List Int32} {LN : Int32 → List Int32} {lc : Int32}
/-- what lies outside the editor -/
def y_F (e : Nat) (h h1 : z_H) : Prop := ∀ a, ¬ (e ≤ a ∧ a < e + 16) → h1 a = h a
theorem y_F_r {e : Nat} {h : z_H} : y_F e h h := fun _ _ => rfl
theorem y_F_t {e : Nat} {h h1 h2 : z_H} (a : y_F e h h1) (b : y_F e h1 h2) : y_F e h h2 := fun x hx => (b x hx).trans (a x hx)
/-- the lines -/
def y_LN (h : z_H) (sf : Nat) (lc : Int32) (LN : Int32 → List Int32) : Prop := 0 ≤ lc ∧ lc ≤ 12 ∧ ∀ i, 0 ≤ i → i < lc → y_R1 h (sf + (528 + 2 * i.toNatClampNeg)) 24 (LN i)
theorem y_LN_f (es : e = sf + 9) (l : y_LN h sf lc LN) (f : y_F e h h0) : y_LN h0 sf lc LN := ⟨l.1, l.2.1, fun i i0 i1 => y_R1_c (l.2.2 i i0 i1) (f _ (by omega)) (f _ (by omega))⟩
theorem y_bC (ly : y_L L e) (s : y_S L e pg (sf + 3) π h sp ho dr O S H A) : qi (f_Ed_beginCycle N e h) (fun r => y_S L e pg (sf + 3) π r sp ho dr O S H A ∧ y_F e h r ∧ ∀ k, vI r e k = if k = 13 then 0 else if k = 15 then 0 else if k = 5 then vI h e 5 + 1 else vI h e k) := by
  have T := s.1.1
  unfold f_Ed_beginCycle
  refine l_gI (e := vI h e 5) rfl (l_sIc T ly.1 (by decide) rfl ?_)
  intro h1 T1 c1 u1
  refine l_sIc T1 ly.1 (by decide) rfl ?_
  intro h2 T2 c2 u2
  refine l_sIc T2 ly.1 (by decide) rfl ?_
  intro h3 T3 c3 u3
  have c : ∀ b, b ≠ e → h3 b = h b := fun b hb => (c3 b hb).trans ((c2 b hb).trans (c1 b hb))
  exact qi_some ⟨y_S_e s T3 c, fun a ha => c a (by omega), fun k => by rw [u3 k, u2 k, u1 k]⟩
theorem x_len60 {a b : Int32} {X Y : List Int32} (a0 : 0 ≤ a) (b0 : 0 ≤ b) (ha : X.length = x_ct 0 a) (hb : Y.length = x_ct 0 b) (l : X.length + Y.length ≤ 60) : a + b ≤ 60 ∧ a ≤ 60 ∧ b ≤ 60 := by
  have q1 := x_ct_t a0 (Int32.le_refl 0)
  have q2 := x_ct_t b0 (Int32.le_refl 0)
  have z : (0 : Int32).toInt = 0 := rfl
  rw [z] at q1 q2
  have z6 : (60 : Int32).toInt = 60 := rfl
  have e1 : (a + b).toInt = a.toInt + b.toInt := by
    have t1 := Int32.le_iff_toInt_le.mp a0
    have t2 := Int32.le_iff_toInt_le.mp b0
    rw [z] at t1 t2
    rw [Int32.toInt_add]; exact Int.bmod_eq_of_le_mul_two (by omega) (by omega)
  refine ⟨Int32.le_iff_toInt_le.mpr (by rw [e1, z6]; omega), Int32.le_iff_toInt_le.mpr (by rw [z6]; omega), Int32.le_iff_toInt_le.mpr (by rw [z6]; omega)⟩
theorem y_R1_len {h : z_H} {r : Nat} {c : Int32} {X : List Int32} (a : y_R1 h r c X) : X.length = x_ct 0 (vI h r 1) := by rw [← a.1]; exact x_sl_len
set_option maxHeartbeats 1000000 in
theorem y_rL (es : e = sf + 9) (kf : qκ L sf = 12) (ly : y_L L e) (s : y_S L e pg (sf + 3) π h sp ho dr O S H A) (ll : y_LN h sf lc LN) (r0 : 0 ≤ vI h e 3) (rl : vI h e 3 < lc) (rm : S.length + (LN (vI h e 3)).length ≤ 60) : qi (f_Ed_readLine N e h) (fun r => y_S L e pg (sf + 3) π r sp ho dr O (S ++ LN (vI h e 3)) H A ∧ y_F e h r ∧ ∀ k, vI r e k = if k = 3 then vI h e 3 + 1 else vI h e k) := by
  obtain ⟨⟨T, p1, p2, p3, p4, p5⟩, d, a1, a2, a3, a4, a5⟩ := id s
  have ks := y_kr ly d.1
  have lk := ll.2.2 _ r0 rl
  have d1 := d.1
  unfold f_Ed_readLine
  refine l_gR T p5 (l_gI (e := vI h e 3) rfl (l_ln T kf (fun i0 i1 kl => ?_)))
  have L60 := x_len60 a2.2.1.1 lk.2.1.1 (y_R1_len a2) (y_R1_len lk) rm
  have u0 := a2.2.1.1
  have u1' := lk.2.1.1
  have u2' := lk.2.1.2
  refine l_gR T p1 (l_gI (e := vI h (sf + (528 + 2 * (vI h e 3).toNatClampNeg)) 1) rfl (l_gO (qi_b (y_ap (N := N) T ks.1 kl (by omega) (Int32.le_refl 0) lk.2.1.1 (Int32.le_refl _) (by lia) a2.2.1.1 (by rw [ks.2]; exact L60.2.1) (by rw [ks.2]; have := L60.1; lia) (by rw [ks.2]; decide) (by rw [lk.1]; exact lk.2.2)) ?_)))
  rintro h1 ⟨T1, f1, i1', w1⟩
  refine l_gI (e := vI h e 3) (x_vI_c (f1 e (by omega) (by omega))) (l_sIc T1 ly.1 (by decide) rfl ?_)
  intro h2 T2 c2 u2
  have w1' : x_rw h1 sp = S ++ LN (vI h e 3) := by
    rw [w1, a2.1]
    congr 1
    exact lk.1
  have s1 : y_S L e pg (sf + 3) π h1 sp ho dr O (S ++ LN (vI h e 3)) H A := y_S_S s T1 f1 ⟨w1', by rw [i1']; have := L60.1; constructor <;> lia, x_kt_a a2.2.2 lk.2.2⟩
  refine qi_some ⟨y_S_e s1 T2 c2, fun a ha => (c2 a (by omega)).trans (f1 a (by omega) (by omega)), fun k => ?_⟩
  rw [u2 k, x_vI_c (f1 e (by omega) (by omega))]
/-- the next line comes into an empty space -/
theorem y_bL (es : e = sf + 9) (kf : qκ L sf = 12) (ly : y_L L e) (s : y_S L e pg (sf + 3) π h sp ho dr O S H A) (ll : y_LN h sf lc LN) (hl : vI h e 12 = lc) (r0 : 0 ≤ vI h e 3) (rl : vI h e 3 ≤ lc) : qi (f_Ed_beginLine N e h) (fun r => y_F e h r ∧ ((vI h e 3 = lc ∧ y_S L e pg (sf + 3) π r sp ho dr O S H A ∧ ∀ k, vI r e k = if k = 14 then 1 else vI h e k) ∨ (¬ vI h e 3 = lc ∧ y_S L e pg (sf + 3) π r sp ho dr O (LN (vI h e 3)) H A ∧ ∀ k, vI r e k = if k = 13 then 0 else if k = 15 then 0 else if k = 5 then vI h e 5 + 1 else if k = 3 then vI h e 3 + 1 else vI h e k))) := by
  obtain ⟨⟨T, p1, p2, p3, p4, p5⟩, d, a1, a2, a3, a4, a5⟩ := id s
  have ks := y_kr ly d.1
  have d1 := d.1
  unfold f_Ed_beginLine
  refine l_gI (e := vI h e 3) rfl (l_gI (e := lc) hl ?_)
  refine qi_if (fun c => ?_) (fun c => ?_)
  · refine l_sIc T ly.1 (by decide) rfl ?_
    intro h1 T1 c1 u1
    exact qi_some ⟨fun a ha => c1 a (by omega), Or.inl ⟨c, y_S_e s T1 c1, u1⟩⟩
  · have rl' : vI h e 3 < lc := by lia
    have lk := ll.2.2 _ r0 rl'
    refine l_gR T p1 (l_gO (qi_b (y_em (N := N) T ks.1) ?_))
    rintro h1 ⟨T1, f1, i1, w1⟩
    have F1 : y_F e h h1 := fun a ha => f1 a (by omega)
    have s1 : y_S L e pg (sf + 3) π h1 sp ho dr O [] H A := y_S_S s T1 (fun b b1 _ => f1 b b1) ⟨w1, by rw [i1]; decide, x_kt_0⟩
    have e1 : ∀ k, vI h1 e k = vI h e k := fun k => x_vI_c (f1 e (by omega))
    have l24 : (LN (vI h e 3)).length ≤ 60 := by
      rw [y_R1_len lk]
      have q1 := x_ct_t lk.2.1.1 (Int32.le_refl 0)
      have z : (0 : Int32).toInt = 0 := rfl
      have q2 := Int32.le_iff_toInt_le.mp lk.2.1.2
      have z4 : (24 : Int32).toInt = 24 := rfl
      rw [z] at q1
      rw [z4] at q2
      omega
    have RL := y_rL (N := N) es kf ly s1 (y_LN_f es ll F1) (by rw [e1]; exact r0) (by rw [e1]; exact rl') (by rw [e1]; simpa using l24)
    rw [e1, List.nil_append] at RL
    refine l_gO (qi_b RL ?_)
    rintro h2 ⟨s2, F2, u2⟩
    refine l_gO (qi_b (y_bC (N := N) ly s2) ?_)
    rintro h3 ⟨s3, F3, u3⟩
    refine qi_some ⟨y_F_t F1 (y_F_t F2 F3), Or.inr ⟨c, s3, fun k => ?_⟩⟩
    have u5 : vI h2 e 5 = vI h e 5 := by rw [u2 5, if_neg (by decide), e1]
    rw [u3 k, u5, u2 k, e1]
end YB
