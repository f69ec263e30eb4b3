/-! commands: what they do to the texts and numbers -/
def x_n10 (c : Int32) : Bool := c != 10
theorem x_tw {f : Int32 → Int32} {n q : Int32} (q0 : 0 ≤ q) (qn : q ≤ n) (H : ∀ j, 0 ≤ j → j < q → ¬ f j = 10) (Hq : q < n → f q = 10) : (x_sl f 0 n).takeWhile x_n10 = x_sl f 0 q ∧ (q < n → (x_sl f 0 n).dropWhile x_n10 = 10 :: x_sl f (q + 1) n) ∧ (q = n → (x_sl f 0 n).dropWhile x_n10 = []) := by
  have al : ∀ a ∈ x_sl f 0 q, x_n10 a = true := by
    intro a ha
    unfold x_sl at ha
    obtain ⟨j, hj, ej⟩ := List.mem_map.mp ha
    have w := x_ct_i q0 (Int32.le_refl 0) (List.mem_range.mp hj)
    rw [← ej]
    unfold x_n10
    simp only [bne_iff_ne, ne_eq]
    exact H _ w.1 w.2
  rw [x_sl_p q0 qn (Int32.le_refl 0), List.takeWhile_append_of_pos al, List.dropWhile_append_of_pos al]
  by_cases c : q < n
  · have ng : ¬ x_n10 (f q) = true := by
      rw [Hq c]; decide
    rw [x_sl_1 c q0, List.takeWhile_cons_of_neg ng, List.dropWhile_cons_of_neg ng, List.append_nil, Hq c]
    exact ⟨rfl, fun _ => rfl, fun z => absurd (z ▸ c) Int32.lt_irrefl⟩
  · have e : q = n := Int32.le_antisymm qn (Int32.not_lt.mp c)
    subst e
    rw [x_sl_0 (Int32.le_refl _) q0 q0]
    exact ⟨by rw [List.takeWhile_nil, List.append_nil], fun z => absurd z c, fun _ => rfl⟩
/-- a state: whether it goes on (1) or is full (0), output, space, hold, appended; lines read, cycles, replacements, replaced, next, over -/
abbrev x_TT : Type := Int32 × List Int32 × List Int32 × List Int32 × List Int32 × Int32 × Int32 × Int32 × Int32 × Int32 × Int32
def x_rE (R : Int32 × List Int32 × List Int32) (H A : List Int32) (rd cy rp sm nx : Int32) : x_TT := if R.1 = 0 then (0, R.2.1, R.2.2, H, A, rd, cy, rp, sm, nx, 0) else if R.1 = 2 then (1, R.2.1, R.2.2, H, [], rd, cy, rp, sm, nx, 1) else (1, R.2.1, R.2.2, H, [], rd + 1, cy + 1, rp, 0, 0, 0)
def x_qE (O S H A : List Int32) (rd cy rp sm nx : Int32) : x_TT := if (x_qt O S A).1 = 0 then (0, (x_qt O S A).2, S, H, A, rd, cy, rp, sm, nx, 0) else (1, (x_qt O S A).2, S, H, [], rd, cy, rp, sm, nx, 1)
def x_nE (lc : Int32) (LN : Int32 → List Int32) (O S H A : List Int32) (rd cy rp sm nx : Int32) : x_TT := if rd = lc then x_qE O S H A rd cy rp sm nx else if O.length + S.length + 1 ≤ 600 then (if (x_ta (O ++ S ++ [10]) [] A).2 = 0 then (0, (x_ta (O ++ S ++ [10]) [] A).1, S, H, A, rd, cy, rp, sm, nx, 0) else (1, (x_ta (O ++ S ++ [10]) [] A).1, LN rd, H, [], rd + 1, cy, rp, sm, nx, 0)) else (0, O, S, H, A, rd, cy, rp, sm, nx, 0)
def x_NE (lc : Int32) (LN : Int32 → List Int32) (O S H A : List Int32) (rd cy rp sm nx : Int32) : x_TT := if rd = lc then x_qE O S H A rd cy rp sm nx else if S.length + (LN rd).length + 1 ≤ 60 then (if (x_ta O [] A).2 = 0 then (0, (x_ta O [] A).1, S, H, A, rd, cy, rp, sm, nx, 0) else (1, (x_ta O [] A).1, S ++ [10] ++ LN rd, H, [], rd + 1, cy, rp, sm, nx, 0)) else (0, O, S, H, A, rd, cy, rp, sm, nx, 0)
def x_DE (lc : Int32) (LN : Int32 → List Int32) (O S H A : List Int32) (rd cy rp sm nx : Int32) : x_TT := if S.dropWhile x_n10 = [] then x_rE (x_ec 0 lc LN O S A rd) H A rd cy rp sm nx else if (x_ta O [] A).2 = 0 then (0, (x_ta O [] A).1, S, H, A, rd, cy, rp, sm, nx, 0) else (1, (x_ta O [] A).1, (S.dropWhile x_n10).tail, H, [], rd, cy + 1, rp, 0, 0, 0)
def x_cE (b : Int32) (X : List Int32) (lc : Int32) (LN : Int32 → List Int32) (O H A : List Int32) (rd cy rp sm nx : Int32) : x_TT := if b = 0 then x_rE (x_ec 0 lc LN O [] A rd) H A rd cy rp sm nx else if O.length + X.length + 1 ≤ 600 then x_rE (x_ec 0 lc LN (O ++ X ++ [10]) [] A rd) H A rd cy rp sm nx else (0, O, [], H, A, rd, cy, rp, sm, nx, 0)
def x_tE (X O S H A : List Int32) (rd cy rp sm nx : Int32) : x_TT := if O.length + X.length + 1 ≤ 600 then (1, O ++ X ++ [10], S, H, A, rd, cy, rp, sm, nx, 0) else (0, O, S, H, A, rd, cy, rp, sm, nx, 0)
def x_aE (X O S H A : List Int32) (rd cy rp sm nx : Int32) : x_TT := if A.length + X.length + 1 ≤ 200 then (1, O, S, H, A ++ X ++ [10], rd, cy, rp, sm, nx, 0) else (0, O, S, H, A, rd, cy, rp, sm, nx, 0)
/-- what a command of the class leaves -/
def y_P (L : q_L) (e pg ln : Nat) (h : z_H) (E : x_TT) (r : (Unit ⊕ String) × z_H) : Prop := y_F e h r.2 ∧ (vI r.2 e 4 = vI h e 4 ∧ vI r.2 e 12 = vI h e 12) ∧ ∃ π' sp' ho' dr' A', y_S L e pg ln π' r.2 sp' ho' dr' E.2.1 E.2.2.1 E.2.2.2.1 A' ∧ (vI r.2 e 3 = E.2.2.2.2.2.1 ∧ vI r.2 e 5 = E.2.2.2.2.2.2.1 ∧ vI r.2 e 6 = E.2.2.2.2.2.2.2.1) ∧ ((E.1 = 0 ∧ r.1 = .inr xE3) ∨ (E.1 = 1 ∧ r.1 = .inl () ∧ vI r.2 e 14 = E.2.2.2.2.2.2.2.2.2.2 ∧ (E.2.2.2.2.2.2.2.2.2.2 = 0 → A' = E.2.2.2.2.1 ∧ vI r.2 e 15 = E.2.2.2.2.2.2.2.2.1 ∧ vI r.2 e 13 = E.2.2.2.2.2.2.2.2.2.1)))
section YP
variable {L : q_L} {e pg sf ln : Nat} {π : Nat → Nat → Option Nat} {N : Nat} {h h1 : z_H} {sp ho dr : Nat} {O S H A : List Int32} {LN : Int32 → List Int32} {lc : Int32} {rd cy rp sm nx : Int32}
/-- the numbers of the editor -/
def y_N (h : z_H) (e : Nat) (rd cy rp sm nx : Int32) : Prop := vI h e 3 = rd ∧ vI h e 5 = cy ∧ vI h e 6 = rp ∧ vI h e 15 = sm ∧ vI h e 13 = nx ∧ vI h e 14 = 0
theorem y_P0 {y : Unit ⊕ String} {O' S' H' A' A0 : List Int32} {ov : Int32} (n : y_N h e rd cy rp sm nx) (F : y_F e h h1) (I : ∀ k, vI h1 e k = vI h e k) (s : y_S L e pg ln π h1 sp ho dr O' S' H' A') (q : y = .inr xE3) : y_P L e pg ln h (0, O', S', H', A0, rd, cy, rp, sm, nx, ov) (y, h1) := ⟨F, ⟨I 4, I 12⟩, π, sp, ho, dr, A', s, ⟨(I 3).trans n.1, (I 5).trans n.2.1, (I 6).trans n.2.2.1⟩, Or.inl ⟨rfl, q⟩⟩
theorem y_P1 {y : Unit ⊕ String} {O' S' H' A' : List Int32} (n : y_N h e rd cy rp sm nx) (F : y_F e h h1) (I : ∀ k, vI h1 e k = vI h e k) (s : y_S L e pg ln π h1 sp ho dr O' S' H' A') (q : y = .inl ()) : y_P L e pg ln h (1, O', S', H', A', rd, cy, rp, sm, nx, 0) (y, h1) := ⟨F, ⟨I 4, I 12⟩, π, sp, ho, dr, A', s, ⟨(I 3).trans n.1, (I 5).trans n.2.1, (I 6).trans n.2.2.1⟩, Or.inr ⟨rfl, q, (I 14).trans n.2.2.2.2.2, fun _ => ⟨rfl, (I 15).trans n.2.2.2.1, (I 13).trans n.2.2.2.2.1⟩⟩⟩
theorem y_EC_P {R : Int32 × List Int32 × List Int32} {r : (Unit ⊕ String) × z_H} (n : y_N h e rd cy rp sm nx) (c : y_EC L e pg ln π h sp ho dr H R r) : y_P L e pg ln h (x_rE R H A rd cy rp sm nx) r := by
  obtain ⟨n3, n5, n6, n15, n13, n14⟩ := n
  obtain ⟨F, ⟨c1, c2, ⟨A', s⟩, I⟩ | ⟨c1, c2, s, I⟩ | ⟨c1, c2, s, I⟩⟩ := c
  · unfold x_rE
    rw [if_pos c1]
    exact ⟨F, ⟨I 4, I 12⟩, π, sp, ho, dr, A', s, ⟨(I 3).trans n3, (I 5).trans n5, (I 6).trans n6⟩, Or.inl ⟨rfl, c2⟩⟩
  · unfold x_rE
    rw [c1, if_neg (by decide), if_pos rfl]
    refine ⟨F, ⟨by rw [I 4]; rfl, by rw [I 12]; rfl⟩, π, sp, ho, dr, [], s, ⟨by rw [I 3]; exact n3, by rw [I 5]; exact n5, by rw [I 6]; exact n6⟩, Or.inr ⟨rfl, c2, by rw [I 14]; rfl, fun z => absurd (show (1 : Int32) = 0 from z) (by decide)⟩⟩
  · unfold x_rE
    rw [c1, if_neg (by decide), if_neg (by decide)]
    refine ⟨F, ⟨by rw [I 4]; rfl, by rw [I 12]; rfl⟩, π, sp, ho, dr, [], s, ⟨by rw [I 3, n3]; rfl, by rw [I 5, n5]; rfl, by rw [I 6]; exact n6⟩, Or.inr ⟨rfl, c2, by rw [I 14]; exact n14, fun _ => ⟨rfl, by rw [I 15]; rfl, by rw [I 13]; rfl⟩⟩⟩
theorem y_pq (ly : y_L L e) (s : y_S L e pg ln π h sp ho dr O S H A) (n : y_N h e rd cy rp sm nx) : qi (f_Ed_quit N e h) (y_P L e pg ln h (x_qE O S H A rd cy rp sm nx)) := by
  obtain ⟨n3, n5, n6, n15, n13, n14⟩ := id n
  refine qi_mono (y_qt (N := N) ly s) ?_
  rintro ⟨y, h1⟩ ⟨F, ⟨c1, c2, ⟨A', s1⟩, I⟩ | ⟨c1, c2, s1, I⟩⟩
  · unfold x_qE
    rw [if_pos c1]
    exact y_P0 n F I s1 c2
  · unfold x_qE
    rw [c1, if_neg (by decide)]
    exact ⟨F, ⟨by rw [I 4]; rfl, by rw [I 12]; rfl⟩, π, sp, ho, dr, [], s1, ⟨by rw [I 3]; exact n3, by rw [I 5]; exact n5, by rw [I 6]; exact n6⟩, Or.inr ⟨rfl, c2, by rw [I 14]; rfl, fun z => absurd (show (1 : Int32) = 0 from z) (by decide)⟩⟩
/-- P0 and P1 behind another heap -/
theorem y_P_tr {E : x_TT} {r : (Unit ⊕ String) × z_H} (F : y_F e h h1) (I : vI h1 e 4 = vI h e 4 ∧ vI h1 e 12 = vI h e 12) (p : y_P L e pg ln h1 E r) : y_P L e pg ln h E r := ⟨y_F_t F p.1, ⟨p.2.1.1.trans I.1, p.2.1.2.trans I.2⟩, p.2.2⟩
theorem y_N_c (n : y_N h e rd cy rp sm nx) (I : ∀ k, vI h1 e k = vI h e k) : y_N h1 e rd cy rp sm nx := ⟨(I 3).trans n.1, (I 5).trans n.2.1, (I 6).trans n.2.2.1, (I 15).trans n.2.2.2.1, (I 13).trans n.2.2.2.2.1, (I 14).trans n.2.2.2.2.2⟩
theorem y_zxu {y : Unit ⊕ String} {E : x_TT} (p : y_P L e pg ln h E (y, h1)) : qi (zx_k (y, h1) fun (_ : Unit) h' => some ((Sum.inl () : Unit ⊕ String), h')) (y_P L e pg ln h E) := by
  refine qi_zx (fun x ex => qi_some ?_) (fun E' eE => ?_)
  · cases x
    rw [← ex]
    exact p
  · rw [← eE]
    exact p
theorem y_pn (es : e = sf + 9) (kf : qκ L sf = 12) (ly : y_L L e) (s : y_S L e pg (sf + 3) π h sp ho dr O S H A) (n : y_N h e rd cy rp sm nx) (ll : y_LN h sf lc LN) (hl : vI h e 12 = lc) (r0 : 0 ≤ rd) (rl : rd ≤ lc) : qi (f_Ed_replaceByNext N e h) (y_P L e pg (sf + 3) h (x_nE lc LN O S H A rd cy rp sm nx)) := by
  obtain ⟨⟨T, p1, p2, p3, p4, p5⟩, d, a1, a2, a3, a4, a5⟩ := id s
  have ks := y_kr ly d.1
  have d1 := d.1
  unfold f_Ed_replaceByNext x_nE
  refine l_gI (e := rd) n.1 (l_gI (e := lc) hl ?_)
  refine qi_if (fun c => ?_) (fun c => ?_)
  · rw [if_pos c]
    refine l_gO (qi_b (y_pq (N := N) ly s n) ?_)
    rintro ⟨y, h1⟩ p
    exact y_zxu p
  · rw [if_neg c]
    have rl' : rd < lc := by lia
    refine l_gR T p1 (l_gR T p1 (l_gI (e := vI h sp 1) rfl (l_gO (qi_b (y_tS (N := N) ly s) ?_))))
    rintro ⟨y, h1⟩ (⟨q1, q2, s1, F1, I1⟩ | ⟨q1, q2, q3⟩)
    · dsimp only at q1 s1 F1 I1 ⊢
      rw [if_pos q2]
      refine qi_zx (fun x _ => ?_) (fun E eE => by rw [q1] at eE; cases eE)
      refine l_gO (qi_b (y_tA (N := N) ly s1) ?_)
      rintro ⟨y2, h2⟩ ⟨F2, I2, ⟨t1, t2, s2⟩ | ⟨t1, t2, s2⟩⟩
      · dsimp only at F2 I2 t1 s2 ⊢
        rw [t2, if_neg (by decide)]
        refine qi_zx (fun x _ => ?_) (fun E eE => by rw [t1] at eE; cases eE)
        obtain ⟨⟨T2, w1, w2, w3, w4, w5⟩, -⟩ := id s2
        refine l_gR T2 w1 (l_gO (qi_b (y_em (N := N) T2 ks.1) ?_))
        rintro h3 ⟨T3, f3, i3, v3⟩
        have s3 : y_S L e pg (sf + 3) π h3 sp ho dr _ [] H [] := y_S_S s2 T3 (fun b b1 _ => f3 b b1) ⟨v3, by rw [i3]; decide, x_kt_0⟩
        have F3 : y_F e h h3 := fun a ha => (f3 a (by omega)).trans ((F2 a ha).trans (F1 a ha))
        have I3 : ∀ k, vI h3 e k = vI h e k := fun k => by rw [x_vI_c (f3 e (by omega)), I2 k, I1 k]
        have lk := ll.2.2 _ r0 rl'
        have l24 : (LN rd).length ≤ 60 := by
          rw [y_R1_len lk]
          have z1 := x_ct_t lk.2.1.1 (Int32.le_refl 0)
          have z : (0 : Int32).toInt = 0 := rfl
          have z2 := Int32.le_iff_toInt_le.mp lk.2.1.2
          have z4 : (24 : Int32).toInt = 24 := rfl
          rw [z] at z1
          rw [z4] at z2
          omega
        have RL := y_rL (N := N) es kf ly s3 (y_LN_f es ll F3) (by rw [I3, n.1]; exact r0) (by rw [I3, n.1]; exact rl') (by rw [I3, n.1]; simpa using l24)
        rw [I3, n.1, List.nil_append] at RL
        refine l_gO (qi_b RL ?_)
        rintro h4 ⟨s4, F4, u4⟩
        refine qi_some ⟨y_F_t F3 F4, ⟨by rw [u4 4]; exact I3 4, by rw [u4 12]; exact I3 12⟩, π, sp, ho, dr, [], s4, ⟨by rw [u4 3]; rfl, by rw [u4 5]; exact (I3 5).trans n.2.1, by rw [u4 6]; exact (I3 6).trans n.2.2.1⟩, Or.inr ⟨rfl, rfl, by rw [u4 14]; exact (I3 14).trans n.2.2.2.2.2, fun _ => ⟨rfl, by rw [u4 15]; exact (I3 15).trans n.2.2.2.1, by rw [u4 13]; exact (I3 13).trans n.2.2.2.2.1⟩⟩⟩
      · dsimp only at F2 I2 t1 s2 ⊢
        rw [t2, if_pos rfl]
        refine qi_zx (fun x ex => by rw [t1] at ex; cases ex) (fun E eE => ?_)
        rw [t1] at eE
        cases eE
        exact y_P0 n (y_F_t F1 F2) (fun k => by rw [I2 k, I1 k]) s2 rfl
    · dsimp only at q1 q3 ⊢
      rw [if_neg q2]
      refine qi_zx (fun x ex => by rw [q1] at ex; cases ex) (fun E eE => ?_)
      rw [q1] at eE
      cases eE
      rw [q3]
      exact y_P0 n y_F_r (fun _ => rfl) s rfl
theorem y_pN (es : e = sf + 9) (kf : qκ L sf = 12) (ly : y_L L e) (s : y_S L e pg (sf + 3) π h sp ho dr O S H A) (n : y_N h e rd cy rp sm nx) (ll : y_LN h sf lc LN) (hl : vI h e 12 = lc) (r0 : 0 ≤ rd) (rl : rd ≤ lc) : qi (f_Ed_joinNext N e h) (y_P L e pg (sf + 3) h (x_NE lc LN O S H A rd cy rp sm nx)) := by
  obtain ⟨⟨T, p1, p2, p3, p4, p5⟩, d, a1, a2, a3, a4, a5⟩ := id s
  have ks := y_kr ly d.1
  have d1 := d.1
  unfold f_Ed_joinNext x_NE
  refine l_gI (e := rd) n.1 (l_gI (e := lc) hl ?_)
  refine qi_if (fun c => ?_) (fun c => ?_)
  · rw [if_pos c]
    refine l_gO (qi_b (y_pq (N := N) ly s n) ?_)
    rintro ⟨y, h1⟩ p
    exact y_zxu p
  · rw [if_neg c]
    have rl' : rd < lc := by lia
    have lk := ll.2.2 _ r0 rl'
    have m0 := lk.2.1.1
    have m1 := lk.2.1.2
    have k0 := a2.2.1.1
    have k1 := a2.2.1.2
    have RM := x_rm (a := 0) k0 k1 (by decide : (60 : Int32) ≤ 1000) (Int32.le_refl 0) m0 (by lia)
    rw [← y_R1_len a2, ← y_R1_len lk, show x_ct 0 60 = 60 from by decide, show vI h (sf + (528 + 2 * rd.toNatClampNeg)) 1 - 0 + 1 = 1 + vI h (sf + (528 + 2 * rd.toNatClampNeg)) 1 from by grind] at RM
    refine l_gR T p1 (l_gR T p5 (l_gI (e := rd) n.1 (l_ln T kf (fun _ _ kl => l_gI (e := vI h (sf + (528 + 2 * rd.toNatClampNeg)) 1) rfl (l_gO (qi_b (y_hr (N := N) T ks.1) ?_))))))
    rintro ⟨y, h1⟩ ⟨e1, q⟩
    dsimp only at e1 q ⊢
    subst e1
    rw [ks.2] at q
    rcases q with ⟨q1, q2⟩ | ⟨q1, q2⟩
    · have rm := RM.mp q2
      rw [q1, if_neg (by decide), if_pos rm]
      refine l_gO (qi_b (y_tA (N := N) ly s) ?_)
      rintro ⟨y2, h2⟩ ⟨F2, I2, ⟨t1, t2, s2⟩ | ⟨t1, t2, s2⟩⟩
      · dsimp only at F2 I2 t1 s2 ⊢
        rw [t2, if_neg (by decide)]
        refine qi_zx (fun x _ => ?_) (fun E eE => by rw [t1] at eE; cases eE)
        obtain ⟨⟨T2, w1, w2, w3, w4, w5⟩, _, b1, b2, b3, b4, b5⟩ := id s2
        have l2 : vI h2 sp 1 = vI h1 sp 1 := by
          have z := (y_R1_len b2).symm.trans (y_R1_len a2)
          have e1 := x_ct_e b2.2.1.1 (Int32.le_refl 0)
          have e2 := x_ct_e a2.2.1.1 (Int32.le_refl 0)
          rw [← e1, ← e2, z]
        refine l_gR T2 w1 (l_gO (qi_b (y_ad (N := N) (c := 10) T2 ks.1 (by decide) b2.2.1.1 (by rw [ks.2, l2]; lia) (by rw [l2]; lia)) ?_))
        rintro h3 ⟨T3, f3, i3, v3⟩
        have s3 : y_S L e pg (sf + 3) π h3 sp ho dr _ (S ++ [10]) H [] := y_S_S s2 T3 f3 ⟨by rw [v3, b2.1], by rw [i3, l2]; constructor <;> lia, x_kt_a b2.2.2 (x_kt_1 x_kc10)⟩
        have F3 : y_F e h1 h3 := fun a ha => (f3 a (by omega) (by omega)).trans (F2 a ha)
        have I3 : ∀ k, vI h3 e k = vI h1 e k := fun k => by rw [x_vI_c (f3 e (by omega) (by omega)), I2 k]
        have RL := y_rL (N := N) es kf ly s3 (y_LN_f es ll F3) (by rw [I3, n.1]; exact r0) (by rw [I3, n.1]; exact rl') (by rw [I3, n.1, List.length_append, List.length_singleton]; omega)
        rw [I3, n.1] at RL
        refine l_gO (qi_b RL ?_)
        rintro h4 ⟨s4, F4, u4⟩
        refine qi_some ⟨y_F_t F3 F4, ⟨by rw [u4 4]; exact I3 4, by rw [u4 12]; exact I3 12⟩, π, sp, ho, dr, [], s4, ⟨by rw [u4 3]; rfl, by rw [u4 5]; exact (I3 5).trans n.2.1, by rw [u4 6]; exact (I3 6).trans n.2.2.1⟩, Or.inr ⟨rfl, rfl, by rw [u4 14]; exact (I3 14).trans n.2.2.2.2.2, fun _ => ⟨rfl, by rw [u4 15]; exact (I3 15).trans n.2.2.2.1, by rw [u4 13]; exact (I3 13).trans n.2.2.2.2.1⟩⟩⟩
      · dsimp only at F2 I2 t1 s2 ⊢
        rw [t2, if_pos rfl]
        refine qi_zx (fun x ex => by rw [t1] at ex; cases ex) (fun E eE => ?_)
        rw [t1] at eE
        cases eE
        exact y_P0 n F2 I2 s2 rfl
    · rw [q1, if_pos rfl, if_neg (fun z => absurd (RM.mpr z) (Int32.not_le.mpr q2))]
      exact qi_some (y_P0 n y_F_r (fun _ => rfl) s rfl)
theorem y_pD (es : e = sf + 9) (kf : qκ L sf = 12) (ly : y_L L e) (s : y_S L e pg (sf + 3) π h sp ho dr O S H A) (n : y_N h e rd cy rp sm nx) (ll : y_LN h sf lc LN) (hl : vI h e 12 = lc) (r0 : 0 ≤ rd) (rl : rd ≤ lc) : qi (f_Ed_deleteFirst N e h) (y_P L e pg (sf + 3) h (x_DE lc LN O S H A rd cy rp sm nx)) := by
  obtain ⟨⟨T, p1, p2, p3, p4, p5⟩, d, a1, a2, a3, a4, a5⟩ := id s
  have ks := y_kr ly d.1
  have d1 := d.1
  have k0 := a2.2.1.1
  have k1 := a2.2.1.2
  unfold f_Ed_deleteFirst f_Row_newlineFrom
  refine l_gR T p1 (l_gO (qi_b (y_nl2 (N := N) ks.1 N 0 h T (Int32.le_refl 0) k0 (by lia)) ?_))
  rintro ⟨q, h1⟩ ⟨e1, b0, bn, B1, B2⟩
  dsimp only at e1 b0 bn B1 B2 ⊢
  subst e1
  have TW := x_tw b0 bn (fun j j0 j1 => B1 j j0 j1) B2
  have zS : x_sl (vA h1 (sp + 1)) 0 (vI h1 sp 1) = S := a2.1
  rw [zS] at TW
  refine qi_bs (l_gR T p1 (l_gI (e := vI h1 sp 1) rfl ?_))
  unfold x_DE
  refine qi_if (fun c => ?_) (fun c => ?_)
  · rw [if_pos (TW.2.2 c)]
    have t := y_eC (N := N) (sh := 0) es kf ly s ll hl (by rw [n.1]; exact r0) (by rw [n.1]; exact rl)
    rw [n.1] at t
    refine l_gO (qi_b t ?_)
    rintro ⟨y, h2⟩ p
    exact y_zxu (y_EC_P n p)
  · have lt : q < vI h1 sp 1 := by lia
    have dw := TW.2.1 lt
    rw [if_neg (by rw [dw]; exact List.cons_ne_nil _ _)]
    refine l_gO (qi_b (y_tA (N := N) ly s) ?_)
    rintro ⟨y2, h2⟩ ⟨F2, I2, ⟨t1, t2, s2⟩ | ⟨t1, t2, s2⟩⟩
    · dsimp only at F2 I2 t1 s2 ⊢
      rw [t2, if_neg (by decide)]
      refine qi_zx (fun x _ => ?_) (fun E eE => by rw [t1] at eE; cases eE)
      obtain ⟨⟨T2, w1, w2, w3, w4, w5⟩, _, b1, b2, b3, b4, b5⟩ := id s2
      have SI := x_sl_i b2.2.1.1 a2.2.1.1 (b2.1.trans a2.1.symm)
      have DR := y_dr2 (N := N) (L := L) (π := π) (r := sp) (d := q + 1) (n := vI h2 sp 1) (f := vA h2 (sp + 1)) ks.1 (by lia) (by rw [SI.1]; lia) (by rw [SI.1]; lia) (x_kt_g (Int32.le_refl 0) b2.2.1.1 (by have z := b2.2.2; rw [← b2.1] at z; exact z)) N (q + 1) h2 T2 (Int32.le_refl _) (by rw [SI.1]; lia) rfl (fun j j0 j1 => absurd j1 (by rw [show q + 1 - (q + 1) = 0 from by grind]; exact Int32.not_lt.mpr j0)) (fun j _ => rfl)
      unfold f_Row_dropFirst
      refine l_gR T2 w1 (l_gO (qi_b DR ?_))
      rintro h3 ⟨T3, f3, i3, v3⟩
      have tl : (S.dropWhile x_n10).tail = x_sl (vA h2 (sp + 1)) (q + 1) (vI h2 sp 1) := by
        rw [dw, List.tail_cons, SI.1]
        exact x_sl_e (by lia) k0 (fun j j0 j1 => (SI.2 j (by lia) (by rw [SI.1]; exact j1)).symm)
      have s3 : y_S L e pg (sf + 3) π h3 sp ho dr _ (S.dropWhile x_n10).tail H [] := y_S_S s2 T3 f3 ⟨by rw [v3, tl], by rw [i3, SI.1]; constructor <;> lia, by rw [tl]; have z := b2.2.2; rw [← b2.1] at z; exact x_kt_s z b2.2.1.1 (by lia) (by rw [SI.1]; lia) (Int32.le_refl _)⟩
      have F3 : y_F e h1 h3 := fun a ha => (f3 a (by omega) (by omega)).trans (F2 a ha)
      have I3 : ∀ k, vI h3 e k = vI h1 e k := fun k => by rw [x_vI_c (f3 e (by omega) (by omega)), I2 k]
      refine l_gO (qi_b (y_bC (N := N) ly s3) ?_)
      rintro h4 ⟨s4, F4, u4⟩
      refine qi_some ⟨y_F_t F3 F4, ⟨by rw [u4 4]; exact I3 4, by rw [u4 12]; exact I3 12⟩, π, sp, ho, dr, [], s4, ⟨by rw [u4 3]; exact (I3 3).trans n.1, by rw [u4 5, I3 5, n.2.1]; rfl, by rw [u4 6]; exact (I3 6).trans n.2.2.1⟩, Or.inr ⟨rfl, rfl, by rw [u4 14]; exact (I3 14).trans n.2.2.2.2.2, fun _ => ⟨rfl, by rw [u4 15]; rfl, by rw [u4 13]; rfl⟩⟩⟩
    · dsimp only at F2 I2 t1 s2 ⊢
      rw [t2, if_pos rfl]
      refine qi_zx (fun x ex => by rw [t1] at ex; cases ex) (fun E eE => ?_)
      rw [t1] at eE
      cases eE
      exact y_P0 n F2 I2 s2 rfl
end YP
