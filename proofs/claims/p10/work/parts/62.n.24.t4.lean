/-! the editor of the class: telling, the end of a cycle -/
theorem x_kt_s {f : Int32 → Int32} {n a b : Int32} (k : x_kt (x_sl f 0 n)) (n0 : 0 ≤ n) (a0 : 0 ≤ a) (ab : a ≤ b) (bn : b ≤ n) : x_kt (x_sl f a b) := x_kt_f a0 ab (fun j j0 j1 => x_kt_g (Int32.le_refl 0) n0 k j (Int32.le_trans a0 j0) (Int32.lt_of_lt_of_le j1 bn))
theorem x_kc10 : x_kc 10 := Or.inl rfl
theorem x_ta_k : ∀ (A O cur : List Int32), x_kt O → x_kt cur → x_kt A → x_kt (x_ta O cur A).1
  | [], O, cur, o, _, _ => by rw [x_ta]; exact o
  | c :: r, O, cur, o, k, a => by
    have ac : x_kc c := a c (List.mem_cons_self)
    have ar : x_kt r := fun d hd => a d (List.mem_cons_of_mem _ hd)
    rw [x_ta]
    by_cases q : c = 10
    · rw [if_pos q]
      by_cases w : O.length + cur.length + 1 ≤ 600
      · rw [if_pos w]; exact x_ta_k r _ _ (x_kt_a (x_kt_a o k) (x_kt_1 x_kc10)) x_kt_0 ar
      · rw [if_neg w]; exact o
    · rw [if_neg q]; exact x_ta_k r _ _ o (x_kt_a k (x_kt_1 ac)) ar
theorem x_ta_2 : ∀ (A O cur : List Int32), (x_ta O cur A).2 = 0 ∨ (x_ta O cur A).2 = 1
  | [], O, cur => by rw [x_ta]; exact Or.inr rfl
  | c :: r, O, cur => by
    rw [x_ta]
    by_cases q : c = 10
    · rw [if_pos q]
      by_cases w : O.length + cur.length + 1 ≤ 600
      · rw [if_pos w]; exact x_ta_2 r _ _
      · rw [if_neg w]; exact Or.inl rfl
    · rw [if_neg q]; exact x_ta_2 r _ _
/-- behind what a cycle tells: what is appended, the next line (0: no room, 1: a line, 2: no more) -/
def x_e2 (lc : Int32) (LN : Int32 → List Int32) (O S A : List Int32) (rd : Int32) : Int32 × List Int32 × List Int32 := if (x_ta O [] A).2 = 0 then (0, (x_ta O [] A).1, S) else if rd = lc then (2, (x_ta O [] A).1, S) else (1, (x_ta O [] A).1, LN rd)
def x_ec (sh lc : Int32) (LN : Int32 → List Int32) (O S A : List Int32) (rd : Int32) : Int32 × List Int32 × List Int32 := if sh = 0 then x_e2 lc LN O S A rd else if O.length + S.length + 1 ≤ 600 then x_e2 lc LN (O ++ S ++ [10]) S A rd else (0, O, S)
def x_qt (O S A : List Int32) : Int32 × List Int32 := if O.length + S.length + 1 ≤ 600 then (if (x_ta (O ++ S ++ [10]) [] A).2 = 0 then 0 else 2, (x_ta (O ++ S ++ [10]) [] A).1) else (0, O)
/-- what the end of a cycle leaves -/
def y_EC (L : q_L) (e pg ln : Nat) (π : Nat → Nat → Option Nat) (h : z_H) (sp ho dr : Nat) (H : List Int32) (R : Int32 × List Int32 × List Int32) (r : (Unit ⊕ String) × z_H) : Prop := y_F e h r.2 ∧ ((R.1 = 0 ∧ r.1 = .inr xE3 ∧ (∃ A', y_S L e pg ln π r.2 sp ho dr R.2.1 R.2.2 H A') ∧ ∀ k, vI r.2 e k = vI h e k) ∨ (R.1 = 2 ∧ r.1 = .inl () ∧ y_S L e pg ln π r.2 sp ho dr R.2.1 R.2.2 H [] ∧ ∀ k, vI r.2 e k = if k = 14 then 1 else vI h e k) ∨ (R.1 = 1 ∧ r.1 = .inl () ∧ y_S L e pg ln π r.2 sp ho dr R.2.1 R.2.2 H [] ∧ ∀ k, vI r.2 e k = if k = 13 then 0 else if k = 15 then 0 else if k = 5 then vI h e 5 + 1 else if k = 3 then vI h e 3 + 1 else vI h e k))
section YT
variable {L : q_L} {e pg sf ln : Nat} {π : Nat → Nat → Option Nat} {N : Nat} {h h0 : z_H} {sp ho dr : Nat} {O S H A : List Int32} {LN : Int32 → List Int32} {lc : Int32}
/-- a part of a row is told -/
theorem y_tR {o : Nat} {v2 v3 c : Int32} {X : List Int32} (ly : y_L L e) (s : y_S L e pg ln π h sp ho dr O S H A) (ko : qκ L o = 11) (D : e + 2 < o ∨ o + 1 < e) (ro : y_R1 h o c X) (cc : c ≤ 1000) (a0 : 0 ≤ v2) (ab : v2 ≤ v3) (bo : v3 ≤ vI h o 1) : qi (f_Ed_tell N e o v2 v3 h) (fun r => (r.1 = .inl () ∧ O.length + x_ct v2 v3 + 1 ≤ 600 ∧ y_S L e pg ln π r.2 sp ho dr (O ++ x_sl (vA h (o + 1)) v2 v3 ++ [10]) S H A ∧ y_F e h r.2 ∧ ∀ k, vI r.2 e k = vI h e k) ∨ (r.1 = .inr xE3 ∧ ¬ O.length + x_ct v2 v3 + 1 ≤ 600 ∧ r.2 = h)) := by
  obtain ⟨⟨T, p1, p2, p3, p4, p5⟩, d, a1, a2, a3, a4, a5⟩ := id s
  refine qi_mono (y_tell (N := N) T ly.1 ly.2.2.2.2.1.1 ko (by omega) ly.2.2.2.2.1.2 a1.2.1.1 a1.2.1.2 a0 ab bo (Int32.le_trans ro.2.1.2 cc) (by rw [ro.1]; exact ro.2.2)) ?_
  rw [a1.1]
  rintro r (⟨q1, q2, T1, f1, w1, m0, m1⟩ | q)
  · refine Or.inl ⟨q1, q2, y_S_O s T1 f1 ⟨w1, ⟨m0, m1⟩, ?_⟩, fun a ha => f1 a (by omega) (by omega), fun k => x_vI_c (f1 e (by omega) (by omega))⟩
    have k := ro.2.2
    rw [← ro.1] at k
    exact x_kt_a (x_kt_a a1.2.2 (x_kt_s k ro.2.1.1 a0 ab bo)) (x_kt_1 x_kc10)
  · exact Or.inr q
/-- the space is told -/
theorem y_tS (ly : y_L L e) (s : y_S L e pg ln π h sp ho dr O S H A) : qi (f_Ed_tell N e sp 0 (vI h sp 1) h) (fun r => (r.1 = .inl () ∧ O.length + S.length + 1 ≤ 600 ∧ y_S L e pg ln π r.2 sp ho dr (O ++ S ++ [10]) S H A ∧ y_F e h r.2 ∧ ∀ k, vI r.2 e k = vI h e k) ∨ (r.1 = .inr xE3 ∧ ¬ O.length + S.length + 1 ≤ 600 ∧ r.2 = h)) := by
  obtain ⟨⟨T, p1, p2, p3, p4, p5⟩, d, a1, a2, a3, a4, a5⟩ := id s
  have d1 := d.1
  have t := y_tR (N := N) (o := sp) (v2 := 0) (v3 := vI h sp 1) ly s (y_kr ly d.1).1 (by omega) a2 (by decide) (Int32.le_refl 0) a2.2.1.1 (Int32.le_refl _)
  rw [← y_R1_len a2] at t
  have z : x_sl (vA h (sp + 1)) 0 (vI h sp 1) = S := a2.1
  rw [z] at t
  exact t
/-- what is appended is told -/
theorem y_tA (ly : y_L L e) (s : y_S L e pg ln π h sp ho dr O S H A) : qi (f_Ed_tellAppended N e h) (fun r => y_F e h r.2 ∧ (∀ k, vI r.2 e k = vI h e k) ∧ ((r.1 = .inl () ∧ (x_ta O [] A).2 = 1 ∧ y_S L e pg ln π r.2 sp ho dr (x_ta O [] A).1 S H []) ∨ (r.1 = .inr xE3 ∧ (x_ta O [] A).2 = 0 ∧ y_S L e pg ln π r.2 sp ho dr (x_ta O [] A).1 S H A))) := by
  obtain ⟨⟨T, p1, p2, p3, p4, p5⟩, d, a1, a2, a3, a4, a5⟩ := id s
  have d' := d
  obtain ⟨d1, d2, d3, d4, d5, d6⟩ := d'
  have z : x_sl (vA h (e + 8)) 0 (vI h (e + 7) 1) = A := a4.1
  have kA := a4.2.2
  rw [← z] at kA
  have t := y_tA4 (N := N) (π := π) ly.1 ly.2.2.2.2.1.1 ly.2.2.2.2.2.1.1 ly.2.2.2.2.1.2 (A := vA h (e + 8)) (n := vI h (e + 7) 1) a4.2.1.2 (x_kt_g (Int32.le_refl 0) a4.2.1.1 kA) N 0 0 h T rfl rfl (Int32.le_refl 0) (Int32.le_refl 0) a4.2.1.1 a1.2.1.1 a1.2.1.2
  rw [z, x_sl_0 (Int32.le_refl 0) (by decide) (by decide), a1.1] at t
  unfold f_Ed_tellAppended
  refine qi_mono t ?_
  rintro r ⟨t1, t2, t3, t4, t5, t6⟩
  have kO := x_ta_k A O [] a1.2.2 x_kt_0 a4.2.2
  have mk : ∀ A', y_R1 r.2 (e + 7) 200 A' → y_S L e pg ln π r.2 sp ho dr (x_ta O [] A).1 S H A' := fun A' ra => ⟨⟨t1, p1, p2, p3, p4, p5⟩, d, ⟨t5, ⟨t3, t4⟩, kO⟩, y_R1_c a2 (t2 _ (by omega) (by omega) (by omega)) (t2 _ (by omega) (by omega) (by omega)), y_R1_c a3 (t2 _ (by omega) (by omega) (by omega)) (t2 _ (by omega) (by omega) (by omega)), ra, by rw [x_vI_c (t2 dr (by omega) (by omega) (by omega))]; exact a5⟩
  have F : y_F e h r.2 := fun a ha => t2 a (by omega) (by omega) (by omega)
  have I : ∀ k, vI r.2 e k = vI h e k := fun k => x_vI_c (t2 e (by omega) (by omega) (by omega))
  rcases t6 with ⟨u1, u2, u3⟩ | ⟨u1, u2, u3⟩
  · refine ⟨F, I, Or.inl ⟨u1, u2, mk [] ⟨?_, by rw [u3]; decide, x_kt_0⟩⟩⟩
    unfold x_rw
    rw [u3]
    exact x_sl_0 (by decide) (by decide) (by decide)
  · refine ⟨F, I, Or.inr ⟨u1, u2, mk A ⟨?_, by rw [u3]; exact a4.2.1, a4.2.2⟩⟩⟩
    unfold x_rw
    rw [u3, x_vA_c (t2 (e + 7 + 1) (by omega) (by omega) (by omega))]
    exact z
theorem y_eC20 (es : e = sf + 9) (kf : qκ L sf = 12) (ly : y_L L e) (s : y_S L e pg (sf + 3) π h sp ho dr O S H A) (ll : y_LN h sf lc LN) (hl : vI h e 12 = lc) (r0 : 0 ≤ vI h e 3) (rl : vI h e 3 ≤ lc) : qi (f_Ed_endCycle_20 N e h) (y_EC L e pg (sf + 3) π h sp ho dr H (x_e2 lc LN O S A (vI h e 3))) := by
  unfold f_Ed_endCycle_20 x_e2
  refine l_gO (qi_b (y_tA (N := N) ly s) ?_)
  rintro ⟨y, h1⟩ ⟨F1, I1, ⟨q1, q2, s1⟩ | ⟨q1, q2, s1⟩⟩
  · dsimp only at F1 I1 q1 s1 ⊢
    rw [q2, if_neg (by decide)]
    refine qi_zx (fun x _ => ?_) (fun E eE => by rw [q1] at eE; cases eE)
    refine l_gO (qi_b (y_bL (N := N) es kf ly s1 (y_LN_f es ll F1) (by rw [I1, hl]) (by rw [I1]; exact r0) (by rw [I1]; exact rl)) ?_)
    rintro h2 ⟨F2, ⟨c, s2, u2⟩ | ⟨c, s2, u2⟩⟩
    · rw [I1] at c
      rw [if_pos c]
      exact qi_some ⟨y_F_t F1 F2, Or.inr (Or.inl ⟨rfl, rfl, s2, fun k => by rw [u2 k, I1 k]⟩)⟩
    · rw [I1] at c s2
      rw [if_neg c]
      exact qi_some ⟨y_F_t F1 F2, Or.inr (Or.inr ⟨rfl, rfl, s2, fun k => by rw [u2 k, I1 k, I1 5, I1 3]⟩)⟩
  · dsimp only at F1 I1 q1 s1 ⊢
    rw [q2, if_pos rfl]
    refine qi_zx (fun x ex => by rw [q1] at ex; cases ex) (fun E eE => ?_)
    rw [q1] at eE
    cases eE
    exact ⟨F1, Or.inl ⟨rfl, rfl, ⟨A, s1⟩, I1⟩⟩
theorem y_eC {sh : Int32} (es : e = sf + 9) (kf : qκ L sf = 12) (ly : y_L L e) (s : y_S L e pg (sf + 3) π h sp ho dr O S H A) (ll : y_LN h sf lc LN) (hl : vI h e 12 = lc) (r0 : 0 ≤ vI h e 3) (rl : vI h e 3 ≤ lc) : qi (f_Ed_endCycle N e sh h) (y_EC L e pg (sf + 3) π h sp ho dr H (x_ec sh lc LN O S A (vI h e 3))) := by
  obtain ⟨⟨T, p1, p2, p3, p4, p5⟩, -⟩ := id s
  unfold f_Ed_endCycle x_ec
  refine qi_if (fun c => ?_) (fun c => ?_)
  · rw [if_pos c]
    exact y_eC20 (N := N) es kf ly s ll hl r0 rl
  · rw [if_neg c]
    refine l_gR T p1 (l_gR T p1 (l_gI (e := vI h sp 1) rfl (l_gO (qi_b (y_tS (N := N) ly s) ?_))))
    rintro ⟨y, h1⟩ (⟨q1, q2, s1, F1, I1⟩ | ⟨q1, q2, q3⟩)
    · dsimp only at q1 s1 F1 I1 ⊢
      rw [if_pos q2]
      refine qi_zx (fun x _ => ?_) (fun E eE => by rw [q1] at eE; cases eE)
      have t := y_eC20 (N := N) es kf ly s1 (y_LN_f es ll F1) (by rw [I1, hl]) (by rw [I1]; exact r0) (by rw [I1]; exact rl)
      rw [I1] at t
      refine qi_mono t ?_
      rintro r ⟨F2, ⟨u1, u2, u3, u4⟩ | ⟨u1, u2, u3, u4⟩ | ⟨u1, u2, u3, u4⟩⟩
      · exact ⟨y_F_t F1 F2, Or.inl ⟨u1, u2, u3, fun k => by rw [u4 k, I1 k]⟩⟩
      · exact ⟨y_F_t F1 F2, Or.inr (Or.inl ⟨u1, u2, u3, fun k => by rw [u4 k, I1 k]⟩)⟩
      · exact ⟨y_F_t F1 F2, Or.inr (Or.inr ⟨u1, u2, u3, fun k => by rw [u4 k, I1 k, I1 5, I1 3]⟩)⟩
    · dsimp only at q1 q3 ⊢
      rw [if_neg q2]
      refine qi_zx (fun x ex => by rw [q1] at ex; cases ex) (fun E eE => ?_)
      rw [q1] at eE
      cases eE
      rw [q3]
      exact ⟨y_F_r, Or.inl ⟨rfl, rfl, ⟨A, s⟩, fun _ => rfl⟩⟩
/-- what quit leaves -/
theorem y_qt (ly : y_L L e) (s : y_S L e pg ln π h sp ho dr O S H A) : qi (f_Ed_quit N e h) (fun r => y_F e h r.2 ∧ (((x_qt O S A).1 = 0 ∧ r.1 = .inr xE3 ∧ (∃ A', y_S L e pg ln π r.2 sp ho dr (x_qt O S A).2 S H A') ∧ ∀ k, vI r.2 e k = vI h e k) ∨ ((x_qt O S A).1 = 2 ∧ r.1 = .inl () ∧ y_S L e pg ln π r.2 sp ho dr (x_qt O S A).2 S H [] ∧ ∀ k, vI r.2 e k = if k = 14 then 1 else vI h e k))) := by
  obtain ⟨⟨T, p1, p2, p3, p4, p5⟩, -⟩ := id s
  unfold f_Ed_quit x_qt
  refine l_gR T p1 (l_gR T p1 (l_gI (e := vI h sp 1) rfl (l_gO (qi_b (y_tS (N := N) ly s) ?_))))
  rintro ⟨y, h1⟩ (⟨q1, q2, s1, F1, I1⟩ | ⟨q1, q2, q3⟩)
  · dsimp only at q1 s1 F1 I1 ⊢
    rw [if_pos q2]
    refine qi_zx (fun x _ => ?_) (fun E eE => by rw [q1] at eE; cases eE)
    refine l_gO (qi_b (y_tA (N := N) ly s1) ?_)
    rintro ⟨y2, h2⟩ ⟨F2, I2, ⟨t1, t2, s2⟩ | ⟨t1, t2, s2⟩⟩
    · dsimp only at F2 I2 t1 s2 ⊢
      rw [t2, if_neg (by decide)]
      refine qi_zx (fun x _ => ?_) (fun E eE => by rw [t1] at eE; cases eE)
      refine l_sIc s2.1.1 ly.1 (by decide) rfl ?_
      intro h3 T3 c3 u3
      exact qi_some ⟨y_F_t F1 (y_F_t F2 (fun a ha => c3 a (by omega))), Or.inr ⟨rfl, rfl, y_S_e s2 T3 c3, fun k => by rw [u3 k, I2 k, I1 k]⟩⟩
    · dsimp only at F2 I2 t1 s2 ⊢
      rw [t2, if_pos rfl]
      refine qi_zx (fun x ex => by rw [t1] at ex; cases ex) (fun E eE => ?_)
      rw [t1] at eE
      cases eE
      exact ⟨y_F_t F1 F2, Or.inl ⟨rfl, rfl, ⟨A, s2⟩, fun k => by rw [I2 k, I1 k]⟩⟩
  · dsimp only at q1 q3 ⊢
    rw [if_neg q2]
    refine qi_zx (fun x ex => by rw [q1] at ex; cases ex) (fun E eE => ?_)
    rw [q1] at eE
    cases eE
    rw [q3]
    exact ⟨y_F_r, Or.inl ⟨rfl, rfl, ⟨A, s⟩, fun _ => rfl⟩⟩
end YT
