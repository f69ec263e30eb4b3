/-! the editor of the class: a run from its beginning -/
/-- the editor between runs -/
def y_S0 (L : q_L) (e : Nat) (π : Nat → Nat → Option Nat) (h : z_H) (sp ho dr : Nat) (O S H A : List Int32) : Prop := (x_U L π h ∧ π e 1 = some sp ∧ π e 2 = some ho ∧ π e 9 = some dr) ∧ y_Dr e sp ho dr ∧ y_R1 h (e + 1) 600 O ∧ y_R1 h sp 60 S ∧ y_R1 h ho 60 H ∧ y_R1 h (e + 7) 200 A ∧ (0 ≤ vI h dr 1 ∧ vI h dr 1 ≤ 60)
theorem y_S_0 {L : q_L} {e pg ln : Nat} {π : Nat → Nat → Option Nat} {h : z_H} {sp ho dr : Nat} {O S H A : List Int32} (s : y_S L e pg ln π h sp ho dr O S H A) : y_S0 L e π h sp ho dr O S H A := ⟨⟨s.1.1, s.1.2.1, s.1.2.2.1, s.1.2.2.2.1⟩, s.2⟩
/-- where a run begins -/
def x_E0 (lc : Int32) (LN : Int32 → List Int32) : x_TT := if 0 = lc then (1, [], [], [], [], 0, 0, 0, 0, 0, 1) else (1, [], LN 0, [], [], 1, 1, 0, 0, 0, 0)
section Y16
variable {L : q_L} {e pg sf : Nat} {N : Nat} {h h0 : z_H} {π : Nat → Nat → Option Nat} {sp ho dr : Nat} {O S H A TX : List Int32} {LN : Int32 → List Int32} {lc : Int32}
/-- what begin leaves -/
def y_BG (L : q_L) (e pg ln : Nat) (π : Nat → Nat → Option Nat) (h0 : z_H) (sp ho dr : Nat) (lc : Int32) (E : x_TT) (r : z_H) : Prop := (∃ A', y_S L e pg ln π r sp ho dr (x_O E) (x_S8 E) (x_H8 E) A' ∧ (x_ov E = 0 → A' = x_A8 E ∧ vI r e 15 = x_sm E ∧ vI r e 13 = x_nx E)) ∧ (vI r e 3 = x_rd E ∧ vI r e 5 = x_cy E ∧ vI r e 6 = x_rp E ∧ vI r e 14 = x_ov E ∧ vI r e 4 = 0 ∧ vI r e 12 = lc) ∧ y_K0 e pg h0 r ∧ ∀ k, 0 ≤ k → k < vI h0 pg 3 → vI r (y_cm pg k) 15 = 0
theorem y_b55 (es : e = sf + 9) (kf : qκ L sf = 12) (hpg : e + 16 ≤ pg) (hpe : pg + 249 ≤ sf + 528) (ly : y_L L e) (kp : qκ L pg = 10) (ll : y_LN h0 sf lc LN) (s40 : vI h0 pg 3 ≤ 40) : ∀ (m : Nat) (i : Int32) (h : z_H), y_S L e pg (sf + 3) π h sp ho dr [] [] [] [] → (vI h e 3 = 0 ∧ vI h e 5 = 0 ∧ vI h e 6 = 0 ∧ vI h e 14 = 0 ∧ vI h e 4 = 0 ∧ vI h e 12 = lc) → y_K0 e pg h0 h → 0 ≤ i → (∀ k, 0 ≤ k → k < i → vI h (y_cm pg k) 15 = 0) → qi (f_Ed_begin_55 N m e i h) (y_BG L e pg (sf + 3) π h0 sp ho dr lc (x_E0 lc LN)) := by
  intro m
  induction m with
  | zero => intro i h s n K i0 ac r e; rw [f_Ed_begin_55] at e; cases e
  | succ m ih =>
    intro i h s n K i0 ac
    obtain ⟨⟨T, p1, p2, p3, p4, p5⟩, -⟩ := id s
    obtain ⟨n3, n5, n6, n14, n4, n12⟩ := n
    have szE : vI h pg 3 = vI h0 pg 3 := x_vI_c (K.1 pg (by omega) (by omega))
    rw [f_Ed_begin_55]
    refine l_gR T p4 (l_gI (e := vI h0 pg 3) szE ?_)
    refine qi_if (fun c => ?_) (fun c => ?_)
    · have BL := y_bL (N := N) es kf ly s (y_LN_k es hpe K ll) n12 (by rw [n3]; decide) (by rw [n3]; exact ll.1)
      rw [n3, n5] at BL
      refine l_gO (qi_b BL ?_)
      rintro h1 ⟨F1, ⟨c1, s1, u1⟩ | ⟨c1, s1, u1⟩⟩
      · unfold x_E0
        rw [if_pos c1]
        refine qi_some ⟨⟨[], s1, fun z => absurd (show (1 : Int32) = 0 from z) (by decide)⟩, ⟨by rw [u1 3]; exact n3, by rw [u1 5]; exact n5, by rw [u1 6]; exact n6, by rw [u1 14]; rfl, by rw [u1 4]; exact n4, by rw [u1 12]; exact n12⟩, y_K0_F hpg K F1, fun k k0 k1 => ?_⟩
        rw [x_vI_c (F1 _ (by unfold y_cm; omega))]
        exact ac k k0 (Int32.lt_of_lt_of_le k1 c)
      · unfold x_E0
        rw [if_neg c1]
        refine qi_some ⟨⟨[], s1, fun _ => ⟨rfl, by rw [u1 15]; rfl, by rw [u1 13]; rfl⟩⟩, ⟨by rw [u1 3]; rfl, by rw [u1 5]; rfl, by rw [u1 6]; exact n6, by rw [u1 14]; exact n14, by rw [u1 4]; exact n4, by rw [u1 12]; exact n12⟩, y_K0_F hpg K F1, fun k k0 k1 => ?_⟩
        rw [x_vI_c (F1 _ (by unfold y_cm; omega))]
        exact ac k k0 (Int32.lt_of_lt_of_le k1 c)
    · have cl := Int32.not_le.mp c
      refine l_gR T p4 (l_gR T (d_Prog_2 T kp) (l_Prog_e8 T kp (fun k0 k40 kc => l_sIc T kc (by decide) rfl ?_)))
      intro h1 T1 f1 u1
      have hi := x_cl40 k0 k40
      have ecm : y_cm pg i = pg + (9 + 6 * i.toNatClampNeg) := rfl
      have fe : ∀ k, vI h1 e k = vI h e k := fun k => x_vI_c (f1 e (by omega))
      refine qi_bs (ih (i + 1) h1 (y_S_x s T1 (fun a a1 a2 => f1 a (by omega))) ⟨by rw [fe]; exact n3, by rw [fe]; exact n5, by rw [fe]; exact n6, by rw [fe]; exact n14, by rw [fe]; exact n4, by rw [fe]; exact n12⟩ (y_K0_D hpg hi K (fun a _ a2 => f1 a a2) (fun k hk => by rw [u1 k, if_neg hk])) (by lia) (fun k kk0 kk1 => ?_))
      by_cases z : k = i
      · rw [z, ecm, u1 15, if_pos rfl]
      · have ne : k.toNatClampNeg ≠ i.toNatClampNeg := fun w => z (x_cli kk0 k0 w)
        rw [x_vI_c (f1 _ (by unfold y_cm; omega))]
        exact ac k kk0 (by lia)
theorem y_bg (es : e = sf + 9) (kf : qκ L sf = 12) (hpg : e + 16 ≤ pg) (hpe : pg + 249 ≤ sf + 528) (ly : y_L L e) (kp : qκ L pg = 10) (ll : y_LN h0 sf lc LN) (s40 : vI h0 pg 3 ≤ 40) (s : y_S L e pg (sf + 3) π h sp ho dr O S H A) (h12 : vI h e 12 = lc) (K : y_K0 e pg h0 h) : qi (f_Ed_begin N e h) (y_BG L e pg (sf + 3) π h0 sp ho dr lc (x_E0 lc LN)) := by
  obtain ⟨⟨T, p1, p2, p3, p4, p5⟩, d, -⟩ := id s
  obtain ⟨d1, d2, d3, d4, d5, d6⟩ := d
  have ks := y_kr ly d1
  have kh := y_kr ly d2
  have kz : ∀ (h' : z_H) (r : Nat) (c : Int32), 0 ≤ c → x_rw h' r = [] → vI h' r 1 = 0 → y_R1 h' r c [] := fun h' r c c0 w i => ⟨w, by rw [i]; exact ⟨Int32.le_refl 0, c0⟩, x_kt_0⟩
  unfold f_Ed_begin
  refine l_gR T (d_Ed_0 T ly.1) (l_gO (qi_b (y_em (N := N) T ly.2.2.2.2.1.1) ?_))
  rintro h1 ⟨T1, f1, i1, w1⟩
  have s1 := y_S_O s T1 (fun b b1 _ => f1 b b1) (kz h1 (e + 1) 600 (by decide) w1 i1)
  refine l_gR T1 p1 (l_gO (qi_b (y_em (N := N) T1 ks.1) ?_))
  rintro h2 ⟨T2, f2, i2, w2⟩
  have s2 := y_S_S s1 T2 (fun b b1 _ => f2 b b1) (kz h2 sp 60 (by decide) w2 i2)
  refine l_gR T2 p2 (l_gO (qi_b (y_em (N := N) T2 kh.1) ?_))
  rintro h3 ⟨T3, f3, i3, w3⟩
  have s3 := y_S_H s2 T3 (fun b b1 _ => f3 b b1) (kz h3 ho 60 (by decide) w3 i3)
  refine l_gR T3 (d_Ed_7 T3 ly.1) (l_gO (qi_b (y_em (N := N) T3 ly.2.2.2.2.2.1.1) ?_))
  rintro h4 ⟨T4, f4, i4, w4⟩
  have s4 := y_S_A s3 T4 (fun b b1 _ => f4 b b1) (kz h4 (e + 7) 200 (by decide) w4 i4)
  refine l_sIc T4 ly.1 (by decide) rfl ?_
  intro h5 T5 f5 u5
  refine l_sIc T5 ly.1 (by decide) rfl ?_
  intro h6 T6 f6 u6
  refine l_sIc T6 ly.1 (by decide) rfl ?_
  intro h7 T7 f7 u7
  refine l_sIc T7 ly.1 (by decide) rfl ?_
  intro h8 T8 f8 u8
  refine l_sIc T8 ly.1 (by decide) rfl ?_
  intro h9 T9 f9 u9
  have s9 := y_S_e (y_S_e (y_S_e (y_S_e (y_S_e s4 T5 f5) T6 f6) T7 f7) T8 f8) T9 f9
  have F9 : y_F e h h9 := fun a ha => (f9 a (by omega)).trans ((f8 a (by omega)).trans ((f7 a (by omega)).trans ((f6 a (by omega)).trans ((f5 a (by omega)).trans ((f4 a (by omega)).trans ((f3 a (by omega)).trans ((f2 a (by omega)).trans (f1 a (by omega)))))))))
  refine y_b55 (N := N) es kf hpg hpe ly kp ll s40 N 0 h9 s9 ⟨?_, ?_, ?_, ?_, ?_, ?_⟩ (y_K0_F hpg K F9) (Int32.le_refl 0) (fun k k0 k1 => absurd (Int32.lt_of_le_of_lt k0 k1) Int32.lt_irrefl)
  · rw [u9 3, if_neg (by decide), u8 3, if_neg (by decide), u7 3, if_neg (by decide), u6 3, if_neg (by decide), u5 3, if_pos rfl]
  · rw [u9 5, if_neg (by decide), u8 5, if_neg (by decide), u7 5, if_pos rfl]
  · rw [u9 6, if_neg (by decide), u8 6, if_pos rfl]
  · rw [u9 14, if_pos rfl]
  · rw [u9 4, if_neg (by decide), u8 4, if_neg (by decide), u7 4, if_neg (by decide), u6 4, if_pos rfl]
  · rw [u9 12, if_neg (by decide), u8 12, if_neg (by decide), u7 12, if_neg (by decide), u6 12, if_neg (by decide), u5 12, if_neg (by decide), x_vI_c (f4 e (by omega)), x_vI_c (f3 e (by omega)), x_vI_c (f2 e (by omega)), x_vI_c (f1 e (by omega)), h12]
theorem x_E0_1 : (x_E0 lc LN).1 = 1 ∧ (x_rd (x_E0 lc LN) = 0 ∨ (x_rd (x_E0 lc LN) = 1 ∧ ¬ 0 = lc)) := by
  unfold x_E0
  by_cases z : 0 = lc
  · rw [if_pos z]; exact ⟨rfl, Or.inl rfl⟩
  · rw [if_neg z]; exact ⟨rfl, Or.inr ⟨rfl, z⟩⟩
/-- edit -/
theorem y_ed (es : e = sf + 9) (kf : qκ L sf = 12) (hpg : e + 16 ≤ pg) (hpe : pg + 249 ≤ sf + 528) (ly : y_L L e) (kp : qκ L pg = 10) (rt : y_R1 h (pg + 1) 240 TX) (ll : y_LN h sf lc LN) (PG : y_PRG h pg) (s40 : vI h pg 3 ≤ 40) (s : y_S0 L e π h sp ho dr O S H A) : qi (f_Ed_edit N e pg (sf + 3) lc h) (fun r => ∃ M st E' bg', y_run h pg lc LN M (x_E0 lc LN) 0 (fun _ => 0) = some (st, E', bg') ∧ y_RES L e pg (sf + 3) h st E' bg' r) := by
  obtain ⟨⟨T, p1, p2, p3⟩, d, a1, a2, a3, a4, a5⟩ := id s
  have d' := d
  obtain ⟨d1, d2, d3, d4, d5, d6⟩ := d'
  unfold f_Ed_edit
  refine l_Ed_10 T ly.1 ?_
  intro π1 h1 T1 e1 c1 i1
  refine l_Ed_11 T1 ly.1 ?_
  intro π2 h2 T2 e2 c2 i2
  refine l_sIc T2 ly.1 (by decide) rfl ?_
  intro h3 T3 c3 u3
  have C : ∀ b, b ≠ e → h3 b = h b := fun b hb => (c3 b hb).trans ((c2 b hb).trans (c1 b hb))
  have s3 : y_S L e pg (sf + 3) π2 h3 sp ho dr O S H A := by
    refine ⟨⟨T3, ?_, ?_, ?_, ?_, ?_⟩, d, y_R1_c a1 (C _ (by omega)) (C _ (by omega)), y_R1_c a2 (C _ (by omega)) (C _ (by omega)), y_R1_c a3 (C _ (by omega)) (C _ (by omega)), y_R1_c a4 (C _ (by omega)) (C _ (by omega)), ?_⟩
    · rw [e2, if_neg (by omega), e1, if_neg (by omega)]; exact p1
    · rw [e2, if_neg (by omega), e1, if_neg (by omega)]; exact p2
    · rw [e2, if_neg (by omega), e1, if_neg (by omega)]; exact p3
    · rw [e2, if_neg (by omega), e1, if_pos ⟨rfl, rfl⟩]
    · rw [e2, if_pos ⟨rfl, rfl⟩]
    · rw [x_vI_c (C dr (by omega))]; exact a5
  have K3 : y_K0 e pg h h3 := ⟨fun a a1 _ => C a (by omega), fun i hi k _ => x_vI_c (C _ (by omega))⟩
  refine l_gO (qi_b (y_bg (N := N) es kf hpg hpe ly kp ll s40 s3 (by rw [u3 12, if_pos rfl]) K3) ?_)
  rintro h4 ⟨⟨A', s4, z4⟩, ⟨n3, n5, n6, n14, n4, n12⟩, K4, ac⟩
  have E01 := x_E0_1 (lc := lc) (LN := LN)
  have l0 := ll.1
  have rr : 0 ≤ x_rd (x_E0 lc LN) ∧ x_rd (x_E0 lc LN) ≤ lc := by
    rcases E01.2 with w | ⟨w, w'⟩
    · rw [w]; exact ⟨Int32.le_refl 0, l0⟩
    · rw [w]; exact ⟨by decide, by lia⟩
  exact y_e22 (N := N) es kf hpg hpe ly kp T rt ll PG s40 N 0 π2 sp ho dr A' (x_E0 lc LN) 0 (fun _ => 0) h4 E01.1 s4 ⟨n3, n5, n6, n14, z4⟩ n4 n12 ac K4 rr.1 rr.2 (Int32.le_refl 0) (by decide) (Int32.le_refl 0) (fun _ => by have := rr.1; lia)
end Y16
