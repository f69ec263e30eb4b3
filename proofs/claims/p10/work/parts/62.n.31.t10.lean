/-! the editor of the class: drafts -/
/-- what a replacement says, as codes: 200 what was found, 201 to 203 what a group took -/
def x_cd (tx : Int32 → Int32) (g : Int32) : Nat → Int32 → Option (List Int32)
  | 0, _ => some []
  | 1, i => if tx i = 92 then none else some [if tx i = 38 then 200 else tx i]
  | m + 2, i => if tx i = 92 then (if 49 ≤ tx (i + 1) ∧ tx (i + 1) ≤ 51 then (if tx (i + 1) - 48 ≤ g then (x_cd tx g m (i + 2)).map (List.cons (200 + (tx (i + 1) - 48))) else none) else (x_cd tx g m (i + 2)).map (List.cons (if tx (i + 1) = 110 then 10 else tx (i + 1)))) else (x_cd tx g (m + 1) (i + 1)).map (List.cons (if tx i = 38 then 200 else tx i))
def x_cx (S : List Int32) (st t : Int32) (gb ge : Int32 → Int32) (c : Int32) : List Int32 := if c < 200 then [c] else if c = 200 then x_sl (x_tl S) st t else x_sl (x_tl S) (gb (c - 200)) (ge (c - 200))
def x_rx (S : List Int32) (st t : Int32) (gb ge : Int32 → Int32) (CD : List Int32) : List Int32 := (CD.map (x_cx S st t gb ge)).flatten
theorem x_rx_c {S : List Int32} {st t : Int32} {gb ge : Int32 → Int32} {c : Int32} {CD : List Int32} : x_rx S st t gb ge (c :: CD) = x_cx S st t gb ge c ++ x_rx S st t gb ge CD := by
  unfold x_rx; rw [List.map_cons, List.flatten_cons]
theorem x_rm0 {n a b c : Int32} (n0 : 0 ≤ n) (nc : n ≤ c) (c1 : c ≤ 1000) (a0 : 0 ≤ a) (ab : a ≤ b) (b1 : b ≤ 1000) : b - a ≤ c - n ↔ x_ct 0 n + x_ct a b ≤ x_ct 0 c := by
  have q1 := x_ct_t n0 (Int32.le_refl 0)
  have q2 := x_ct_t ab a0
  have q3 := x_ct_t (Int32.le_trans n0 nc) (Int32.le_refl 0)
  have z : (0 : Int32).toInt = 0 := rfl
  rw [z] at q1 q3
  have e1 : (b - a).toInt = b.toInt - a.toInt := x_ti_s a0 (Int32.le_trans a0 ab)
  have e3 : (c - n).toInt = c.toInt - n.toInt := x_ti_s n0 (Int32.le_trans n0 nc)
  rw [Int32.le_iff_toInt_le, e1, e3]
  omega
/-- what comes to the draft -/
def y_DP (L : q_L) (e pg ln : Nat) (π : Nat → Nat → Option Nat) (h : z_H) (sp ho dr : Nat) (O S H A D X : List Int32) (r : (Unit ⊕ String) × z_H) : Prop := y_S L e pg ln π r.2 sp ho dr O S H A ∧ (∀ b, b ≠ dr → b ≠ dr + 1 → r.2 b = h b) ∧ ((r.1 = .inl () ∧ D.length + X.length ≤ 60 ∧ y_R1 r.2 dr 60 (D ++ X)) ∨ (r.1 = .inr xE3 ∧ ¬ D.length + X.length ≤ 60))
section Y10
variable {L : q_L} {e pg sf ln : Nat} {π : Nat → Nat → Option Nat} {N : Nat} {h h1 : z_H} {sp ho dr : Nat} {O S H A D X Y : List Int32} {lc : Int32} {rd cy rp sm nx : Int32}
theorem y_DP_0 (s : y_S L e pg ln π h sp ho dr O S H A) (rr : y_R1 h dr 60 D) : y_DP L e pg ln π h sp ho dr O S H A D [] (.inl (), h) := ⟨s, fun _ _ _ => rfl, Or.inl ⟨rfl, by
  have q := rr.2.1
  rw [y_R1_len rr]
  have q1 := x_ct_t q.1 (Int32.le_refl 0)
  have z : (0 : Int32).toInt = 0 := rfl
  have z6 : (60 : Int32).toInt = 60 := rfl
  have q2 := Int32.le_iff_toInt_le.mp q.2
  rw [z] at q1
  rw [z6] at q2
  show x_ct 0 (vI h dr 1) + 0 ≤ 60
  omega, by rw [List.append_nil]; exact rr⟩⟩
/-- one part behind the other -/
theorem y_DP_b {β : Type} {y : Unit ⊕ String} {k : Unit → z_H → Option ((Unit ⊕ String) × z_H)} (p : y_DP L e pg ln π h sp ho dr O S H A D X (y, h1)) (K : y_S L e pg ln π h1 sp ho dr O S H A → y_R1 h1 dr 60 (D ++ X) → (∀ b, b ≠ dr → b ≠ dr + 1 → h1 b = h b) → qi (k () h1) (y_DP L e pg ln π h1 sp ho dr O S H A (D ++ X) Y)) : qi (zx_k (y, h1) k) (y_DP L e pg ln π h sp ho dr O S H A D (X ++ Y)) := by
  obtain ⟨s1, f1, ⟨q1, q2, q3⟩ | ⟨q1, q2⟩⟩ := p
  · dsimp only at s1 f1 q1 q3
    refine qi_zx (fun x _ => qi_mono (K s1 q3 f1) ?_) (fun E eE => by rw [q1] at eE; cases eE)
    rintro r ⟨s2, f2, ⟨t1, t2, t3⟩ | ⟨t1, t2⟩⟩
    · refine ⟨s2, fun b b1 b2 => (f2 b b1 b2).trans (f1 b b1 b2), Or.inl ⟨t1, ?_, by rw [← List.append_assoc]; exact t3⟩⟩
      rw [List.length_append] at t2 ⊢
      omega
    · refine ⟨s2, fun b b1 b2 => (f2 b b1 b2).trans (f1 b b1 b2), Or.inr ⟨t1, ?_⟩⟩
      rw [List.length_append] at t2 ⊢
      omega
  · dsimp only at s1 f1 q1
    refine qi_zx (fun x ex => by rw [q1] at ex; cases ex) (fun E eE => ?_)
    rw [q1] at eE
    cases eE
    refine ⟨s1, f1, Or.inr ⟨rfl, ?_⟩⟩
    rw [List.length_append]
    omega
theorem y_dP {a b : Int32} (ly : y_L L e) (s : y_S L e pg ln π h sp ho dr O S H A) (rr : y_R1 h dr 60 D) (a0 : 0 ≤ a) (ab : a ≤ b) (bn : b ≤ x_nl8 S) : qi (f_Ed_draftPart N e a b h) (y_DP L e pg ln π h sp ho dr O S H A D (x_sl (x_tl S) a b)) := by
  obtain ⟨⟨T, p1, p2, p3, p4, p5⟩, d, a1, a2, a3, a4, a5⟩ := id s
  obtain ⟨d1, d2, d3, d4, d5, d6⟩ := d
  have ks := y_kr ly d1
  have kd := y_kr ly d3
  have tl := y_R1_tl a2
  rw [← tl.1] at bn
  have n0 := rr.2.1.1
  have n1 := rr.2.1.2
  have m1 := a2.2.1.2
  have RM := x_rm0 n0 n1 (by decide : (60 : Int32) ≤ 1000) a0 ab (by lia)
  rw [← y_R1_len rr, show x_ct 0 60 = 60 from by decide] at RM
  unfold f_Ed_draftPart
  refine l_gR T p3 (l_gO (qi_b (y_hr (N := N) T kd.1) ?_))
  rintro ⟨y, h1⟩ ⟨e1, q⟩
  dsimp only at e1 q ⊢
  subst e1
  rw [kd.2] at q
  rcases q with ⟨q1, q2⟩ | ⟨q1, q2⟩
  · rw [q1, if_neg (by decide)]
    refine l_gR T p3 (l_gR T p1 (l_gO (qi_b (y_ap (N := N) T kd.1 ks.1 (by omega) a0 ab bn (by lia) n0 (by rw [kd.2]; exact n1) (by rw [kd.2]; lia) (by rw [kd.2]; decide) (by rw [a2.1]; exact a2.2.2)) ?_)))
    rintro h2 ⟨T2, f2, i2, w2⟩
    have es : x_sl (vA h1 (sp + 1)) a b = x_sl (x_tl S) a b := x_sl_e a0 (Int32.le_trans a0 ab) (fun j j0 j1 => tl.2 j (Int32.le_trans a0 j0) (Int32.lt_of_lt_of_le j1 bn))
    have kk := a2.2.2
    rw [← a2.1] at kk
    refine qi_some ⟨y_S_D s T2 f2 (by rw [i2]; constructor <;> lia), f2, Or.inl ⟨rfl, by rw [x_sl_len]; exact RM.mp q2, ?_, ?_, ?_⟩⟩
    · rw [w2, rr.1, es]
    · show 0 ≤ vI h2 dr 1 ∧ vI h2 dr 1 ≤ 60
      rw [i2]; constructor <;> lia
    · rw [← es]; exact x_kt_a rr.2.2 (x_kt_s kk a2.2.1.1 a0 ab bn)
  · rw [q1, if_pos rfl]
    exact qi_some ⟨s, fun _ _ _ => rfl, Or.inr ⟨rfl, by rw [x_sl_len]; exact fun z => absurd (RM.mpr z) (Int32.not_le.mpr q2)⟩⟩
theorem y_dC {c : Int32} (ly : y_L L e) (s : y_S L e pg ln π h sp ho dr O S H A) (rr : y_R1 h dr 60 D) (kc : x_kc c) : qi (f_Ed_draftCharacter N e c h) (y_DP L e pg ln π h sp ho dr O S H A D [c]) := by
  obtain ⟨⟨T, p1, p2, p3, p4, p5⟩, d, a1, a2, a3, a4, a5⟩ := id s
  have kd := y_kr ly d.2.2.1
  have n0 := rr.2.1.1
  have n1 := rr.2.1.2
  have RM := x_rm0 (a := 0) (b := 1) n0 n1 (by decide : (60 : Int32) ≤ 1000) (Int32.le_refl 0) (by decide) (by decide)
  rw [← y_R1_len rr, show x_ct 0 60 = 60 from by decide, show x_ct 0 1 = 1 from by decide, show (1 : Int32) - 0 = 1 from by decide] at RM
  unfold f_Ed_draftCharacter
  refine l_gR T p3 (l_gO (qi_b (y_hr (N := N) T kd.1) ?_))
  rintro ⟨y, h1⟩ ⟨e1, q⟩
  dsimp only at e1 q ⊢
  subst e1
  rw [kd.2] at q
  rcases q with ⟨q1, q2⟩ | ⟨q1, q2⟩
  · rw [q1, if_neg (by decide)]
    refine l_gR T p3 (l_gO (qi_b (y_ad (N := N) T kd.1 (x_kc_r kc) n0 (by rw [kd.2]; lia) (by lia)) ?_))
    rintro h2 ⟨T2, f2, i2, w2⟩
    refine qi_some ⟨y_S_D s T2 f2 (by rw [i2]; constructor <;> lia), f2, Or.inl ⟨rfl, RM.mp q2, by rw [w2, rr.1], ?_, x_kt_a rr.2.2 (x_kt_1 kc)⟩⟩
    show 0 ≤ vI h2 dr 1 ∧ vI h2 dr 1 ≤ 60
    rw [i2]; constructor <;> lia
  · rw [q1, if_pos rfl]
    exact qi_some ⟨s, fun _ _ _ => rfl, Or.inr ⟨rfl, fun z => absurd (RM.mpr z) (Int32.not_le.mpr q2)⟩⟩
theorem y_bO {v : Nat} {j : Int32} (T : x_U L π h) (km : qκ L v = 6) : qi (f_Ma_beginOf N v j h) (fun r => r.1 = vA h (v + 1) j ∧ r.2 = h) := by
  unfold f_Ma_beginOf
  exact l_gR T (d_Ma_5 T km) (l_aI (e := vA h (v + 1) j) (fun _ => rfl) (fun _ => qi_some ⟨rfl, rfl⟩))
theorem y_eO {v : Nat} {j : Int32} (T : x_U L π h) (km : qκ L v = 6) : qi (f_Ma_endOf N v j h) (fun r => r.1 = vA h (v + 2) j ∧ r.2 = h) := by
  unfold f_Ma_endOf
  exact l_gR T (d_Ma_6 T km) (l_aI (e := vA h (v + 2) j) (fun _ => rfl) (fun _ => qi_some ⟨rfl, rfl⟩))
set_option maxHeartbeats 4000000 in
theorem y_dR5 {c : Nat} {tt g st t : Int32} {gb ge tx : Int32 → Int32} (hpg : e + 16 ≤ pg) (hc : pg + 9 ≤ c) (ly : y_L L e) (kp : qκ L pg = 10) (tk : ∀ j, 0 ≤ j → j < tt → x_kc (tx j)) (g3 : g ≤ 3) (gk : x_gk (x_nl8 S) g g gb ge t) (st0 : 0 ≤ st) (stt : st ≤ t) (tt0 : tt ≤ 240) : ∀ (m : Nat) (i : Int32) (CD D : List Int32) (h : z_H), y_S L e pg ln π h sp ho dr O S H A → y_R1 h dr 60 D → vI h c 10 = tt → tt ≤ vI h (pg + 1) 1 → (∀ j, 0 ≤ j → j < tt → vA h (pg + 2) j = tx j) → y_MT h e g st t gb ge → 0 ≤ i → i ≤ tt → x_cd tx g (x_ct i tt) i = some CD → qi (f_Ed_draftReplacement_5 N m e c i h) (y_DP L e pg ln π h sp ho dr O S H A D (x_rx S st t gb ge CD)) := by
  intro m
  induction m with
  | zero => intro i CD D h s rr htt ht hx mt i0 it EC r e; rw [f_Ed_draftReplacement_5] at e; cases e
  | succ m ih =>
    intro i CD D h s rr htt ht hx mt i0 it EC
    obtain ⟨⟨T, p1, p2, p3, p4, p5⟩, d, a1, a2, a3, a4, a5⟩ := id s
    obtain ⟨d1, d2, d3, d4, d5, d6⟩ := d
    have kt := e_Prog_0 T kp
    -- what stays behind a part of the draft
    have NX : ∀ (h1 : z_H) (X : List Int32) (i' : Int32) (CD' : List Int32), y_S L e pg ln π h1 sp ho dr O S H A → y_R1 h1 dr 60 (D ++ X) → (∀ b, b ≠ dr → b ≠ dr + 1 → h1 b = h b) → 0 ≤ i' → i' ≤ tt → x_cd tx g (x_ct i' tt) i' = some CD' → qi (f_Ed_draftReplacement_5 N m e c i' h1) (y_DP L e pg ln π h1 sp ho dr O S H A (D ++ X) (x_rx S st t gb ge CD')) := by
      intro h1 X i' CD' s1 r1 f1 i0' i1' EC'
      refine ih i' CD' (D ++ X) h1 s1 r1 (by rw [x_vI_c (f1 c (by omega) (by omega)), htt]) (by rw [x_vI_c (f1 (pg + 1) (by omega) (by omega))]; exact ht) (by rw [x_vA_c (f1 (pg + 2) (by omega) (by omega))]; exact hx) ?_ i0' i1' EC'
      obtain ⟨m1, m2, m3, m4⟩ := mt
      exact ⟨by rw [x_vI_c (f1 (e + 9) (by omega) (by omega)), m1], by rw [x_vI_c (f1 (e + 9) (by omega) (by omega)), m2], by rw [x_vA_c (f1 (e + 10) (by omega) (by omega))]; exact m3, by rw [x_vA_c (f1 (e + 11) (by omega) (by omega))]; exact m4⟩
    have CH : ∀ (i' v : Int32) (CD' : List Int32), x_kc v → 0 ≤ i' + 1 → i' + 1 ≤ tt → x_cd tx g (x_ct (i' + 1) tt) (i' + 1) = some CD' → qi (f_Ed_draftReplacement_127 N (f_Ed_draftReplacement_5 N m) e c i' v h) (y_DP L e pg ln π h sp ho dr O S H A D (x_rx S st t gb ge (v :: CD'))) := by
      intro i' v CD' kv i0' i1' EC'
      have cx : x_cx S st t gb ge v = [v] := by
        unfold x_cx
        rw [if_pos]
        rcases kv with k | k
        · rw [k]; decide
        · exact Int32.lt_of_le_of_lt k.2 (by decide)
      rw [x_rx_c, cx]
      unfold f_Ed_draftReplacement_127
      refine l_gO (qi_b (y_dC (N := N) ly s rr kv) ?_)
      rintro ⟨y, h1⟩ p
      exact y_DP_b (β := Unit) p (fun s1 r1 f1 => qi_bs (NX h1 _ (i' + 1) CD' s1 r1 f1 i0' i1' EC'))
    rw [f_Ed_draftReplacement_5]
    refine l_gI (e := tt) htt ?_
    refine qi_if (fun c1 => ?_) (fun c1 => ?_)
    · rw [x_ct0 c1 i0 (Int32.le_trans i0 it), x_cd] at EC
      cases EC
      exact qi_some (y_DP_0 s rr)
    · have cl := Int32.not_le.mp c1
      refine l_gR T p4 (l_gR T (d_Prog_0 T kp) (l_gO (qi_b (y_at (N := N) (r := pg + 1) (v := i) T kt) ?_)))
      rintro ⟨y, h9⟩ ⟨e9, q⟩
      dsimp only at e9 q ⊢
      subst e9
      have ey : y = tx i := by
        rcases q with q | q
        · rw [q.2.2]; exact hx i i0 cl
        · exact absurd ⟨i0, Int32.lt_of_lt_of_le cl ht⟩ q.1
      have ki := tk i i0 cl
      have N1 : ¬ tx i = 92 → ∃ CD', x_cd tx g (x_ct (i + 1) tt) (i + 1) = some CD' ∧ CD = (if tx i = 38 then 200 else tx i) :: CD' := by
        intro n92
        by_cases l2 : i + 1 < tt
        · have ec : x_ct i tt = x_ct (i + 2) tt + 2 := by rw [x_ct1 cl i0, x_ct1 l2 (by lia), x_s11]
          rw [ec, x_cd, if_neg n92] at EC
          have e1 : x_ct (i + 1) tt = x_ct (i + 2) tt + 1 := by rw [x_ct1 l2 (by lia), x_s11]
          rw [← e1] at EC
          obtain ⟨z, z1, z2⟩ := Option.map_eq_some_iff.mp EC
          exact ⟨z, z1, z2.symm⟩
        · have ei : i + 1 = tt := by lia
          have ec : x_ct i tt = 1 := by rw [x_ct1 cl i0, ei, x_ct0 (Int32.le_refl _) (by lia) (by lia)]
          rw [ec, x_cd, if_neg n92] at EC
          refine ⟨[], ?_, (Option.some.inj EC).symm⟩
          rw [ei, x_ct0 (Int32.le_refl _) (by lia) (by lia), x_cd]
      refine qi_bs ?_
      refine qi_if (fun c2 => ?_) (fun c2 => ?_)
      · rw [ey] at c2
        obtain ⟨CD', z1, z2⟩ := N1 (by rw [c2]; decide)
        rw [if_pos c2] at z2
        have cx : x_cx S st t gb ge 200 = x_sl (x_tl S) st t := by
          unfold x_cx
          rw [if_neg (by decide), if_pos rfl]
        rw [z2, x_rx_c, cx]
        refine l_gR T (d_Ed_8 T ly.1) (l_gI (e := st) mt.1 (l_gR T (d_Ed_8 T ly.1) (l_gI (e := t) mt.2.1 (l_gO (qi_b (y_dP (N := N) ly s rr st0 stt gk.1.2) ?_)))))
        rintro ⟨y1, h1⟩ p
        exact y_DP_b (β := Unit) p (fun s1 r1 f1 => qi_bs (NX h1 _ (i + 1) CD' s1 r1 f1 (by lia) (by lia) z1))
      · rw [ey] at c2
        refine qi_if (fun c3 => ?_) (fun c3 => ?_)
        · rw [ey] at c3
          have l2 : i + 1 < tt := by
            refine Classical.byContradiction fun l2 => ?_
            have ei : i + 1 = tt := by lia
            have ec : x_ct i tt = 1 := by rw [x_ct1 cl i0, ei, x_ct0 (Int32.le_refl _) (by lia) (by lia)]
            rw [ec, x_cd, if_pos c3] at EC
            cases EC
          have ec : x_ct i tt = x_ct (i + 2) tt + 2 := by rw [x_ct1 cl i0, x_ct1 l2 (by lia), x_s11]
          rw [ec, x_cd, if_pos c3] at EC
          refine qi_bs (l_gR T p4 (l_gR T (d_Prog_0 T kp) (l_gO (qi_b (y_at (N := N) (r := pg + 1) (v := i + 1) T kt) ?_))))
          rintro ⟨y2, h8⟩ ⟨e8, q8⟩
          dsimp only at e8 q8 ⊢
          subst e8
          have ey2 : y2 = tx (i + 1) := by
            rcases q8 with q | q
            · rw [q.2.2]; exact hx (i + 1) (by lia) l2
            · exact absurd ⟨by lia, Int32.lt_of_lt_of_le l2 ht⟩ q.1
          have k2 := tk (i + 1) (by lia) l2
          have B : ¬ (49 ≤ tx (i + 1) ∧ tx (i + 1) ≤ 51) → qi (f_Ed_draftReplacement_114 N (f_Ed_draftReplacement_5 N m) e c (i + 1) y2 h8) (y_DP L e pg ln π h8 sp ho dr O S H A D (x_rx S st t gb ge CD)) := by
            intro nb
            rw [if_neg nb] at EC
            obtain ⟨z, z1, z2⟩ := Option.map_eq_some_iff.mp EC
            rw [← z2, ey2]
            unfold f_Ed_draftReplacement_114
            refine qi_if (fun c4 => ?_) (fun c4 => ?_)
            · rw [if_pos c4]
              exact CH (i + 1) 10 z x_kc10 (by lia) (by lia) (by rw [x_s11]; exact z1)
            · rw [if_neg c4]
              exact CH (i + 1) _ z k2 (by lia) (by lia) (by rw [x_s11]; exact z1)
          refine qi_bs ?_
          refine qi_if (fun c4 => ?_) (fun c4 => ?_)
          · exact B (fun w => by rw [ey2] at c4; exact absurd (Int32.lt_of_le_of_lt w.1 c4) Int32.lt_irrefl)
          · refine qi_if (fun c5 => ?_) (fun c5 => ?_)
            · exact B (fun w => by rw [ey2] at c5; exact absurd (Int32.lt_of_lt_of_le c5 w.2) Int32.lt_irrefl)
            · rw [ey2] at c4 c5 ⊢
              have b1 := Int32.not_lt.mp c4
              have b2 := Int32.not_lt.mp c5
              rw [if_pos ⟨b1, b2⟩] at EC
              by_cases lg : tx (i + 1) - 48 ≤ g
              · rw [if_pos lg] at EC
                obtain ⟨z, z1, z2⟩ := Option.map_eq_some_iff.mp EC
                have j1 : 1 ≤ tx (i + 1) - 48 := by lia
                have gB := gk.2.1 _ j1 lg
                have gE := gk.2.2 _ j1 lg
                have m3 := mt.2.2.1 _ j1 lg
                have m4 := mt.2.2.2 _ j1 lg
                have cx : x_cx S st t gb ge (200 + (tx (i + 1) - 48)) = x_sl (x_tl S) (gb (tx (i + 1) - 48)) (ge (tx (i + 1) - 48)) := by
                  unfold x_cx
                  rw [if_neg (by lia), if_neg (by lia), show 200 + (tx (i + 1) - 48) - 200 = tx (i + 1) - 48 from by grind]
                rw [← z2, x_rx_c, cx]
                have km := ly.2.2.2.2.2.2
                have en : t ≤ x_nl8 S := gk.1.2
                refine l_gR T (d_Ed_8 T ly.1) (l_gO (qi_b (y_bO (N := N) T km) ?_))
                rintro ⟨y5, h5⟩ ⟨e5, e6⟩
                dsimp only at e5 e6 ⊢
                subst e6
                refine l_gR T (d_Ed_8 T ly.1) (l_gO (qi_b (y_eO (N := N) T km) ?_))
                rintro ⟨y7, h7⟩ ⟨e7, e8⟩
                dsimp only at e7 e8 ⊢
                subst e8
                rw [show y5 = gb (tx (i + 1) - 48) from e5.trans m3.symm, show y7 = ge (tx (i + 1) - 48) from e7.trans m4.symm]
                refine l_gO (qi_b (y_dP (N := N) ly s rr gB.1 gE.1 (Int32.le_trans gE.2 en)) ?_)
                rintro ⟨y1, h1⟩ p
                exact y_DP_b (β := Unit) p (fun s1 r1 f1 => qi_bs (by rw [x_s11]; exact NX h1 _ (i + 2) z s1 r1 f1 (by lia) (by lia) z1))
              · rw [if_neg lg] at EC
                cases EC
        · rw [ey] at c3 ⊢
          obtain ⟨CD', z1, z2⟩ := N1 c3
          rw [if_neg c2] at z2
          rw [z2]
          exact CH i (tx i) CD' ki (by lia) (by lia) z1
end Y10
