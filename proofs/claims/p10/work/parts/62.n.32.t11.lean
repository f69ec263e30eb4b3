/-! substitution: what comes out -/
def x_p1 (s t : Int32) : Int32 := if s = t then s + 1 else t
def x_W1 (tx : Int32 → Int32) (n p s t : Int32) (W X : List Int32) : List Int32 := W ++ x_sl tx p s ++ X ++ (if s = t ∧ s < n then [tx s] else [])
theorem x_p1_lt {p s t n : Int32} (p0 : 0 ≤ p) (a : p ≤ s) (b : s ≤ t) (c : t ≤ n) (d : n ≤ 1000) : p < x_p1 s t ∧ x_p1 s t ≤ n + 1 := by
  unfold x_p1
  by_cases q : s = t
  · rw [if_pos q]; constructor <;> lia
  · rw [if_neg q]; constructor <;> lia
theorem x_sw_dec {p s t n : Int32} (p0 : 0 ≤ p) (a : p ≤ s) (b : s ≤ t) (c : t ≤ n) (d : n ≤ 1000) (e : p ≤ n) : (n.toInt + 1 - (x_p1 s t).toInt).toNat < (n.toInt + 1 - p.toInt).toNat := by
  have z := Int32.lt_iff_toInt_lt.mp (x_p1_lt p0 a b c d).1
  have w := Int32.le_iff_toInt_le.mp e
  omega
/-- how often it was replaced, and the text; from p on, bf where the last one ended, nn counted, dn replaced, W so far -/
noncomputable def x_sw (fd : Int32 → Option (Int32 × Int32 × (Int32 → Int32) × (Int32 → Int32))) (tx : Int32 → Int32) (n : Int32) (rep : Int32 → Int32 → (Int32 → Int32) → (Int32 → Int32) → List Int32) (al k p bf nn dn : Int32) (W : List Int32) : Int32 × List Int32 :=
  if h : 0 ≤ p ∧ p ≤ n ∧ n ≤ 1000 then
    match fd p with
    | none => (dn, W ++ x_sl tx p n)
    | some (s, t, gb, ge) =>
      if hb : p ≤ s ∧ s ≤ t ∧ t ≤ n then
        if (s < t ∨ ¬ s = bf) ∧ (nn + 1 = k ∨ (k < nn + 1 ∧ ¬ al = 0)) then
          (if al = 0 then (dn + 1, x_W1 tx n p s t W (rep s t gb ge) ++ x_sl tx (x_p1 s t) n)
          else x_sw fd tx n rep al k (x_p1 s t) t (nn + 1) (dn + 1) (x_W1 tx n p s t W (rep s t gb ge)))
        else x_sw fd tx n rep al k (x_p1 s t) t (if s < t ∨ ¬ s = bf then nn + 1 else nn) dn (x_W1 tx n p s t W (x_sl tx s t))
      else (dn, W)
  else (dn, W)
termination_by (n.toInt + 1 - p.toInt).toNat
decreasing_by
  · exact x_sw_dec h.1 hb.1 hb.2.1 hb.2.2 h.2.2 h.2.1
  · exact x_sw_dec h.1 hb.1 hb.2.1 hb.2.2 h.2.2 h.2.1
section SW
variable {fd : Int32 → Option (Int32 × Int32 × (Int32 → Int32) × (Int32 → Int32))} {tx : Int32 → Int32} {n : Int32} {rep : Int32 → Int32 → (Int32 → Int32) → (Int32 → Int32) → List Int32} {al k p bf nn dn s t : Int32} {gb ge : Int32 → Int32} {W : List Int32}
theorem x_sw_o (h : n < p) : x_sw fd tx n rep al k p bf nn dn W = (dn, W) := by
  rw [x_sw, dif_neg (fun z => absurd (Int32.lt_of_lt_of_le h z.2.1) Int32.lt_irrefl)]
theorem x_sw_n (h : 0 ≤ p ∧ p ≤ n ∧ n ≤ 1000) (e : fd p = none) : x_sw fd tx n rep al k p bf nn dn W = (dn, W ++ x_sl tx p n) := by
  rw [x_sw, dif_pos h]
  simp only [e]
theorem x_sw_h (h : 0 ≤ p ∧ p ≤ n ∧ n ≤ 1000) (e : fd p = some (s, t, gb, ge)) (hb : p ≤ s ∧ s ≤ t ∧ t ≤ n) (c : (s < t ∨ ¬ s = bf) ∧ (nn + 1 = k ∨ (k < nn + 1 ∧ ¬ al = 0))) : x_sw fd tx n rep al k p bf nn dn W = if al = 0 then (dn + 1, x_W1 tx n p s t W (rep s t gb ge) ++ x_sl tx (x_p1 s t) n) else x_sw fd tx n rep al k (x_p1 s t) t (nn + 1) (dn + 1) (x_W1 tx n p s t W (rep s t gb ge)) := by
  rw [x_sw, dif_pos h]
  simp only [e]
  rw [dif_pos hb, if_pos c]
theorem x_sw_m (h : 0 ≤ p ∧ p ≤ n ∧ n ≤ 1000) (e : fd p = some (s, t, gb, ge)) (hb : p ≤ s ∧ s ≤ t ∧ t ≤ n) (c : ¬ ((s < t ∨ ¬ s = bf) ∧ (nn + 1 = k ∨ (k < nn + 1 ∧ ¬ al = 0)))) : x_sw fd tx n rep al k p bf nn dn W = x_sw fd tx n rep al k (x_p1 s t) t (if s < t ∨ ¬ s = bf then nn + 1 else nn) dn (x_W1 tx n p s t W (x_sl tx s t)) := by
  rw [x_sw, dif_pos h]
  simp only [e]
  rw [dif_pos hb, if_neg c]
theorem x_W1_len {X : List Int32} : W.length + X.length ≤ (x_W1 tx n p s t W X).length := by
  unfold x_W1
  simp only [List.length_append]
  omega
theorem x_sw_len (n0 : 0 ≤ n) (n1 : n ≤ 1000) : ∀ (m : Nat) (p bf nn dn : Int32) (W : List Int32), (n.toInt + 1 - p.toInt).toNat < m → 0 ≤ p → p ≤ n + 1 → 0 ≤ dn → dn ≤ p → dn ≤ (x_sw fd tx n rep al k p bf nn dn W).1 ∧ W.length ≤ (x_sw fd tx n rep al k p bf nn dn W).2.length := by
  intro m
  induction m with
  | zero => intro p bf nn dn W hm; omega
  | succ m ih =>
    intro p bf nn dn W hm p0 p1 d0 d1
    by_cases h : 0 ≤ p ∧ p ≤ n ∧ n ≤ 1000
    · cases e : fd p with
      | none =>
        rw [x_sw_n h e]
        exact ⟨Int32.le_refl _, by rw [List.length_append]; omega⟩
      | some z =>
        obtain ⟨s, t, gb, ge⟩ := z
        by_cases hb : p ≤ s ∧ s ≤ t ∧ t ≤ n
        · have lt := x_p1_lt p0 hb.1 hb.2.1 hb.2.2 n1
          have dc := x_sw_dec p0 hb.1 hb.2.1 hb.2.2 n1 h.2.1
          have pn := h.2.1
          by_cases c : (s < t ∨ ¬ s = bf) ∧ (nn + 1 = k ∨ (k < nn + 1 ∧ ¬ al = 0))
          · rw [x_sw_h h e hb c]
            have wl := x_W1_len (tx := tx) (n := n) (p := p) (s := s) (t := t) (W := W) (X := rep s t gb ge)
            by_cases a : al = 0
            · rw [if_pos a]
              exact ⟨by show dn ≤ dn + 1; lia, by show W.length ≤ List.length (_ ++ _); rw [List.length_append]; omega⟩
            · rw [if_neg a]
              have r := ih (x_p1 s t) t (nn + 1) (dn + 1) (x_W1 tx n p s t W (rep s t gb ge)) (by omega) (by lia) lt.2 (by lia) (by lia)
              exact ⟨Int32.le_trans (by lia) r.1, by omega⟩
          · rw [x_sw_m h e hb c]
            have wl := x_W1_len (tx := tx) (n := n) (p := p) (s := s) (t := t) (W := W) (X := x_sl tx s t)
            have r := ih (x_p1 s t) t (if s < t ∨ ¬ s = bf then nn + 1 else nn) dn (x_W1 tx n p s t W (x_sl tx s t)) (by omega) (by lia) lt.2 d0 (by lia)
            exact ⟨r.1, by omega⟩
        · rw [x_sw, dif_pos h]
          simp only [e]
          rw [dif_neg hb]
          exact ⟨Int32.le_refl _, Nat.le_refl _⟩
    · rw [x_sw, dif_neg h]
      exact ⟨Int32.le_refl _, Nat.le_refl _⟩
end SW
def x_sE (R : Int32 × List Int32) (pr : Int32) (O S H A : List Int32) (rd cy rp sm nx : Int32) : x_TT := if R.1 = 0 then (1, O, S, H, A, rd, cy, rp, sm, nx, 0) else if R.2.length ≤ 60 then (if pr = 0 then (1, O, R.2, H, A, rd, cy, rp + R.1, 1, nx, 0) else if O.length + R.2.length + 1 ≤ 600 then (1, O ++ R.2 ++ [10], R.2, H, A, rd, cy, rp + R.1, 1, nx, 0) else (0, O, S, H, A, rd, cy, rp, sm, nx, 0)) else (0, O, S, H, A, rd, cy, rp, sm, nx, 0)
section Y11
variable {L : q_L} {e pg sf ln c : Nat} {π : Nat → Nat → Option Nat} {N : Nat} {h h0 h1 : z_H} {sp ho dr : Nat} {O S H A D : List Int32} {rd cy rp sm nx : Int32}
set_option maxHeartbeats 1000000 in
theorem y_tD34 {pr made : Int32} {RW : List Int32} (hpg : e + 16 ≤ pg) (hc : pg + 9 ≤ c) (ly : y_L L e) (s : y_S L e pg ln π h sp ho dr O S H A) (rr : y_R1 h dr 60 RW) (n : y_N h e rd cy rp sm nx) (hp : vI h c 13 = pr) (rm : ¬ pr = 0 → O.length + RW.length + 1 ≤ 600) : qi (f_Ed_takeDraft_34 N e c made h) (y_P L e pg ln h (1, if pr = 0 then O else O ++ RW ++ [10], RW, H, A, rd, cy, rp + made, 1, nx, 0)) := by
  obtain ⟨⟨T, p1, p2, p3, p4, p5⟩, d, a1, a2, a3, a4, a5⟩ := id s
  obtain ⟨d1, d2, d3, d4, d5, d6⟩ := d
  unfold f_Ed_takeDraft_34
  refine l_gR T p1 (l_gR T p3 (l_Ed_1 T ly.1 ?_))
  intro π1 h1 T1 e1 c1 i1
  refine l_Ed_9 T1 ly.1 ?_
  intro π2 h2 T2 e2 c2 i2
  refine l_gI (e := rp) (by rw [i2, i1]; exact n.2.2.1) (l_sIc T2 ly.1 (by decide) rfl ?_)
  intro h3 T3 c3 u3
  refine l_sIc T3 ly.1 (by decide) rfl ?_
  intro h4 T4 c4 u4
  have C : ∀ b, b ≠ e → h4 b = h b := fun b hb => (c4 b hb).trans ((c3 b hb).trans ((c2 b hb).trans (c1 b hb)))
  have I : ∀ k, vI h4 e k = if k = 15 then 1 else if k = 6 then rp + made else vI h e k := fun k => by rw [u4 k, u3 k, i2 k, i1 k]
  have w1 : π2 e 1 = some dr := by rw [e2, if_neg (by omega), e1, if_pos ⟨rfl, rfl⟩]
  have s4 : y_S L e pg ln π2 h4 dr ho sp O RW H A := by
    refine ⟨⟨T4, w1, ?_, ?_, ?_, ?_⟩, ⟨d3, d2, d1, fun z => d6 z.symm, fun z => d5 z.symm, fun z => d4 z.symm⟩, y_R1_c a1 (C _ (by omega)) (C _ (by omega)), y_R1_c rr (C _ (by omega)) (C _ (by omega)), y_R1_c a3 (C _ (by omega)) (C _ (by omega)), y_R1_c a4 (C _ (by omega)) (C _ (by omega)), ?_⟩
    · rw [e2, if_neg (by omega), e1, if_neg (by omega)]; exact p2
    · rw [e2, if_pos ⟨rfl, rfl⟩]
    · rw [e2, if_neg (by omega), e1, if_neg (by omega)]; exact p4
    · rw [e2, if_neg (by omega), e1, if_neg (by omega)]; exact p5
    · rw [x_vI_c (C sp (by omega))]; exact a2.2.1
  have F4 : y_F e h h4 := fun a ha => C a (by omega)
  have MK : ∀ (h5 : z_H) (O' : List Int32), y_S L e pg ln π2 h5 dr ho sp O' RW H A → y_F e h4 h5 → (∀ k, vI h5 e k = vI h4 e k) → y_P L e pg ln h (1, O', RW, H, A, rd, cy, rp + made, 1, nx, 0) (.inl (), h5) := by
    intro h5 O' s5 F5 I5
    have J : ∀ k, vI h5 e k = if k = 15 then 1 else if k = 6 then rp + made else vI h e k := fun k => (I5 k).trans (I k)
    exact ⟨y_F_t F4 F5, ⟨by rw [J 4]; rfl, by rw [J 12]; rfl⟩, π2, dr, ho, sp, A, s5, ⟨by rw [J 3]; exact n.1, by rw [J 5]; exact n.2.1, by rw [J 6]; rfl⟩, Or.inr ⟨rfl, rfl, by rw [J 14]; exact n.2.2.2.2.2, fun _ => ⟨rfl, by rw [J 15]; rfl, by rw [J 13]; exact n.2.2.2.2.1⟩⟩⟩
  refine l_gI (e := pr) (by rw [x_vI_c (C c (by omega)), hp]) ?_
  refine qi_if (fun z => ?_) (fun z => ?_)
  · rw [if_pos z]
    exact qi_some (MK h4 O s4 y_F_r (fun _ => rfl))
  · rw [if_neg z]
    refine l_gR T4 w1 (l_gR T4 w1 (l_gI (e := vI h4 dr 1) rfl (l_gO (qi_b (y_tS (N := N) ly s4) ?_))))
    rintro ⟨y, h5⟩ (⟨q1, q2, s5, F5, I5⟩ | ⟨q1, q2, q3⟩)
    · dsimp only at q1 s5 F5 I5 ⊢
      refine qi_zx (fun x _ => qi_some (MK h5 _ s5 F5 I5)) (fun E eE => by rw [q1] at eE; cases eE)
    · exact absurd (rm z) q2
theorem y_218 {pr cp dn : Int32} {R : Int32 × List Int32} (hpg : e + 16 ≤ pg) (hc : pg + 9 ≤ c) (ly : y_L L e) (F : y_F e h0 h) (I : ∀ k, vI h e k = vI h0 e k) (s : y_S L e pg ln π h sp ho dr O S H A) (rr : y_R1 h dr 60 D) (n : y_N h0 e rd cy rp sm nx) (hp : vI h c 13 = pr) (c0 : 0 ≤ cp) (cn : cp ≤ x_nl8 S) (d0 : 0 ≤ dn) (dz : dn = 0 → D = [] ∧ cp = 0) (ER : R = (dn, D ++ x_sl (x_tl S) cp (x_nl8 S))) : qi (f_Ed_substitute_218 N e c dn cp h) (y_P L e pg ln h0 (x_sE R pr O S H A rd cy rp sm nx)) := by
  obtain ⟨⟨T, p1, p2, p3, p4, p5⟩, d, a1, a2, a3, a4, a5⟩ := id s
  obtain ⟨d1, d2, d3, d4, d5, d6⟩ := d
  have tl := y_R1_tl a2
  unfold f_Ed_substitute_218
  refine l_gR T p1 (l_gI (e := x_nl8 S) tl.1 (l_gO (qi_b (y_dP (N := N) ly s rr c0 cn (Int32.le_refl _)) ?_)))
  rintro ⟨y, h1⟩ ⟨s1, f1, ⟨q1, q2, r1⟩ | ⟨q1, q2⟩⟩
  · dsimp only at s1 f1 q1 r1 ⊢
    have F1 : y_F e h0 h1 := fun a ha => (f1 a (by omega) (by omega)).trans (F a ha)
    have I1 : ∀ k, vI h1 e k = vI h0 e k := fun k => by rw [x_vI_c (f1 e (by omega) (by omega)), I k]
    refine qi_zx (fun x _ => ?_) (fun E eE => by rw [q1] at eE; cases eE)
    refine qi_if (fun c1 => ?_) (fun c1 => ?_)
    · have z : dn = 0 := Int32.le_antisymm c1 d0
      unfold x_sE
      rw [ER, if_pos z]
      exact qi_some (y_P1 n F1 I1 s1 rfl)
    · have nz : ¬ dn = 0 := fun z => c1 (by rw [z]; decide)
      have hp1 : vI h1 c 13 = pr := by rw [x_vI_c (f1 c (by omega) (by omega)), hp]
      have n1 := y_N_c n I1
      unfold x_sE
      rw [ER, if_neg nz]
      have l60 : (D ++ x_sl (x_tl S) cp (x_nl8 S)).length ≤ 60 := by rw [List.length_append]; exact q2
      rw [if_pos l60]
      unfold f_Ed_takeDraft
      have T1 := s1.1.1
      have P3 := s1.1.2.2.2.1
      refine l_gO (qi_b (P := y_P L e pg ln h1 (if pr = 0 then (1, O, D ++ x_sl (x_tl S) cp (x_nl8 S), H, A, rd, cy, rp + dn, 1, nx, 0) else if O.length + (D ++ x_sl (x_tl S) cp (x_nl8 S)).length + 1 ≤ 600 then (1, O ++ (D ++ x_sl (x_tl S) cp (x_nl8 S)) ++ [10], D ++ x_sl (x_tl S) cp (x_nl8 S), H, A, rd, cy, rp + dn, 1, nx, 0) else (0, O, S, H, A, rd, cy, rp, sm, nx, 0))) ?_ ?_)
      · refine l_gI (e := pr) hp1 ?_
        refine qi_if (fun z => ?_) (fun z => ?_)
        · rw [if_pos z]
          have t := y_tD34 (N := N) (made := dn) hpg hc ly s1 r1 n1 hp1 (fun w => absurd z w)
          rw [if_pos z] at t
          exact t
        · rw [if_neg z]
          obtain ⟨-, -, b1, -⟩ := id s1
          have m0 := b1.2.1.1
          have m1 := b1.2.1.2
          have r2 := r1.2.1
          have RM := x_rm (a := 0) m0 m1 (by decide : (600 : Int32) ≤ 1000) (Int32.le_refl 0) r2.1 (Int32.le_trans r2.2 (by decide))
          rw [← y_R1_len b1, ← y_R1_len r1, show x_ct 0 600 = 600 from by decide, show vI h1 dr 1 - 0 + 1 = vI h1 dr 1 + 1 from by grind] at RM
          refine l_gR T1 (d_Ed_0 T1 ly.1) (l_gR T1 P3 (l_gI (e := vI h1 dr 1) rfl (l_gO (qi_b (y_hr (N := N) T1 ly.2.2.2.2.1.1) ?_))))
          rintro ⟨y2, h2⟩ ⟨e2, q⟩
          dsimp only at e2 q ⊢
          subst e2
          rw [ly.2.2.2.2.1.2] at q
          rcases q with ⟨t1, t2⟩ | ⟨t1, t2⟩
          · rw [t1, if_neg (by decide), if_pos (RM.mp t2)]
            have t := y_tD34 (N := N) (made := dn) hpg hc ly s1 r1 n1 hp1 (fun _ => RM.mp t2)
            rw [if_neg z] at t
            exact t
          · rw [t1, if_pos rfl, if_neg (fun w => absurd (RM.mpr w) (Int32.not_le.mpr t2))]
            exact qi_some (y_P0 n1 y_F_r (fun _ => rfl) s1 rfl)
      · rintro ⟨y2, h2⟩ p
        exact y_zxu (y_P_tr F1 ⟨I1 4, I1 12⟩ p)
  · dsimp only at s1 f1 q1 ⊢
    have F1 : y_F e h0 h1 := fun a ha => (f1 a (by omega) (by omega)).trans (F a ha)
    have I1 : ∀ k, vI h1 e k = vI h0 e k := fun k => by rw [x_vI_c (f1 e (by omega) (by omega)), I k]
    refine qi_zx (fun x ex => by rw [q1] at ex; cases ex) (fun E eE => ?_)
    rw [q1] at eE
    cases eE
    have nz : ¬ dn = 0 := by
      intro z
      obtain ⟨z1, z2⟩ := dz z
      refine q2 ?_
      rw [z1, z2, x_sl_len]
      have ln := y_R1_len a2
      rw [tl.1] at ln
      rw [← ln]
      have l := y_R1_len a2
      have q := x_ct_t a2.2.1.1 (Int32.le_refl 0)
      have z0 : (0 : Int32).toInt = 0 := rfl
      have z6 : (60 : Int32).toInt = 60 := rfl
      have w := Int32.le_iff_toInt_le.mp a2.2.1.2
      rw [z0] at q
      rw [z6] at w
      show 0 + S.length ≤ 60
      omega
    unfold x_sE
    have l60 : ¬ (D ++ x_sl (x_tl S) cp (x_nl8 S)).length ≤ 60 := by rw [List.length_append]; exact q2
    rw [ER, if_neg nz, if_neg l60]
    exact y_P0 n F1 I1 s1 rfl
end Y11
