/-! the editor of the class: substitute -/
section Y12
variable {L : q_L} {e pg sf ln c : Nat} {π : Nat → Nat → Option Nat} {N : Nat} {h h0 h1 : z_H} {sp ho dr : Nat} {O S H A D : List Int32} {rd cy rp sm nx : Int32}
theorem y_fd_f {it pt : Nat} {fm : Int32} (F : y_F e h0 h) (T0 : x_U L π h0) (k5 : qκ L it = 5) (hit : e + 16 ≤ it) (hpt : e + 16 ≤ pt) : y_fd h it pt S fm = y_fd h0 it pt S fm := by
  unfold y_fd
  rw [x_vA_c (F (it + 1) (by omega)), x_vA_c (F (it + 2) (by omega)), x_tk_c T0 k5 (F it (by omega)) (F (it + 3) (by omega)) (F (it + 4) (by omega)), x_vI_c (F pt (by omega)), x_vI_c (F pt (by omega)), x_vI_c (F pt (by omega)), x_vI_c (F pt (by omega)), x_vI_c (F pt (by omega)), x_vI_c (F pt (by omega))]
theorem y_PP_f {it pt : Nat} (F : y_F e h0 h) (hit : e + 16 ≤ it) (hpt : e + 16 ≤ pt) (P : y_PP h0 it pt) : y_PP h it pt := by
  unfold y_PP
  rw [x_vA_c (F (it + 1) (by omega)), x_vA_c (F (it + 2) (by omega)), x_vI_c (F pt (by omega)), x_vI_c (F pt (by omega)), x_vI_c (F pt (by omega)), x_vI_c (F pt (by omega)), x_vI_c (F pt (by omega))]
  exact P
theorem y_rpl {nn al dg k : Int32} (hal : vI h c 12 = al) (hdg : vI h c 14 = dg) (ek : k = if dg < 1 then 1 else dg) : qi (f_Cmd_replaces N c nn h) (fun r => r.2 = h ∧ ((r.1 = 1 ∧ (nn = k ∨ (k < nn ∧ ¬ al = 0))) ∨ (r.1 = 0 ∧ ¬ (nn = k ∨ (k < nn ∧ ¬ al = 0))))) := by
  unfold f_Cmd_replaces
  refine l_gI (e := dg) hdg (qi_bs (l_gI (e := al) hal ?_))
  rw [← ek]
  refine qi_if (fun c1 => ?_) (fun c1 => ?_)
  · refine qi_if (fun c2 => qi_some ⟨rfl, Or.inl ⟨rfl, Or.inl c2⟩⟩) (fun c2 => qi_some ⟨rfl, Or.inr ⟨rfl, fun z => z.elim c2 (fun z => z.2 c1)⟩⟩)
  · refine qi_if (fun c2 => qi_some ⟨rfl, Or.inr ⟨rfl, fun z => z.elim (fun z => by rw [z] at c2; exact absurd c2 Int32.lt_irrefl) (fun z => absurd (Int32.lt_trans z.1 c2) Int32.lt_irrefl)⟩⟩) (fun c2 => qi_some ⟨rfl, Or.inl ⟨rfl, ?_⟩⟩)
    by_cases z : nn = k
    · exact Or.inl z
    · exact Or.inr ⟨by lia, c1⟩
/-- where the copied part ends -/
def x_pm (n p : Int32) : Int32 := if p ≤ n then p else n
set_option maxHeartbeats 8000000 in
theorem y_s23 {al dg k pr tf tt g : Int32} {TX CD : List Int32} {R : Int32 × List Int32} (hpg : e + 16 ≤ pg) (hc : pg + 9 ≤ c) (ly : y_L L e) (kp : qκ L pg = 10) (kc : qκ L c = 2) (k5 : qκ L (pg + 3) = 5) {π0 : Nat → Nat → Option Nat} (T0 : x_U L π0 h0) (P : y_PP h0 (pg + 3) (c + 5)) (eg : vI h0 (c + 5) 6 = g) (htf : vI h0 c 9 = tf) (htt : vI h0 c 10 = tt) (hal : vI h0 c 12 = al) (hdg : vI h0 c 14 = dg) (ek : k = if dg < 1 then 1 else dg) (hp : vI h0 c 13 = pr) (rt : y_R1 h0 (pg + 1) 240 TX) (b0 : 0 ≤ tf) (b1 : tf ≤ tt) (b2 : tt ≤ vI h0 (pg + 1) 1) (EC : x_cd (vA h0 (pg + 2)) g (x_ct tf tt) tf = some CD) (n : y_N h0 e rd cy rp sm nx) : ∀ (m : Nat) (π : Nat → Nat → Option Nat) (nn dn cp bf p tn : Int32) (D : List Int32) (h : z_H), y_S L e pg ln π h sp ho dr O S H A → y_R1 h dr 60 D → y_F e h0 h → (∀ k, vI h e k = vI h0 e k) → 0 ≤ cp → cp ≤ x_pm (x_nl8 S) p → 0 ≤ p → p ≤ x_nl8 S + 1 → 0 ≤ dn → dn ≤ p → 0 ≤ nn → nn ≤ p → 0 ≤ tn → tn ≤ p → (dn = 0 → D = [] ∧ cp = 0) → ((R = x_sw (y_fd h0 (pg + 3) (c + 5) S) (x_tl S) (x_nl8 S) (fun st t gb ge => x_rx S st t gb ge CD) al k p bf nn dn (D ++ x_sl (x_tl S) cp (x_pm (x_nl8 S) p)) ∧ (dn = 0 ∨ ¬ al = 0)) ∨ (¬ dn = 0 ∧ al = 0 ∧ R = (dn, D ++ x_sl (x_tl S) cp (x_nl8 S)))) → qi (f_Ed_substitute_23 N m e c nn dn cp bf p tn h) (y_P L e pg ln h0 (x_sE R pr O S H A rd cy rp sm nx)) := by
  intro m
  induction m with
  | zero => intro π nn dn cp bf p tn D h s rr F I c0 cm p0 p1 d0 d1 v0 v1 t0 t1 dz RA r e; rw [f_Ed_substitute_23] at e; cases e
  | succ m ih =>
    intro π nn dn cp bf p tn D h s rr F I c0 cm p0 p1 d0 d1 v0 v1 t0 t1 dz RA
    obtain ⟨⟨T, q1, q2, q3, q4, q5⟩, d, a1, a2, a3, a4, a5⟩ := id s
    obtain ⟨D1, D2, D3, D4, D5, D6⟩ := d
    have tl := y_R1_tl a2
    have n0 : 0 ≤ x_nl8 S := by rw [← tl.1]; exact a2.2.1.1
    have n1 : x_nl8 S ≤ 60 := by rw [← tl.1]; exact a2.2.1.2
    have hC : ∀ k, vI h c k = vI h0 c k := fun k => x_vI_c (F c (by omega))
    have pmn : x_pm (x_nl8 S) p ≤ x_nl8 S := by
      unfold x_pm
      by_cases z : p ≤ x_nl8 S
      · rw [if_pos z]; exact z
      · rw [if_neg z]; exact Int32.le_refl _
    have cn := Int32.le_trans cm pmn
    have EX : R = (dn, D ++ x_sl (x_tl S) cp (x_nl8 S)) → qi (f_Ed_substitute_218 N e c dn cp h) (y_P L e pg ln h0 (x_sE R pr O S H A rd cy rp sm nx)) := fun ER => y_218 (N := N) hpg hc ly F I s rr n (by rw [hC, hp]) c0 cn d0 dz ER
    have OUT : x_nl8 S < p → qi (f_Ed_substitute_218 N e c dn cp h) (y_P L e pg ln h0 (x_sE R pr O S H A rd cy rp sm nx)) := by
      intro lt
      refine EX ?_
      rcases RA with ⟨RA, _⟩ | ⟨_, _, RA⟩
      · rw [x_sw_o lt] at RA
        unfold x_pm at RA
        rw [if_neg (Int32.not_le.mpr lt)] at RA
        exact RA
      · exact RA
    rw [f_Ed_substitute_23]
    refine qi_if (fun c1 => OUT (by lia)) (fun c1 => ?_)
    refine l_gR T q1 (l_gI (e := x_nl8 S) tl.1 ?_)
    refine qi_if (fun c2 => OUT c2) (fun c2 => ?_)
    have pn := Int32.not_lt.mp c2
    have pme : x_pm (x_nl8 S) p = p := by unfold x_pm; rw [if_pos pn]
    rw [pme] at cm RA
    have GO : (dn = 0 ∨ ¬ al = 0) → R = x_sw (y_fd h0 (pg + 3) (c + 5) S) (x_tl S) (x_nl8 S) (fun st t gb ge => x_rx S st t gb ge CD) al k p bf nn dn (D ++ x_sl (x_tl S) cp p) → qi (f_Ed_substitute_58 N (f_Ed_substitute_23 N m) e c nn dn cp bf p tn 0 h) (y_P L e pg ln h0 (x_sE R pr O S H A rd cy rp sm nx)) := by
      intro da ER
      have hh : 0 ≤ p ∧ p ≤ x_nl8 S ∧ x_nl8 S ≤ 1000 := ⟨p0, pn, Int32.le_trans n1 (by decide)⟩
      unfold f_Ed_substitute_58
      rw [if_pos rfl]
      have FE := y_fd_f (S := S) (fm := p) (it := pg + 3) (pt := c + 5) F T0 k5 (by omega) (by omega)
      have PH := y_PP_f (it := pg + 3) (pt := c + 5) F (by omega) (by omega) P
      have eg' : vI h (c + 5) 6 = g := by rw [x_vI_c (F (c + 5) (by omega)), eg]
      refine l_gR T (d_Ed_8 T ly.1) (l_gR T q4 (l_gR T (d_Prog_1 T kp) (l_gR T (d_Cmd_2 T kc) (l_gR T q1 (l_gO (qi_b (y_sF (N := N) hpg (by omega) ly kp s PH p0) ?_))))))
      rw [FE, eg']
      rintro ⟨y, h2⟩ ⟨π2, s2, f2, ⟨w1, w2⟩ | ⟨w1, st, t, gb, ge, w2, w3, w4, w5⟩⟩
      · dsimp only at s2 f2 w1 ⊢
        rw [w1, if_pos rfl]
        rw [x_sw_n hh w2, List.append_assoc, ← x_sl_p cm pn c0] at ER
        exact y_218 (N := N) hpg hc ly (fun a ha => (f2 a (by omega)).trans (F a ha)) (fun k => by rw [x_vI_c (f2 e (by omega)), I k]) s2 (y_R1_c rr (f2 _ (by omega)) (f2 _ (by omega))) n (by rw [x_vI_c (f2 c (by omega)), hC, hp]) c0 cn d0 dz ER
      · dsimp only at s2 f2 w1 w5 ⊢
        rw [w1, if_neg (by decide)]
        have T2 := s2.1.1
        have F2 : y_F e h0 h2 := fun a ha => (f2 a (by omega)).trans (F a ha)
        have I2 : ∀ k, vI h2 e k = vI h0 e k := fun k => by rw [x_vI_c (f2 e (by omega)), I k]
        have rr2 : y_R1 h2 dr 60 D := y_R1_c rr (f2 _ (by omega)) (f2 _ (by omega))
        have hC2 : ∀ k, vI h2 c k = vI h0 c k := fun k => x_vI_c (F2 c (by omega))
        have pl := x_p1_lt p0 w3.1 w3.2.1 w3.2.2 hh.2.2
        have st0 := Int32.le_trans p0 w3.1
        have st_le := w3.2.1
        have t_le := w3.2.2
        -- the end of a turn
        have K177 : ∀ (h3 : z_H) (nn' dn' cp' : Int32) (D' : List Int32) (em : Int32), y_S L e pg ln π2 h3 sp ho dr O S H A → y_R1 h3 dr 60 D' → (∀ a, ¬ (e ≤ a ∧ a < e + 16) → h3 a = h0 a) → (∀ k, vI h3 e k = vI h0 e k) → vI h3 (e + 9) 1 = t → (em = 0 ∧ ¬ st = t ∨ em = 1 ∧ st = t) → 0 ≤ cp' → cp' ≤ x_pm (x_nl8 S) (x_p1 st t) → 0 ≤ dn' → dn' ≤ x_p1 st t → 0 ≤ nn' → nn' ≤ x_p1 st t → (dn' = 0 → D' = [] ∧ cp' = 0) → ((R = x_sw (y_fd h0 (pg + 3) (c + 5) S) (x_tl S) (x_nl8 S) (fun st t gb ge => x_rx S st t gb ge CD) al k (x_p1 st t) t nn' dn' (D' ++ x_sl (x_tl S) cp' (x_pm (x_nl8 S) (x_p1 st t))) ∧ (dn' = 0 ∨ ¬ al = 0)) ∨ (¬ dn' = 0 ∧ al = 0 ∧ R = (dn', D' ++ x_sl (x_tl S) cp' (x_nl8 S)))) → qi (f_Ed_substitute_177 N (f_Ed_substitute_23 N m) e c nn' dn' cp' tn em h3) (y_P L e pg ln h0 (x_sE R pr O S H A rd cy rp sm nx)) := by
          intro h3 nn' dn' cp' D' em s3 r3 F3 I3 et hem x1 x2 x3 x4 x5 x6 x7 x8
          have T3 := s3.1.1
          have IH := ih π2 nn' dn' cp' t (x_p1 st t) (tn + 1) D' h3 s3 r3 F3 I3 x1 x2 (by lia) pl.2 x3 x4 x5 x6 (by lia) (by lia) x7 x8
          unfold f_Ed_substitute_177
          refine l_gR T3 (d_Ed_8 T3 ly.1) (l_gI (e := t) et ?_)
          rcases hem with ⟨em, ne⟩ | ⟨em, ne⟩
          · rw [em, if_pos rfl]
            refine l_gR T3 (d_Ed_8 T3 ly.1) (l_gI (e := t) et (qi_bs ?_))
            have e1 : x_p1 st t = t := by unfold x_p1; rw [if_neg ne]
            rw [e1] at IH
            exact IH
          · rw [em, if_neg (by decide)]
            refine l_gR T3 (d_Ed_8 T3 ly.1) (l_gI (e := t) et (qi_bs (qi_bs ?_)))
            have e1 : x_p1 st t = t + 1 := by unfold x_p1; rw [if_pos ne, ne]
            rw [e1] at IH
            exact IH
        -- the copied part at the turn's end
        have PM : x_pm (x_nl8 S) (x_p1 st t) = x_p1 st t ∧ x_p1 st t ≤ x_nl8 S ∨ x_pm (x_nl8 S) (x_p1 st t) = x_nl8 S ∧ st = t ∧ t = x_nl8 S := by
          unfold x_pm
          by_cases z : x_p1 st t ≤ x_nl8 S
          · exact Or.inl ⟨if_pos z, z⟩
          · refine Or.inr ⟨if_neg z, ?_⟩
            unfold x_p1 at z
            by_cases w : st = t
            · rw [if_pos w] at z
              exact ⟨w, by lia⟩
            · rw [if_neg w] at z
              exact absurd t_le z
        have tpm : t ≤ x_pm (x_nl8 S) (x_p1 st t) := by
          rcases PM with ⟨z, _⟩ | ⟨z, _, w⟩
          · rw [z]
            unfold x_p1
            by_cases w : st = t
            · rw [if_pos w]; lia
            · rw [if_neg w]; exact Int32.le_refl _
          · rw [z, w]; exact Int32.le_refl _
        have TLs : (if st = t ∧ st < x_nl8 S then [x_tl S st] else []) = x_sl (x_tl S) t (x_pm (x_nl8 S) (x_p1 st t)) := by
          by_cases w : st = t
          · by_cases v : st < x_nl8 S
            · rw [if_pos ⟨w, v⟩]
              have e1 : x_pm (x_nl8 S) (x_p1 st t) = t + 1 := by
                unfold x_p1 x_pm
                rw [if_pos w, w, if_pos (by lia)]
              have lt1 : t < t + 1 := by lia
              rw [e1, x_sl_1 lt1 (by lia), x_sl_0 (Int32.le_refl _) (by lia) (by lia), w]
            · rw [if_neg (fun z => v z.2)]
              have e1 : x_pm (x_nl8 S) (x_p1 st t) = t := by
                unfold x_p1 x_pm
                rw [if_pos w, w, if_neg (by lia)]
                lia
              rw [e1, x_sl_0 (Int32.le_refl _) (by lia) (by lia)]
          · rw [if_neg (fun z => w z.1)]
            have e1 : x_pm (x_nl8 S) (x_p1 st t) = t := by
              unfold x_p1 x_pm
              rw [if_neg w, if_pos t_le]
            rw [e1, x_sl_0 (Int32.le_refl _) (by lia) (by lia)]
        have cpst : cp ≤ st := Int32.le_trans cm w3.1
        have W1e : ∀ X : List Int32, x_W1 (x_tl S) (x_nl8 S) p st t (D ++ x_sl (x_tl S) cp p) X = D ++ x_sl (x_tl S) cp st ++ X ++ x_sl (x_tl S) t (x_pm (x_nl8 S) (x_p1 st t)) := by
          intro X
          unfold x_W1
          rw [TLs, List.append_assoc D, ← x_sl_p cm w3.1 c0]
        have NH : ∀ (em nn' : Int32), (em = 0 ∧ ¬ st = t ∨ em = 1 ∧ st = t) → 0 ≤ nn' → nn' ≤ x_p1 st t → nn' = (if st < t ∨ ¬ st = bf then nn + 1 else nn) → ¬ ((st < t ∨ ¬ st = bf) ∧ (nn + 1 = k ∨ (k < nn + 1 ∧ ¬ al = 0))) → qi (f_Ed_substitute_177 N (f_Ed_substitute_23 N m) e c nn' dn cp tn em h2) (y_P L e pg ln h0 (x_sE R pr O S H A rd cy rp sm nx)) := by
          intro em nn' hem y0 y1 en nh
          refine K177 h2 nn' dn cp D em s2 rr2 F2 I2 w5.2.1 hem c0 (Int32.le_trans cpst (Int32.le_trans st_le tpm)) d0 (by lia) y0 y1 dz (Or.inl ⟨?_, da⟩)
          rw [x_sw_m hh w2 w3 nh, W1e, ← en] at ER
          rw [ER]
          congr 1
          rw [List.append_assoc D, ← x_sl_p cpst st_le c0, List.append_assoc D, ← x_sl_p (Int32.le_trans cpst st_le) tpm c0]
        have HT : ∀ em : Int32, (em = 0 ∧ ¬ st = t ∨ em = 1 ∧ st = t) → (st < t ∨ ¬ st = bf) → qi (f_Ed_substitute_136 N (f_Ed_substitute_23 N m) e c nn dn cp tn em h2) (y_P L e pg ln h0 (x_sE R pr O S H A rd cy rp sm nx)) := by
          intro em hem ct
          unfold f_Ed_substitute_136
          refine qi_bs (l_gO (qi_b (y_rpl (N := N) (by rw [hC2, hal]) (by rw [hC2, hdg]) ek) ?_))
          rintro ⟨y3, h3⟩ ⟨e3, ⟨r1, r2⟩ | ⟨r1, r2⟩⟩
          · dsimp only at e3 r1 ⊢
            subst e3
            rw [r1, if_neg (by decide)]
            have ER' := ER
            rw [x_sw_h hh w2 w3 ⟨ct, r2⟩, W1e] at ER'
            -- what comes out is at least as long
            have LEN : ∀ X : List Int32, X.length ≤ (x_sl (x_tl S) cp st ++ x_rx S st t gb ge CD).length → ¬ D.length + X.length ≤ 60 → ¬ R.1 = 0 ∧ ¬ R.2.length ≤ 60 := by
              intro X lx nx6
              have wl : D.length + X.length ≤ (D ++ x_sl (x_tl S) cp st ++ x_rx S st t gb ge CD ++ x_sl (x_tl S) t (x_pm (x_nl8 S) (x_p1 st t))).length := by
                rw [List.length_append, List.append_assoc D, List.length_append]
                omega
              by_cases a : al = 0
              · rw [if_pos a] at ER'
                rw [ER']
                refine ⟨fun z => absurd (show dn + 1 = 0 from z) (by lia), fun z => nx6 ?_⟩
                have z' : (D ++ x_sl (x_tl S) cp st ++ x_rx S st t gb ge CD ++ x_sl (x_tl S) t (x_pm (x_nl8 S) (x_p1 st t)) ++ x_sl (x_tl S) (x_p1 st t) (x_nl8 S)).length ≤ 60 := z
                rw [List.length_append] at z'
                omega
              · rw [if_neg a] at ER'
                have ml := x_sw_len (fd := y_fd h0 (pg + 3) (c + 5) S) (tx := x_tl S) (rep := fun st t gb ge => x_rx S st t gb ge CD) (al := al) (k := k) n0 hh.2.2 _ (x_p1 st t) t (nn + 1) (dn + 1) (D ++ x_sl (x_tl S) cp st ++ x_rx S st t gb ge CD ++ x_sl (x_tl S) t (x_pm (x_nl8 S) (x_p1 st t))) (Nat.lt_succ_self _) (by lia) pl.2 (by lia) (by lia)
                rw [← ER'] at ml
                refine ⟨fun z => ?_, fun z => nx6 ?_⟩
                · have m1 := ml.1
                  rw [z] at m1
                  exact absurd m1 (by lia)
                · omega
            refine l_gR T2 (d_Ed_8 T2 ly.1) (l_gI (e := st) w5.1 (l_gO (qi_b (y_dP (N := N) ly s2 rr2 c0 cpst (Int32.le_trans st_le t_le)) ?_)))
            rintro ⟨y4, h4⟩ ⟨s4, f4, ⟨u1, u2, u3⟩ | ⟨u1, u2⟩⟩
            · dsimp only at s4 f4 u1 u3 ⊢
              refine qi_zx (fun x _ => ?_) (fun E eE => by rw [u1] at eE; cases eE)
              have F4 : y_F e h0 h4 := fun a ha => (f4 a (by omega) (by omega)).trans (F2 a ha)
              have I4 : ∀ k, vI h4 e k = vI h0 e k := fun k => by rw [x_vI_c (f4 e (by omega) (by omega)), I2 k]
              have mt4 : y_MT h4 e g st t gb ge := ⟨by rw [x_vI_c (f4 (e + 9) (by omega) (by omega)), w5.1], by rw [x_vI_c (f4 (e + 9) (by omega) (by omega)), w5.2.1], by rw [x_vA_c (f4 (e + 10) (by omega) (by omega))]; exact w5.2.2.1, by rw [x_vA_c (f4 (e + 11) (by omega) (by omega))]; exact w5.2.2.2⟩
              have tkk := rt.2.2
              rw [← rt.1] at tkk
              have tk := x_kt_g (Int32.le_refl 0) rt.2.1.1 tkk
              have rt2 := rt.2.1.2
              have g3 : g ≤ 3 := by rw [← eg]; exact P.2.1
              have DR := y_dR5 (N := N) (tt := tt) (g := g) (st := st) (t := t) (gb := gb) (ge := ge) (tx := vA h0 (pg + 2)) (S := S) (L := L) (π := π2) (sp := sp) (ho := ho) (dr := dr) (O := O) (H := H) (A := A) (ln := ln) hpg hc ly kp (fun j j0 j1 => tk j j0 (Int32.lt_of_lt_of_le j1 b2)) g3 w4 st0 st_le (by lia) N tf CD (D ++ x_sl (x_tl S) cp st) h4 s4 u3 (by rw [x_vI_c (F4 c (by omega)), htt]) (by rw [x_vI_c (F4 (pg + 1) (by omega))]; exact b2) (fun j _ _ => by rw [x_vA_c (F4 (pg + 2) (by omega))]) mt4 b0 b1 EC
              unfold f_Ed_draftReplacement
              refine l_gO (qi_b (l_gI (e := tf) (by rw [x_vI_c (F4 c (by omega)), htf]) DR) ?_)
              rintro ⟨y5, h5⟩ ⟨s5, f5, ⟨x1, x2, x3⟩ | ⟨x1, x2⟩⟩
              · dsimp only at s5 f5 x1 x3 ⊢
                refine qi_zx (fun x _ => ?_) (fun E eE => by rw [x1] at eE; cases eE)
                have T5 := s5.1.1
                have F5 : y_F e h0 h5 := fun a ha => (f5 a (by omega) (by omega)).trans (F4 a ha)
                have I5 : ∀ k, vI h5 e k = vI h0 e k := fun k => by rw [x_vI_c (f5 e (by omega) (by omega)), I4 k]
                have m5 : vI h5 (e + 9) 1 = t := by rw [x_vI_c (f5 (e + 9) (by omega) (by omega)), mt4.2.1]
                refine l_gR T5 (d_Ed_8 T5 ly.1) (l_gI (e := t) m5 (qi_bs ?_))
                refine K177 h5 (nn + 1) (dn + 1) t (D ++ x_sl (x_tl S) cp st ++ x_rx S st t gb ge CD) em s5 x3 F5 I5 m5 hem (by lia) tpm (by lia) (by lia) (by lia) (by lia) (fun z => absurd z (by lia)) ?_
                by_cases a : al = 0
                · rw [if_pos a] at ER'
                  refine Or.inr ⟨by lia, a, ?_⟩
                  rw [ER']
                  congr 1
                  rw [List.append_assoc (D ++ x_sl (x_tl S) cp st ++ x_rx S st t gb ge CD)]
                  congr 1
                  rcases PM with ⟨z1, z2⟩ | ⟨z1, z2, z3⟩
                  · rw [z1] at tpm ⊢
                    exact (x_sl_p tpm z2 (by lia)).symm
                  · have np : x_nl8 S ≤ x_p1 st t := by
                      unfold x_p1
                      rw [if_pos z2]
                      lia
                    rw [z1, x_sl_0 np (by lia) n0, List.append_nil]
                · rw [if_neg a] at ER'
                  exact Or.inl ⟨ER', Or.inr a⟩
              · dsimp only at s5 f5 x1 ⊢
                refine qi_zx (fun x ex => by rw [x1] at ex; cases ex) (fun E eE => ?_)
                rw [x1] at eE
                cases eE
                have LL := LEN (x_sl (x_tl S) cp st ++ x_rx S st t gb ge CD) (Nat.le_refl _) (by rw [List.length_append] at x2 ⊢; omega)
                unfold x_sE
                rw [if_neg LL.1, if_neg LL.2]
                exact y_P0 n (fun a ha => (f5 a (by omega) (by omega)).trans (F4 a ha)) (fun k => by rw [x_vI_c (f5 e (by omega) (by omega)), I4 k]) s5 rfl
            · dsimp only at s4 f4 u1 ⊢
              refine qi_zx (fun x ex => by rw [u1] at ex; cases ex) (fun E eE => ?_)
              rw [u1] at eE
              cases eE
              have LL := LEN (x_sl (x_tl S) cp st) (by rw [List.length_append]; omega) u2
              unfold x_sE
              rw [if_neg LL.1, if_neg LL.2]
              exact y_P0 n (fun a ha => (f4 a (by omega) (by omega)).trans (F2 a ha)) (fun k => by rw [x_vI_c (f4 e (by omega) (by omega)), I2 k]) s4 rfl
          · dsimp only at e3 r1 ⊢
            subst e3
            rw [r1, if_pos rfl]
            exact NH em (nn + 1) hem (by lia) (by lia) (by rw [if_pos ct]) (fun z => r2 z.2)
        refine l_gR T2 (d_Ed_8 T2 ly.1) (l_gI (e := st) w5.1 (l_gR T2 (d_Ed_8 T2 ly.1) (l_gI (e := t) w5.2.1 ?_)))
        refine qi_if (fun c5 => ?_) (fun c5 => ?_)
        · unfold f_Ed_substitute_117
          rw [if_neg (by decide)]
          refine l_gR T2 (d_Ed_8 T2 ly.1) (l_gI (e := st) w5.1 ?_)
          refine qi_if (fun c6 => ?_) (fun c6 => ?_)
          · have nc : ¬ (st < t ∨ ¬ st = bf) := fun z => z.elim (fun z => by rw [c5] at z; exact absurd z Int32.lt_irrefl) (fun z => z c6)
            exact NH 1 nn (Or.inr ⟨rfl, c5⟩) v0 (by lia) (by rw [if_neg nc]) (fun z => nc z.1)
          · exact HT 1 (Or.inr ⟨rfl, c5⟩) (Or.inr c6)
        · unfold f_Ed_substitute_117
          rw [if_pos rfl]
          exact HT 0 (Or.inl ⟨rfl, c5⟩) (Or.inl (by lia))
    refine qi_if (fun c3 => ?_) (fun c3 => ?_)
    · have z : dn = 0 := Int32.le_antisymm c3 d0
      rcases RA with ⟨RA, _⟩ | ⟨RA, _⟩
      · exact GO (Or.inl z) RA
      · exact absurd z RA
    · have nz : ¬ dn = 0 := fun z => c3 (by rw [z]; decide)
      refine l_gI (e := al) (by rw [hC, hal]) ?_
      refine qi_if (fun c4 => ?_) (fun c4 => ?_)
      · unfold f_Ed_substitute_58
        rw [if_neg (by decide)]
        rcases RA with ⟨_, RA⟩ | ⟨_, _, RA⟩
        · exact RA.elim (fun w => absurd w nz) (fun w => absurd c4 w)
        · exact EX RA
      · rcases RA with ⟨RA, _⟩ | ⟨_, RA, _⟩
        · exact GO (Or.inr c4) RA
        · exact absurd RA c4
end Y12
