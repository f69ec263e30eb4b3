/-! reference: a run -/
section AK
variable {lc : Int32} {LN : Int32 → List Int32} {O S H A X : List Int32} {rd cy rp sm nx b pr : Int32}
theorem x_ak_i {c : Prop} [Decidable c] {a b : x_TT} (ha : c → x_a10 (x_A8 a)) (hb : ¬ c → x_a10 (x_A8 b)) : x_a10 (x_A8 (if c then a else b)) := by
  by_cases z : c
  · rw [if_pos z]; exact ha z
  · rw [if_neg z]; exact hb z
theorem x_ak0 : x_a10 [] := Or.inl rfl
theorem x_ak_r {R : Int32 × List Int32 × List Int32} (a : x_a10 A) : x_a10 (x_A8 (x_rE R H A rd cy rp sm nx)) := by
  unfold x_rE
  exact x_ak_i (fun _ => a) (fun _ => x_ak_i (fun _ => x_ak0) (fun _ => x_ak0))
theorem x_ak_q (a : x_a10 A) : x_a10 (x_A8 (x_qE O S H A rd cy rp sm nx)) := by
  unfold x_qE
  exact x_ak_i (fun _ => a) (fun _ => x_ak0)
theorem x_ak_p {kd tg : Int32} {ym : Int32 → Int32} {sw : List Int32 → Int32 × List Int32} (a : x_a10 A) : x_a10 (x_A8 (x_pf kd tg b pr X ym sw lc LN O S H A rd cy rp sm nx)) := by
  have TE : ∀ X, x_a10 (x_A8 (x_tE X O S H A rd cy rp sm nx)) := fun X => by
    unfold x_tE
    exact x_ak_i (fun _ => a) (fun _ => a)
  unfold x_pf
  refine x_ak_i (fun _ => TE _) (fun _ => x_ak_i (fun _ => ?_) (fun _ => x_ak_i (fun _ => x_ak_i (fun _ => a) (fun _ => a)) (fun _ => x_ak_i (fun _ => x_ak_i (fun _ => a) (fun _ => a)) (fun _ => x_ak_i (fun _ => ?_) (fun _ => x_ak_i (fun _ => TE _) (fun _ => x_ak_i (fun _ => ?_) (fun _ => x_ak_i (fun _ => a) (fun _ => x_ak_i (fun _ => ?_) (fun _ => x_ak_i (fun _ => x_ak_r a) (fun _ => x_ak_i (fun _ => a) (fun _ => x_ak_i (fun _ => a) (fun _ => x_ak_i (fun _ => TE _) (fun _ => x_ak_i (fun _ => ?_) (fun _ => x_ak_i (fun _ => TE _) (fun _ => x_ak_i (fun _ => x_ak_q a) (fun _ => x_ak_i (fun _ => ?_) (fun _ => x_ak_i (fun _ => x_ak_i (fun _ => a) (fun _ => a)) (fun _ => x_ak_i (fun _ => a) (fun _ => x_ak_i (fun _ => a) (fun _ => a))))))))))))))))))))
  · unfold x_DE
    exact x_ak_i (fun _ => x_ak_r a) (fun _ => x_ak_i (fun _ => a) (fun _ => x_ak0))
  · unfold x_NE
    exact x_ak_i (fun _ => x_ak_q a) (fun w => x_ak_i (fun _ => x_ak_i (fun _ => a) (fun _ => x_ak0)) (fun _ => a))
  · unfold x_aE
    exact x_ak_i (fun _ => Or.inr ⟨A ++ X, rfl⟩) (fun _ => a)
  · unfold x_cE
    exact x_ak_i (fun _ => x_ak_r a) (fun _ => x_ak_i (fun _ => x_ak_r a) (fun _ => a))
  · unfold x_nE
    exact x_ak_i (fun _ => x_ak_q a) (fun w => x_ak_i (fun _ => x_ak_i (fun _ => a) (fun _ => x_ak0)) (fun _ => a))
  · unfold x_sE
    exact x_ak_i (fun _ => a) (fun _ => x_ak_i (fun _ => x_ak_i (fun _ => a) (fun _ => x_ak_i (fun _ => a) (fun _ => a))) (fun _ => a))
end AK
theorem x_dne_e {na inv ir f1 f2 rc f1' f2' rc' : Int32} (e1 : na = 1 ∨ na = 2 → f1 = f1') (e2 : na = 2 → f2 = f2' ∧ rc = rc') : x_dne na inv ir f1 f2 rc = x_dne na inv ir f1' f2' rc' := by
  unfold x_dne
  by_cases c1 : na = 1
  · rw [if_pos c1, if_pos c1, e1 (Or.inl c1)]
  · rw [if_neg c1, if_neg c1]
    by_cases c2 : na = 2
    · rw [if_pos c2, if_pos c2, e1 (Or.inr c2), (e2 c2).1, (e2 c2).2]
    · rw [if_neg c2, if_neg c2]
/-- what a run leaves -/
def r_Y (v0 : Nat) (h h1 : z_H) : Prop := (∀ a, ¬ (v0 + 36 ≤ a ∧ a ≤ v0 + 45) → a ≠ v0 → h1 a = h a) ∧ ∀ k, k < 51 → k ≠ 6 → vI h1 v0 k = vI h v0 k
theorem r_Y_r {v0 : Nat} {h : z_H} : r_Y v0 h h := ⟨fun _ _ _ => rfl, fun _ _ _ => rfl⟩
theorem r_Y_F {v0 : Nat} {h h1 h2 : z_H} (a : r_Y v0 h h1) (b : r_F v0 h1 h2) : r_Y v0 h h2 := ⟨fun x hx hn => (b.1 x (by omega) hn).trans (a.1 x hx hn), fun k hk hn => (b.2 k hk hn).trans (a.2 k hk hn)⟩
def r_RES (L : q_L) (π : Nat → Nat → Option Nat) (v0 : Nat) (h0 : z_H) (st : Int32) (E : x_TT) (bg : Int32) (r : Int32 × z_H) : Prop := (∃ A', r_S L π v0 r.2 (x_O E) (x_S8 E) (x_H8 E) A') ∧ (vI r.2 v0 70 = x_rd E ∧ vI r.2 v0 72 = x_cy E ∧ vI r.2 v0 73 = x_rp E ∧ vI r.2 v0 71 = bg) ∧ r_Y v0 h0 r.2 ∧ ((st = 0 ∧ vI r.2 v0 6 = 0 ∧ r.1 = vI r.2 v0 69) ∨ (st = 2 ∧ vI r.2 v0 6 = 2) ∨ (st = 3 ∧ vI r.2 v0 6 = 3))
/-- a state of a run -/
def r_ST (L : q_L) (π : Nat → Nat → Option Nat) (v0 : Nat) (E : x_TT) (y : Int32) (h : z_H) : Prop := ∃ A', r_S L π v0 h (x_O E) (x_S8 E) (x_H8 E) A' ∧ (vI h v0 70 = x_rd E ∧ vI h v0 72 = x_cy E ∧ vI h v0 73 = x_rp E) ∧ ((E.1 = 0 ∧ vI h v0 76 = 1 ∧ vI h v0 6 = 2) ∨ (E.1 = 1 ∧ vI h v0 76 = x_ov E ∧ vI h v0 6 = 0 ∧ (x_ov E = 0 → A' = x_A8 E ∧ vI h v0 74 = x_sm E ∧ y = x_nx E)))
section S5
variable {L : q_L} {π : Nat → Nat → Option Nat} {N v0 : Nat} {h h0 h1 : z_H} {O S H A : List Int32} {LN : Int32 → List Int32} {sz lc rd cy rp sm nx b : Int32} {kd tg pr na inv : Int32 → Int32} {X : Int32 → List Int32} {ym : Int32 → Int32 → Int32} {sw : Int32 → List Int32 → Int32 × List Int32} {f1 f2 : Int32 → List Int32 → Int32 → Int32} {rc : Int32 → Int32 → Int32}
theorem r_P_ST {E : x_TT} {y : Int32} (p : r_P L π v0 h E y h1) (t6 : vI h v0 6 = 0) : r_ST L π v0 E y h1 := by
  obtain ⟨_, _, A', s, n, q⟩ := p
  refine ⟨A', s, n, ?_⟩
  rcases q with q | ⟨q1, q2, q3, q4⟩
  · exact Or.inl q
  · exact Or.inr ⟨q1, q2, q3.trans t6, q4⟩
set_option maxHeartbeats 8000000 in
theorem r_118 (T0 : x_U L π h0) (M : q_M L π v0) (ll : r_LN h0 v0 lc LN) (hsz : vA h0 (v0 + 19) (vI h0 v0 7) = sz) (s40 : sz ≤ 40) (lv : vI h0 v0 7 = 0 ∨ vI h0 v0 7 = 1) (CM : ∀ k, 0 ≤ k → k < sz → r_CM h0 v0 lc sz (40 * vI h0 v0 7 + k) (kd k) (tg k) (pr k) (na k) (inv k) (X k) (ym k) (sw k) (f1 k) (f2 k) (rc k)) {st bg' : Int32} {E' : x_TT} : ∀ (m Mf : Nat) (E : x_TT) (bg : Int32) (act : Int32 → Int32) (y : Int32) (h : z_H), r_ST L π v0 E y h → vI h v0 71 = bg → r_Y v0 h0 h → (∀ j, 0 ≤ j → j < sz → vA h (v0 + 45) j = act j) → x_a10 (x_A8 E) → 0 ≤ x_rd E → x_rd E ≤ lc → x_run sz lc LN kd tg pr na inv X ym sw f1 f2 rc Mf E bg act = some (st, E', bg') → qi (f_Mod_run_118 N m v0 y h) (r_RES L π v0 h0 st E' bg') := by
  intro m
  induction m with
  | zero => intro Mf E bg act y h _ _ _ _ _ _ _ _ r e; rw [f_Mod_run_118] at e; cases e
  | succ m ih =>
    intro Mf E bg act y h ST e71 Y ac e10 r0 rl RUN
    obtain ⟨A', s, ⟨i70, i72, i73⟩, q⟩ := ST
    obtain ⟨⟨T, _⟩, a1, a2, a3, a4⟩ := id s
    cases Mf with
    | zero => rw [x_run] at RUN; cases RUN
    | succ Mf =>
    rw [x_run] at RUN
    rw [f_Mod_run_118]
    rcases q with ⟨q1, q2, q3⟩ | ⟨q1, q2, q3, q4⟩
    · rw [if_pos q1] at RUN
      cases RUN
      refine l_gI (e := 1) q2 ?_
      rw [if_neg (by decide)]
      exact l_gI (e := vI h v0 69) rfl (qi_some ⟨⟨A', s⟩, ⟨i70, i72, i73, e71⟩, Y, Or.inr (Or.inl ⟨rfl, q3⟩)⟩)
    · have nE : ¬ E.1 = 0 := by rw [q1]; decide
      rw [if_neg nE] at RUN
      refine l_gI (e := x_ov E) q2 ?_
      refine qi_if (fun c => ?_) (fun c => ?_)
      · rw [if_neg (fun z => z c)] at RUN
        obtain ⟨z1, z2, z3⟩ := q4 c
        subst z1
        have n : r_N h v0 (x_rd E) (x_cy E) (x_rp E) (x_sm E) := ⟨i70, i72, i73, z2, by rw [q2, c]⟩
        have e7 : vI h v0 7 = vI h0 v0 7 := Y.2 7 (by decide) (by decide)
        have X0 : r_X v0 h0 h := fun a a1 a2 => Y.1 a (by omega) (by omega)
        have lnh : r_LN h v0 lc LN := by
          refine ⟨⟨ll.1.1, ll.1.2.1, by rw [Y.2 4 (by decide) (by decide)]; exact ll.1.2.2⟩, ?_⟩
          rw [x_vA_c (X0 (v0 + 2) (by omega) (by omega)), x_vA_c (X0 (v0 + 3) (by omega) (by omega))]
          exact ll.2
        have hszh : vA h (v0 + 19) (vI h v0 7) = sz := by rw [e7, x_vA_c (X0 (v0 + 19) (by omega) (by omega)), hsz]
        refine l_gR T (d_Mo_24 M) (l_gI (e := vI h v0 7) rfl (l_aI (e := sz) (fun _ => hszh) (fun _ => ?_)))
        rw [z3]
        refine qi_if (fun c1 => ?_) (fun c1 => ?_)
        · rw [if_neg (Int32.not_le.mpr c1)] at RUN
          refine l_gI (e := bg) e71 ?_
          refine qi_if (fun c2 => ?_) (fun c2 => ?_)
          · rw [if_pos c2] at RUN
            cases RUN
            unfold f_Mod_fail
            refine l_gO ?_
            refine qi_b (P := fun r => x_U L π r.2 ∧ (∀ b, b ≠ v0 → r.2 b = h b) ∧ ∀ k, vI r.2 v0 k = if k = 6 then 3 else vI h v0 k) (l_sIc T M.1 (by decide) rfl (fun h2 T2 c2 u2 => qi_some ⟨T2, c2, u2⟩)) ?_
            rintro ⟨y2, h2⟩ ⟨T2, c2, u2⟩
            dsimp only at T2 c2 u2 ⊢
            have J : ∀ k, k ≠ 6 → vI h2 v0 k = vI h v0 k := fun k hk => by rw [u2 k, if_neg hk]
            refine qi_some ⟨⟨_, ⟨T2, M⟩, r_R1_c a1 (J 69 (by decide)) (c2 _ (by omega)), r_R1_c a2 (J 65 (by decide)) (c2 _ (by omega)), r_R1_c a3 (J 66 (by decide)) (c2 _ (by omega)), r_R1_c a4 (J 68 (by decide)) (c2 _ (by omega))⟩, ⟨(J 70 (by decide)).trans i70, (J 72 (by decide)).trans i72, (J 73 (by decide)).trans i73, (J 71 (by decide)).trans e71⟩, ⟨fun a ha hn => (c2 a hn).trans (Y.1 a ha hn), fun k hk hn => (J k hn).trans (Y.2 k hk hn)⟩, Or.inr (Or.inr ⟨rfl, by show vI h2 v0 6 = 3; rw [u2 6, if_pos rfl]⟩)⟩
          · rw [if_neg c2] at RUN
            by_cases kn : x_nx E < 0
            · rw [if_pos kn] at RUN; cases RUN
            rw [if_neg kn] at RUN
            have k0 := Int32.not_lt.mp kn
            refine l_gI (e := bg) e71 (l_sIc T M.1 (by decide) rfl ?_)
            intro h2 T2 c2' u2
            have J2 : ∀ k, k ≠ 71 → vI h2 v0 k = vI h v0 k := fun k hk => by rw [u2 k, if_neg hk]
            have s2 : r_S L π v0 h2 (x_O E) (x_S8 E) (x_H8 E) (x_A8 E) := ⟨⟨T2, M⟩, r_R1_c a1 (J2 69 (by decide)) (c2' _ (by omega)), r_R1_c a2 (J2 65 (by decide)) (c2' _ (by omega)), r_R1_c a3 (J2 66 (by decide)) (c2' _ (by omega)), r_R1_c a4 (J2 68 (by decide)) (c2' _ (by omega))⟩
            have X2 : r_X v0 h0 h2 := fun a a1 a2 => (c2' a (by omega)).trans (X0 a a1 a2)
            have e72 : vI h2 v0 7 = vI h0 v0 7 := (J2 7 (by decide)).trans e7
            refine l_gI (e := vI h0 v0 7) e72 (qi_bs ?_)
            have C2 := r_CM_x M T0 T2 X2 (CM (x_nx E) k0 c1)
            obtain ⟨⟨C1a, C1b, C1c, C1d⟩, CF1, CF2, -⟩ := id C2
            have ek : 40 * vI h0 v0 7 + x_nx E - 40 * vI h2 v0 7 = x_nx E := by rw [e72]; grind
            have kt := a2.2.2
            have SL : (x_S8 E).length ≤ 60 := by
              have l := r_R1_len a2
              have c := x_ctn a2.2.1.1
              have w := Int32.le_iff_toInt_le.mp a2.2.1.2
              have z6 : (60 : Int32).toInt = 60 := rfl
              rw [z6] at w
              omega
            have ir : vA h2 (v0 + 45) (x_nx E) = act (x_nx E) := by rw [x_vA_c (c2' (v0 + 45) (by omega))]; exact ac _ k0 c1
            have ID : qi (f_Mod_isDone N v0 (40 * vI h0 v0 7 + x_nx E) h2) (r_DN L π v0 (40 * vI h0 v0 7 + x_nx E) (x_nx E) h2 (x_O E) (x_S8 E) (x_H8 E) (x_A8 E) (x_DD na inv f1 f2 rc E act)) := by
              have i01 : vA h2 (v0 + 16) (40 * vI h0 v0 7 + x_nx E) = 0 ∨ vA h2 (v0 + 16) (40 * vI h0 v0 7 + x_nx E) = 1 := by rw [← C1b]; exact C1c
              have h70 : vI h2 v0 70 = x_rd E := (J2 70 (by decide)).trans i70
              have h4 : vI h2 v0 4 = lc := (J2 4 (by decide)).trans lnh.1.2.2
              unfold x_DD
              by_cases o1 : vA h2 (v0 + 5) (40 * vI h0 v0 7 + x_nx E) = 0
              · have t := r_iD (N := N) (s1 := 0) (s2 := 0) (g := 0) (t1 := 0) (t2 := 0) (g' := 0) s2 ek k0 h70 h4 i01 (fun z => absurd o1 z) (fun z => absurd o1 z)
                have en : na (x_nx E) = 0 := by rw [C1d]; unfold r_na; rw [if_pos o1]
                rw [← C1d, ← C1b, ir, x_dne_e (f1' := f1 (x_nx E) (x_S8 E) (x_rd E)) (f2' := f2 (x_nx E) (x_S8 E) (x_rd E)) (rc' := rc (x_nx E) (x_rd E)) (fun z => by rw [en] at z; exact absurd z (by decide)) (fun z => by rw [en] at z; exact absurd z (by decide))] at t
                exact t
              · obtain ⟨s1, s2', g, P1, EF1⟩ := CF1 o1
                by_cases o2 : vA h2 (v0 + 7) (40 * vI h0 v0 7 + x_nx E) = 0
                · have t := r_iD (N := N) (s1 := s1) (s2 := s2') (g := g) (t1 := 0) (t2 := 0) (g' := 0) s2 ek k0 h70 h4 i01 (fun _ => P1) (fun _ z => absurd o2 z)
                  have en : na (x_nx E) = 1 := by rw [C1d]; unfold r_na; rw [if_neg o1, if_pos o2]
                  rw [← C1d, ← C1b, ir, x_dne_e (f1' := f1 (x_nx E) (x_S8 E) (x_rd E)) (f2' := f2 (x_nx E) (x_S8 E) (x_rd E)) (rc' := rc (x_nx E) (x_rd E)) (fun _ => (EF1 _ _ kt SL).symm) (fun z => by rw [en] at z; exact absurd z (by decide))] at t
                  exact t
                · obtain ⟨ERC, t1, t2, g', P2, EF2⟩ := CF2 o1 o2
                  have t := r_iD (N := N) (s1 := s1) (s2 := s2') (g := g) (t1 := t1) (t2 := t2) (g' := g') s2 ek k0 h70 h4 i01 (fun _ => P1) (fun _ _ => P2)
                  rw [← C1d, ← C1b, ir, x_dne_e (f1' := f1 (x_nx E) (x_S8 E) (x_rd E)) (f2' := f2 (x_nx E) (x_S8 E) (x_rd E)) (rc' := rc (x_nx E) (x_rd E)) (fun _ => (EF1 _ _ kt SL).symm) (fun _ => ⟨(EF2 _ _ kt SL).symm, (ERC _).symm⟩)] at t
                  exact t
            refine l_gO (qi_b ID ?_)
            rintro ⟨y3, h3⟩ ⟨ey, s3, F3, I3, A3, B3⟩
            dsimp only at ey s3 F3 I3 A3 B3 ⊢
            have T3 := s3.1.1
            have Y3 : r_Y v0 h0 h3 := ⟨fun a ha hn => (F3 a (by omega) hn (by omega)).trans ((c2' a hn).trans (Y.1 a ha hn)), fun k hk hn => (I3 k (by omega) (by omega)).trans ((J2 k (by omega)).trans (Y.2 k hk hn))⟩
            have X3 : r_X v0 h0 h3 := fun a a1 a2 => Y3.1 a (by omega) (by omega)
            have C3 := r_CM_x M T0 T3 X3 (CM (x_nx E) k0 c1)
            have n3 : r_N h3 v0 (x_rd E) (x_cy E) (x_rp E) (x_sm E) := ⟨by rw [I3 70 (by omega) (by omega), J2 70 (by decide)]; exact n.1, by rw [I3 72 (by omega) (by omega), J2 72 (by decide)]; exact n.2.1, by rw [I3 73 (by omega) (by omega), J2 73 (by decide)]; exact n.2.2.1, by rw [I3 74 (by omega) (by omega), J2 74 (by decide)]; exact n.2.2.2.1, by rw [I3 76 (by omega) (by omega), J2 76 (by decide)]; exact n.2.2.2.2⟩
            have t63 : vI h3 v0 6 = 0 := by rw [I3 6 (by omega) (by omega), J2 6 (by decide), q3]
            have e713 : vI h3 v0 71 = bg + 1 := by rw [I3 71 (by omega) (by omega), u2 71, if_pos rfl]
            have ac3 : ∀ j, 0 ≤ j → j < sz → vA h3 (v0 + 45) j = x_up act (x_nx E) (x_DD na inv f1 f2 rc E act).2.1 j := by
              intro j j0 j1
              rw [A3 j j0]
              unfold x_up
              by_cases z : j = x_nx E
              · rw [if_pos z, if_pos z]
              · rw [if_neg z, if_neg z, x_vA_c (c2' (v0 + 45) (by omega))]
                exact ac j j0 j1
            have V3 : ∀ i, 0 < i → i < 36 → vA h3 (v0 + i) = vA h2 (v0 + i) := fun i i0 i1 => x_vA_c (F3 (v0 + i) (by omega) (by omega) (by omega))
            refine qi_bs (l_gR T3 (d_Mo_9 M) (l_aI (e := kd (x_nx E)) (fun _ => C3.1.1.symm) (fun _ => ?_)))
            have NXT : ∀ v : Int32, v = (if kd (x_nx E) = 123 then tg (x_nx E) else x_nx E + 1) → (x_DD na inv f1 f2 rc E act).1 = 0 → qi (f_Mod_run_118 N m v0 v h3) (r_RES L π v0 h0 st E' bg') := by
              intro v ev dz
              rw [if_pos dz] at RUN
              refine ih Mf (x_sk kd tg E) (bg + 1) _ v h3 ⟨x_A8 E, s3, ⟨n3.1, n3.2.1, n3.2.2.1⟩, Or.inr ⟨rfl, n3.2.2.2.2, t63, fun _ => ⟨rfl, n3.2.2.2.1, ev⟩⟩⟩ e713 Y3 ac3 e10 r0 rl RUN
            have DO : ¬ (x_DD na inv f1 f2 rc E act).1 = 0 → ∀ (v : Int32) (h4 : z_H), r_P L π v0 h3 (x_do lc LN kd tg pr X ym sw (x_DD na inv f1 f2 rc E act).2.2 E) v h4 → qi (f_Mod_run_118 N m v0 v h4) (r_RES L π v0 h0 st E' bg') := by
              intro dz v h4 p
              rw [if_neg dz] at RUN
              have rk : x_rk (x_rd E) lc (x_do lc LN kd tg pr X ym sw (x_DD na inv f1 f2 rc E act).2.2 E) := x_rk_p
              refine ih Mf _ (bg + 1) _ v h4 (r_P_ST p t63) (p.2.1.trans e713) (r_Y_F Y3 p.1) (fun j j0 j1 => ?_) (x_ak_p e10) ?_ ?_ RUN
              · rw [x_vA_c (p.1.1 (v0 + 45) (by omega) (by omega))]
                exact ac3 j j0 j1
              · rcases rk with w | ⟨w, _⟩
                · rw [w]; exact r0
                · rw [w]; lia
              · rcases rk with w | ⟨w, w'⟩
                · rw [w]; exact rl
                · have L12 := ll.1.2.1
                  rw [w]; lia
            have PF : ¬ (x_DD na inv f1 f2 rc E act).1 = 0 → qi (f_Mod_perform N v0 (40 * vI h0 v0 7 + x_nx E) (x_nx E) h3) (fun r => r_P L π v0 h3 (x_do lc LN kd tg pr X ym sw (x_DD na inv f1 f2 rc E act).2.2 E) r.1 r.2) := by
              intro dz
              obtain ⟨B31, B32⟩ := B3 dz
              have lnh3 : r_LN h3 v0 lc LN := by
                refine ⟨⟨ll.1.1, ll.1.2.1, by rw [Y3.2 4 (by decide) (by decide)]; exact ll.1.2.2⟩, ?_⟩
                rw [x_vA_c (X3 (v0 + 2) (by omega) (by omega)), x_vA_c (X3 (v0 + 3) (by omega) (by omega))]
                exact ll.2
              have hsz3 : vA h3 (v0 + 19) (vI h3 v0 7) = sz := by rw [Y3.2 7 (by decide) (by decide), x_vA_c (X3 (v0 + 19) (by omega) (by omega)), hsz]
              exact r_pf (N := N) (b := (x_DD na inv f1 f2 rc E act).2.2) s3 e10 n3 lnh3 r0 rl hsz3 C3 (by rw [V3 7 (by decide) (by decide), V3 16 (by decide) (by decide)]; exact B31) (by rw [V3 7 (by decide) (by decide), V3 16 (by decide) (by decide)]; exact B32) rfl
            refine qi_if (fun k123 => ?_) (fun k123 => ?_)
            · refine qi_if (fun d => ?_) (fun d => ?_)
              · refine l_gR T3 (d_Mo_18 M) (l_aI (e := tg (x_nx E)) (fun _ => (C3.2.2.2.2.2.2.2 k123).symm) (fun _ => ?_))
                exact NXT _ (by rw [if_pos k123]) (ey.symm.trans d)
              · have dz : ¬ (x_DD na inv f1 f2 rc E act).1 = 0 := fun z => d (ey.trans z)
                refine qi_bs (DO dz _ h3 ?_)
                unfold x_do x_pf
                rw [k123]
                exact r_P1 n3 r_F_r (fun _ _ _ => rfl) s3 ⟨rfl, rfl⟩
            · refine qi_if (fun d => ?_) (fun d => ?_)
              · exact qi_bs (NXT _ (by rw [if_neg k123]) (ey.symm.trans d))
              · have dz : ¬ (x_DD na inv f1 f2 rc E act).1 = 0 := fun z => d (ey.trans z)
                refine l_gO (qi_b (PF dz) ?_)
                rintro ⟨v, h4⟩ p
                exact qi_bs (DO dz v h4 p)
        · rw [if_pos (Int32.not_lt.mp c1)] at RUN
          refine l_gO (qi_b (r_eC (N := N) (sh := 1) (nx := x_nx E) s e10 n lnh r0 rl) ?_)
          rintro ⟨v, h4⟩ p
          have rk : x_rk (x_rd E) lc (x_en lc LN E) := x_rk_e
          refine qi_bs (ih Mf (x_en lc LN E) bg act v h4 (r_P_ST p q3) (p.2.1.trans e71) (r_Y_F Y p.1) (fun j j0 j1 => ?_) (x_ak_r e10) ?_ ?_ RUN)
          · rw [x_vA_c (p.1.1 (v0 + 45) (by omega) (by omega))]
            exact ac j j0 j1
          · rcases rk with w | ⟨w, _⟩
            · rw [w]; exact r0
            · rw [w]; lia
          · rcases rk with w | ⟨w, w'⟩
            · rw [w]; exact rl
            · have L12 := ll.1.2.1
              rw [w]; lia
      · rw [if_pos c] at RUN
        cases RUN
        exact l_gI (e := vI h v0 69) rfl (qi_some ⟨⟨A', s⟩, ⟨i70, i72, i73, e71⟩, Y, Or.inl ⟨rfl, q3, rfl⟩⟩)
end S5
