/-! reference: a command -/
/-- what a command of the reference is, in the words of a run -/
def r_CM (h : z_H) (v0 : Nat) (lc sz q kd tg pr na inv : Int32) (X : List Int32) (ym : Int32 → Int32) (sw : List Int32 → Int32 × List Int32) (f1 f2 : List Int32 → Int32 → Int32) (rc : Int32 → Int32) : Prop :=
  (kd = vA h (v0 + 4) q ∧ inv = vA h (v0 + 16) q ∧ (inv = 0 ∨ inv = 1) ∧ na = r_na (vA h (v0 + 5) q) (vA h (v0 + 7) q)) ∧
  (¬ vA h (v0 + 5) q = 0 → ∃ s1 s2 g, (¬ vA h (v0 + 5) q = 1 → ¬ vA h (v0 + 5) q = 2 → r_PP h v0 (vA h (v0 + 6) q) s1 s2 g) ∧ ∀ S rd, x_kt S → S.length ≤ 60 → f1 S rd = r_ft h v0 (vA h (v0 + 5) q) (vA h (v0 + 6) q) s1 s2 S rd lc) ∧
  (¬ vA h (v0 + 5) q = 0 → ¬ vA h (v0 + 7) q = 0 → (∀ rd, rc rd = r_rc (vA h (v0 + 7) q) (vA h (v0 + 8) q) rd) ∧ ∃ s1 s2 g, (¬ vA h (v0 + 7) q = 1 → ¬ vA h (v0 + 7) q = 2 → r_PP h v0 (vA h (v0 + 8) q) s1 s2 g) ∧ ∀ S rd, x_kt S → S.length ≤ 60 → f2 S rd = r_ft h v0 (vA h (v0 + 7) q) (vA h (v0 + 8) q) s1 s2 S rd lc) ∧
  (kd = 115 → pr = vA h (v0 + 18) q ∧ (0 ≤ vA h (v0 + 10) q ∧ vA h (v0 + 10) q ≤ vA h (v0 + 11) q ∧ vA h (v0 + 11) q ≤ 600) ∧ ∃ s1 s2 g, r_PP h v0 (vA h (v0 + 9) q) s1 s2 g ∧ (∀ j, vA h (v0 + 10) q ≤ j → j < vA h (v0 + 11) q → x_ck g (vA h (v0 + 28) j)) ∧ ∀ S, x_kt S → S.length ≤ 60 → sw S = x_sw (r_fd h v0 (vA h (v0 + 9) q) s1 s2 S) (x_tl S) (x_nl8 S) (fun st t gb ge => x_rx S st t gb ge (x_sl (vA h (v0 + 28)) (vA h (v0 + 10) q) (vA h (v0 + 11) q))) (vA h (v0 + 17) q) (if vA h (v0 + 14) q ≤ 0 then 1 else vA h (v0 + 14) q) 0 (-1) 0 0 []) ∧
  (kd = 121 → ∃ tx tf tt cp, vA h (v0 + 12) q - vA h (v0 + 10) q = tt - tf ∧ (0 ≤ tf ∧ tf ≤ tt ∧ tt ≤ 240) ∧ (∀ i, 0 ≤ i → i < tt - tf → vA h (v0 + 28) (vA h (v0 + 10) q + i) = tx (tf + i) ∧ vA h (v0 + 28) (vA h (v0 + 12) q + i) = tx (cp + i)) ∧ (∀ i j, 0 ≤ i → i < j → j < tt - tf → ¬ tx (tf + i) = tx (tf + j)) ∧ (∀ c, x_kc c → x_kc (x_ym tx tf tt cp c)) ∧ ym = x_ym tx tf tt cp) ∧
  (kd = 97 ∨ kd = 105 ∨ kd = 99 → (0 ≤ vA h (v0 + 10) q ∧ vA h (v0 + 10) q ≤ vA h (v0 + 11) q ∧ vA h (v0 + 11) q ≤ 600 ∧ vA h (v0 + 11) q - vA h (v0 + 10) q ≤ 300) ∧ (∀ j, vA h (v0 + 10) q ≤ j → j < vA h (v0 + 11) q → x_kc (vA h (v0 + 28) j)) ∧ X = x_sl (vA h (v0 + 28)) (vA h (v0 + 10) q) (vA h (v0 + 11) q)) ∧
  (kd = 98 ∨ kd = 116 → tg = if vA h (v0 + 13) q = -1 then sz else vA h (v0 + 13) q) ∧
  (kd = 123 → tg = vA h (v0 + 13) q)
section S4
variable {L : q_L} {π : Nat → Nat → Option Nat} {N v0 : Nat} {h h0 h1 : z_H} {O S H A W X : List Int32} {LN : Int32 → List Int32} {lc rd cy rp sm nx b : Int32}
theorem r_PP_e {q s1 s2 g : Int32} (F : r_X v0 h h1) : r_PP h1 v0 q s1 s2 g = r_PP h v0 q s1 s2 g := by
  unfold r_PP
  rw [x_vA_c (F (v0 + 26) (by omega) (by omega)), x_vA_c (F (v0 + 29) (by omega) (by omega)), x_vA_c (F (v0 + 23) (by omega) (by omega)), x_vA_c (F (v0 + 24) (by omega) (by omega)), x_vA_c (F (v0 + 27) (by omega) (by omega))]
theorem r_CM_x {sz q kd tg pr na inv : Int32} {ym : Int32 → Int32} {sw : List Int32 → Int32 × List Int32} {f1 f2 : List Int32 → Int32 → Int32} {rc : Int32 → Int32} (M : q_M L π v0) (T : x_U L π h) (T1 : x_U L π h1) (F : r_X v0 h h1) (C : r_CM h v0 lc sz q kd tg pr na inv X ym sw f1 f2 rc) : r_CM h1 v0 lc sz q kd tg pr na inv X ym sw f1 f2 rc := by
  have V : ∀ i, 0 < i → i < 36 → vA h1 (v0 + i) = vA h (v0 + i) := fun i i0 i1 => x_vA_c (F (v0 + i) (by omega) (by omega))
  have P : ∀ q s1 s2 g, r_PP h1 v0 q s1 s2 g = r_PP h v0 q s1 s2 g := fun q s1 s2 g => r_PP_e F
  have R : ∀ kd v s1 s2 S rd, r_ft h1 v0 kd v s1 s2 S rd lc = r_ft h v0 kd v s1 s2 S rd lc := fun kd v s1 s2 S rd => r_ft_x M T T1 F
  have D : ∀ q s1 s2 S, r_fd h1 v0 q s1 s2 S = r_fd h v0 q s1 s2 S := fun q s1 s2 S => funext (fun fm => r_fd_x M T T1 F)
  unfold r_CM at C ⊢
  simp only [V 4 (by decide) (by decide), V 5 (by decide) (by decide), V 6 (by decide) (by decide), V 7 (by decide) (by decide), V 8 (by decide) (by decide), V 9 (by decide) (by decide), V 10 (by decide) (by decide), V 11 (by decide) (by decide), V 12 (by decide) (by decide), V 13 (by decide) (by decide), V 14 (by decide) (by decide), V 16 (by decide) (by decide), V 17 (by decide) (by decide), V 18 (by decide) (by decide), V 28 (by decide) (by decide), P, R, D]
  exact C
theorem r_tE1 {y : Int32} {h2 : z_H} (n : r_N h v0 rd cy rp sm) (p : r_T L π v0 h O S H A W (y, h2)) : r_P L π v0 h (x_tE W O S H A rd cy rp sm nx) nx h2 := by
  obtain ⟨s, F, I, B⟩ := p
  unfold x_tE
  dsimp only at s F I B
  rcases B with ⟨_, b, e1, e2⟩ | ⟨_, b, e1, e2⟩
  · rw [if_pos b] at s ⊢
    exact r_P1 n F I s ⟨e1, e2⟩
  · rw [if_neg b] at s ⊢
    exact r_P0 n F I s ⟨e1, e2⟩
/-- q -/
theorem r_pq (s : r_S L π v0 h O S H A) (e10 : x_a10 A) (n : r_N h v0 rd cy rp sm) : qi (z_b (f_Mod_tellSpace N v0 0 h) fun r71 =>
  if (r71.1) = 0 then
  (f_Mod_perform_490 N v0 0 r71.2)
  else
  (z_b (gO r71.2 v0 12) fun u73 =>
  z_b (f_Mod_tellAppended N v0 r71.2) fun r74 =>
  if (r74.1) = 0 then
  (f_Mod_perform_490 N v0 0 r74.2)
  else
  (f_Mod_perform_490 N v0 1 r74.2))) (fun r => r_P L π v0 h (x_qE O S H A rd cy rp sm nx) r.1 r.2) := by
  have M := s.1.2
  refine qi_b (r_tS (N := N) (part := 0) s) ?_
  rw [if_pos rfl]
  rintro ⟨y, h1⟩ ⟨s1, F1, I1, B1⟩
  dsimp only at s1 F1 I1 B1 ⊢
  unfold x_qE x_qt
  rcases B1 with ⟨y1, y2, y3, y4⟩ | ⟨y1, y2, y3, y4⟩
  · rw [if_pos y2] at s1
    rw [if_pos y2, y1, if_neg (by decide)]
    dsimp only
    refine l_gO (qi_b (r_tA (N := N) s1 e10) ?_)
    rintro ⟨z, h2⟩ ⟨s2, F2, I2, B2⟩
    dsimp only at s2 F2 I2 B2 ⊢
    have F12 := r_F_t F1 F2
    have I12 : r_In h h2 v0 := fun k hk hn => (I2 k hk hn).trans (I1 k hk hn)
    rcases B2 with ⟨z1, z2, z3, z4⟩ | ⟨z1, z2, z3, z4⟩
    · have nz : ¬ (x_ta (O ++ S ++ [10]) [] A).2 = 0 := by rw [z2]; decide
      rw [z1, if_neg (by decide), if_neg nz, if_neg (by decide)]
      unfold f_Mod_perform_490
      refine l_sIc s2.1.1 M.1 (by decide) rfl ?_
      intro h3 T3 c3 u3
      rw [if_neg (by decide)]
      obtain ⟨_, a1, a2, a3, a4⟩ := s2
      have J : ∀ k, k ≠ 76 → vI h3 v0 k = vI h2 v0 k := fun k hk => by rw [u3 k, if_neg hk]
      refine qi_some ⟨r_F_t F12 ⟨fun a _ hn => c3 a hn, fun k hk _ => J k (by omega)⟩, (J 71 (by decide)).trans (I12 71 (by decide) (by decide)), [], ⟨⟨T3, M⟩, r_R1_c a1 (J 69 (by decide)) (c3 _ (by omega)), r_R1_c a2 (J 65 (by decide)) (c3 _ (by omega)), r_R1_c a3 (J 66 (by decide)) (c3 _ (by omega)), r_R1_c a4 (J 68 (by decide)) (c3 _ (by omega))⟩, ⟨((J 70 (by decide)).trans (I12 70 (by decide) (by decide))).trans n.1, ((J 72 (by decide)).trans (I12 72 (by decide) (by decide))).trans n.2.1, ((J 73 (by decide)).trans (I12 73 (by decide) (by decide))).trans n.2.2.1⟩, Or.inr ⟨rfl, by rw [u3 76, if_pos rfl], (J 6 (by decide)).trans (z4.trans y4), fun z => absurd (show (1 : Int32) = 0 from z) (by decide)⟩⟩
    · have z0 : (x_ta (O ++ S ++ [10]) [] A).2 = 0 := (x_ta_2 A _ []).resolve_right z2
      rw [z1, if_pos rfl, if_pos z0, if_pos rfl]
      exact r_490 (N := N) (y := 0) M (r_P0 n F12 I12 s2 ⟨z3, z4⟩) (Or.inl rfl)
  · rw [if_neg y2] at s1
    rw [if_neg y2, y1, if_pos rfl]
    dsimp only
    rw [if_pos rfl]
    exact r_490 (N := N) (y := 0) M (r_P0 n F1 I1 s1 ⟨y3, y4⟩) (Or.inl rfl)
theorem r_c409 (s : r_S L π v0 h1 O [] H A) (e10 : x_a10 A) (n : r_N h1 v0 rd cy rp sm) (ll : r_LN h1 v0 lc LN) (r0 : 0 ≤ rd) (rl : rd ≤ lc) (F : r_F v0 h h1) (I : vI h1 v0 71 = vI h v0 71) (T6 : vI h1 v0 6 = vI h v0 6) : qi (f_Mod_perform_409 N v0 h1) (fun r => r_P L π v0 h (x_rE (x_ec 0 lc LN O [] A rd) H A rd cy rp sm nx) r.1 r.2) := by
  unfold f_Mod_perform_409
  refine l_gI (e := 0) n.2.2.2.2 ?_
  rw [if_pos rfl]
  refine l_gO (qi_b (r_eC (N := N) (sh := 0) (nx := nx) s e10 n ll r0 rl) ?_)
  rintro ⟨y, h2⟩ p
  exact qi_some (r_P_tr F I T6 p)
/-- c, its text told -/
theorem r_c403 {q fr to : Int32} (s : r_S L π v0 h1 O [] H A) (e10 : x_a10 A) (n : r_N h1 v0 rd cy rp sm) (ll : r_LN h1 v0 lc LN) (r0 : 0 ≤ rd) (rl : rd ≤ lc) (F : r_F v0 h h1) (I : r_In h h1 v0) (T6 : vI h1 v0 6 = vI h v0 6) (nh : r_N h v0 rd cy rp sm) (hf : vA h1 (v0 + 10) q = fr) (ht : vA h1 (v0 + 11) q = to) (f0 : 0 ≤ fr) (ab : fr ≤ to) (ft : to - fr ≤ 300) (f6 : to ≤ 600) (kc : ∀ j, fr ≤ j → j < to → x_kc (vA h1 (v0 + 28) j)) (eX : X = x_sl (vA h1 (v0 + 28)) fr to) (nb : ¬ b = 0) : qi (f_Mod_perform_403 N v0 q h1) (fun r => r_P L π v0 h (x_cE b X lc LN O H A rd cy rp sm nx) r.1 r.2) := by
  have TT := r_tT (N := N) (q := q) s hf ht f0 ab ft (by lia) kc
  rw [← eX] at TT
  unfold f_Mod_perform_403 x_cE
  rw [if_neg nb]
  refine l_gO (qi_b TT ?_)
  rintro ⟨y, h2⟩ ⟨s2, F2, I2, B2⟩
  dsimp only at s2 F2 I2 B2 ⊢
  have F12 := r_F_t F F2
  have I12 : r_In h h2 v0 := fun k hk hn => (I2 k hk hn).trans (I k hk hn)
  rcases B2 with ⟨y1, y2, y3, y4⟩ | ⟨y1, y2, y3, y4⟩
  · rw [if_pos y2] at s2 ⊢
    exact r_c409 (N := N) s2 e10 (r_N_c n I2 y3) (r_LN_f ll F2) r0 rl F12 (I12 71 (by decide) (by decide)) (y4.trans T6)
  · rw [if_neg y2] at s2 ⊢
    unfold f_Mod_perform_409
    refine l_gI (e := 1) y3 ?_
    rw [if_neg (by decide)]
    exact qi_some (r_P0 nh F12 I12 s2 ⟨y3, y4⟩)
set_option maxHeartbeats 8000000 in
theorem r_pf {q k sz kd tg pr na inv : Int32} {ym : Int32 → Int32} {sw : List Int32 → Int32 × List Int32} {f1 f2 : List Int32 → Int32 → Int32} {rc : Int32 → Int32} (s : r_S L π v0 h O S H A) (e10 : x_a10 A) (n : r_N h v0 rd cy rp sm) (ll : r_LN h v0 lc LN) (r0 : 0 ≤ rd) (rl : rd ≤ lc) (hsz : vA h (v0 + 19) (vI h v0 7) = sz) (C : r_CM h v0 lc sz q kd tg pr na inv X ym sw f1 f2 rc) (B1 : b = 0 → ¬ (vA h (v0 + 7) q = 0 ∨ ¬ vA h (v0 + 16) q = 0 ∨ ¬ vI h v0 75 = 0)) (B2 : ¬ b = 0 → vA h (v0 + 7) q = 0 ∨ ¬ vA h (v0 + 16) q = 0 ∨ ¬ vI h v0 75 = 0) (en : nx = k + 1) : qi (f_Mod_perform N v0 q k h) (fun r => r_P L π v0 h (x_pf kd tg b pr X ym sw lc LN O S H A rd cy rp sm nx) r.1 r.2) := by
  obtain ⟨⟨T, M⟩, a1, a2, a3, a4⟩ := id s
  obtain ⟨⟨ekd, -⟩, -, -, C115, C121, CX, CT, -⟩ := C
  have L12 := ll.1.2.1
  have SL : S.length ≤ 60 := by
    have l := r_R1_len a2
    have c := x_ctn a2.2.1.1
    have w := Int32.le_iff_toInt_le.mp a2.2.1.2
    have z6 : (60 : Int32).toInt = 60 := rfl
    rw [z6] at w
    omega
  have END : ∀ (E : x_TT) (h2 : z_H), r_P L π v0 h E nx h2 → qi (f_Mod_perform_520 N k h2) (fun r => r_P L π v0 h E r.1 r.2) := by
    intro E h2 p
    unfold f_Mod_perform_520
    rw [en] at p
    exact qi_some p
  unfold f_Mod_perform x_pf
  refine l_gR T (d_Mo_9 M) (l_aI (e := kd) (fun _ => ekd.symm) (fun _ => ?_))
  have HD : ∀ (c : Int32) (E : x_TT), kd = c → qi (f_Mod_holds N v0 c h) (fun r => r_P L π v0 h E nx r.2) → qi (z_b (gR h v0 12 9) fun x10 => z_b (aI h x10 0 q) fun x11 => z_b (gO h v0 12) fun u12 => z_b (f_Mod_holds N v0 x11 h) fun r13 => f_Mod_perform_520 N k r13.2) (fun r => r_P L π v0 h E r.1 r.2) := by
    intro c E ec hc
    refine l_gR T (d_Mo_9 M) (l_aI (e := c) (fun _ => by rw [← ec]; exact ekd.symm) (fun _ => l_gO (qi_b hc ?_)))
    rintro ⟨y, h2⟩ p
    exact END E h2 p
  refine qi_if (fun z => ?_) (fun z => ?_)
  · rw [if_pos z]
    have t := r_tN (N := N) s (by rw [n.1]; exact r0) (by rw [n.1]; lia)
    rw [n.1] at t
    refine l_gO (qi_b t ?_)
    rintro ⟨y, h2⟩ p
    exact END _ h2 (r_tE1 n p)
  rw [if_neg z]
  refine qi_if (fun z => ?_) (fun z => ?_)
  · rw [if_pos z]
    refine l_gO (qi_b (r_pD (N := N) (nx := nx) s e10 n ll r0 rl) ?_)
    rintro ⟨y, h2⟩ p
    exact qi_some p
  rw [if_neg z]
  refine qi_if (fun z => ?_) (fun z => ?_)
  · rw [if_pos z]
    exact HD 71 _ z (r_pG (N := N) s n)
  rw [if_neg z]
  refine qi_if (fun z => ?_) (fun z => ?_)
  · rw [if_pos z]
    exact HD 72 _ z (r_pH (N := N) s n)
  rw [if_neg z]
  refine qi_if (fun z => ?_) (fun z => ?_)
  · rw [if_pos z]
    refine l_gO (qi_b (r_pN (N := N) (q := q) (v2 := k) s e10 n ll r0 rl (by rw [← ekd, z]; decide) en) ?_)
    rintro ⟨y, h2⟩ p
    exact qi_some p
  rw [if_neg z]
  refine qi_if (fun z => ?_) (fun z => ?_)
  · rw [if_pos z]
    have t := r_tS (N := N) (part := 1) s
    rw [if_neg (by decide)] at t
    refine l_gO (qi_b t ?_)
    rintro ⟨y, h2⟩ p
    exact END _ h2 (r_tE1 n p)
  rw [if_neg z]
  refine qi_if (fun z => ?_) (fun z => ?_)
  · rw [if_pos z]
    obtain ⟨⟨b0, b1, b2, b3⟩, kc, eX⟩ := CX (Or.inl z)
    rw [eX]
    refine l_gO (qi_b (r_pa (N := N) (nx := nx) s n rfl rfl b0 b1 b2 kc) ?_)
    rintro ⟨y, h2⟩ p
    exact END _ h2 p
  rw [if_neg z]
  refine qi_if (fun z => ?_) (fun z => ?_)
  · rw [if_pos z]
    have et := CT (Or.inl z)
    have MK : ∀ y : Int32, y = tg → r_P L π v0 h (1, O, S, H, A, rd, cy, rp, sm, tg, 0) y h := fun y ey => ⟨r_F_r, rfl, A, s, ⟨n.1, n.2.1, n.2.2.1⟩, Or.inr ⟨rfl, n.2.2.2.2, rfl, fun _ => ⟨rfl, n.2.2.2.1, ey⟩⟩⟩
    refine l_gR T (d_Mo_18 M) (l_aI (e := vA h (v0 + 13) q) (fun _ => rfl) (fun _ => ?_))
    refine qi_if (fun c => ?_) (fun c => ?_)
    · rw [if_pos c] at et
      refine l_gR T (d_Mo_24 M) (l_gI (e := vI h v0 7) rfl (l_aI (e := sz) (fun _ => hsz) (fun _ => ?_)))
      exact qi_some (MK sz et.symm)
    · rw [if_neg c] at et
      refine l_gR T (d_Mo_18 M) (l_aI (e := vA h (v0 + 13) q) (fun _ => rfl) (fun _ => ?_))
      exact qi_some (MK _ et.symm)
  rw [if_neg z]
  refine qi_if (fun z => ?_) (fun z => ?_)
  · rw [if_pos z]
    obtain ⟨⟨b0, b1, b2, b3⟩, kc, eX⟩ := CX (Or.inr (Or.inr z))
    refine l_sIc T M.1 (by decide) rfl ?_
    intro h2 T2 c2 u2
    have J : ∀ k, k ≠ 65 → vI h2 v0 k = vI h v0 k := fun k hk => by rw [u2 k, if_neg hk]
    have s2 : r_S L π v0 h2 O [] H A := by
      refine ⟨⟨T2, M⟩, r_R1_c a1 (J 69 (by decide)) (c2 _ (by omega)), ⟨?_, by rw [u2 65, if_pos rfl]; decide, x_kt_0⟩, r_R1_c a3 (J 66 (by decide)) (c2 _ (by omega)), r_R1_c a4 (J 68 (by decide)) (c2 _ (by omega))⟩
      unfold r_l
      rw [u2 65, if_pos rfl, x_sl_0 (Int32.le_refl 0) (by decide) (by decide)]
    have F2 : r_F v0 h h2 := ⟨fun a _ hn => c2 a hn, fun k hk _ => J k (by omega)⟩
    have I2 : r_In h h2 v0 := fun k hk _ => J k (by omega)
    have n2 := r_N_c n I2 (J 76 (by decide))
    have VA : ∀ a, a ≠ v0 → vA h2 a = vA h a := fun a ha => x_vA_c (c2 a ha)
    have TELL : ¬ b = 0 → qi (f_Mod_perform_403 N v0 q h2) (fun r => r_P L π v0 h (x_cE b X lc LN O H A rd cy rp sm nx) r.1 r.2) := fun nb =>
      r_c403 (N := N) s2 e10 n2 (r_LN_f ll F2) r0 rl F2 I2 (J 6 (by decide)) n (by rw [VA _ (by omega)]) (by rw [VA _ (by omega)]) b0 b1 b3 b2 (by rw [VA _ (by omega)]; exact kc) (by rw [VA _ (by omega)]; exact eX) nb
    refine l_gR T2 (d_Mo_12 M) (l_aI (e := vA h (v0 + 7) q) (fun _ => by rw [VA _ (by omega)]) (fun _ => ?_))
    refine qi_if (fun c => TELL (fun w => B1 w (Or.inl c))) (fun c => ?_)
    refine l_gR T2 (d_Mo_21 M) (l_aI (e := vA h (v0 + 16) q) (fun _ => by rw [VA _ (by omega)]) (fun _ => ?_))
    refine qi_if (fun c1 => ?_) (fun c1 => TELL (fun w => B1 w (Or.inr (Or.inl c1))))
    refine l_gI (e := vI h v0 75) (J 75 (by decide)) ?_
    refine qi_if (fun c2' => ?_) (fun c2' => TELL (fun w => B1 w (Or.inr (Or.inr c2'))))
    have b00 : b = 0 := Classical.byContradiction fun w => by
      rcases B2 w with y | y | y
      · exact c y
      · exact y c1
      · exact y c2'
    unfold x_cE
    rw [if_pos b00]
    exact r_c409 (N := N) s2 e10 n2 (r_LN_f ll F2) r0 rl F2 (J 71 (by decide)) (J 6 (by decide))
  rw [if_neg z]
  refine qi_if (fun z => ?_) (fun z => ?_)
  · rw [if_pos z]
    refine l_gO (qi_b (r_eC (N := N) (sh := 0) (nx := nx) s e10 n ll r0 rl) ?_)
    rintro ⟨y, h2⟩ p
    exact qi_some p
  rw [if_neg z]
  refine qi_if (fun z => ?_) (fun z => ?_)
  · rw [if_pos z]
    exact HD 103 _ z (r_pg (N := N) s n)
  rw [if_neg z]
  refine qi_if (fun z => ?_) (fun z => ?_)
  · rw [if_pos z]
    exact HD 104 _ z (r_ph (N := N) s n)
  rw [if_neg z]
  refine qi_if (fun z => ?_) (fun z => ?_)
  · rw [if_pos z]
    obtain ⟨⟨b0, b1, b2, b3⟩, kc, eX⟩ := CX (Or.inr (Or.inl z))
    rw [eX]
    refine l_gO (qi_b (r_tT (N := N) s rfl rfl b0 b1 b3 (by lia) kc) ?_)
    rintro ⟨y, h2⟩ p
    exact END _ h2 (r_tE1 n p)
  rw [if_neg z]
  refine qi_if (fun z => ?_) (fun z => ?_)
  · rw [if_pos z]
    refine l_gO (qi_b (r_pn (N := N) (q := q) (v2 := k) s e10 n ll r0 rl (by rw [← ekd, z]) en) ?_)
    rintro ⟨y, h2⟩ p
    exact qi_some p
  rw [if_neg z]
  refine qi_if (fun z => ?_) (fun z => ?_)
  · rw [if_pos z]
    have t := r_tS (N := N) (part := 0) s
    rw [if_pos rfl] at t
    refine l_gO (qi_b t ?_)
    rintro ⟨y, h2⟩ p
    exact END _ h2 (r_tE1 n p)
  rw [if_neg z]
  refine qi_if (fun z => ?_) (fun z => ?_)
  · rw [if_pos z]
    exact l_gO (r_pq (N := N) s e10 n)
  rw [if_neg z]
  refine qi_if (fun z => ?_) (fun z => ?_)
  · rw [if_pos z]
    obtain ⟨ep, ⟨b0, b1, b2⟩, s1, s2, g, P, CK, ES⟩ := C115 z
    rw [ES S a2.2.2 SL, ep]
    refine l_gO (qi_b (r_ps (N := N) (q := q) (nx := nx) s n rfl P rfl rfl rfl rfl rfl b0 b1 b2 CK rfl) ?_)
    rintro ⟨y, h2⟩ p
    exact END _ h2 p
  rw [if_neg z]
  refine qi_if (fun z => ?_) (fun z => ?_)
  · rw [if_pos z]
    have et := CT (Or.inr z)
    refine l_gI (e := sm) n.2.2.2.1 ?_
    refine qi_if (fun c => ?_) (fun c => ?_)
    · rw [if_pos c]
      rw [← en]
      exact qi_some (r_P1 n r_F_r (fun _ _ _ => rfl) s ⟨rfl, rfl⟩)
    · rw [if_neg c]
      refine l_sIc T M.1 (by decide) rfl ?_
      intro h2 T2 c2 u2
      have J : ∀ k, k ≠ 74 → vI h2 v0 k = vI h v0 k := fun k hk => by rw [u2 k, if_neg hk]
      have VA : ∀ a, a ≠ v0 → vA h2 a = vA h a := fun a ha => x_vA_c (c2 a ha)
      have MK : ∀ y : Int32, y = tg → r_P L π v0 h (1, O, S, H, A, rd, cy, rp, 0, tg, 0) y h2 := fun y ey => ⟨⟨fun a _ hn => c2 a hn, fun k hk _ => J k (by omega)⟩, J 71 (by decide), A, ⟨⟨T2, M⟩, r_R1_c a1 (J 69 (by decide)) (c2 _ (by omega)), r_R1_c a2 (J 65 (by decide)) (c2 _ (by omega)), r_R1_c a3 (J 66 (by decide)) (c2 _ (by omega)), r_R1_c a4 (J 68 (by decide)) (c2 _ (by omega))⟩, ⟨(J 70 (by decide)).trans n.1, (J 72 (by decide)).trans n.2.1, (J 73 (by decide)).trans n.2.2.1⟩, Or.inr ⟨rfl, (J 76 (by decide)).trans n.2.2.2.2, J 6 (by decide), fun _ => ⟨rfl, by rw [u2 74, if_pos rfl], ey⟩⟩⟩
      refine l_gR T2 (d_Mo_18 M) (l_aI (e := vA h (v0 + 13) q) (fun _ => by rw [VA _ (by omega)]) (fun _ => ?_))
      refine qi_if (fun c1 => ?_) (fun c1 => ?_)
      · rw [if_pos c1] at et
        refine l_gR T2 (d_Mo_24 M) (l_gI (e := vI h v0 7) (J 7 (by decide)) (l_aI (e := sz) (fun _ => by rw [VA _ (by omega), hsz]) (fun _ => ?_)))
        exact qi_some (MK sz et.symm)
      · rw [if_neg c1] at et
        refine l_gR T2 (d_Mo_18 M) (l_aI (e := vA h (v0 + 13) q) (fun _ => by rw [VA _ (by omega)]) (fun _ => ?_))
        exact qi_some (MK _ et.symm)
  rw [if_neg z]
  refine qi_if (fun z => ?_) (fun z => ?_)
  · rw [if_pos z]
    exact HD 120 _ z (r_px (N := N) s n)
  rw [if_neg z]
  refine qi_if (fun z => ?_) (fun z => ?_)
  · rw [if_pos z]
    obtain ⟨tx, tf, tt, cp, e1, ⟨b0, b1, b2⟩, HS, DI, KY, ey⟩ := C121 z
    rw [ey]
    refine l_gO (qi_b (r_py (N := N) (nx := nx) s n rfl rfl e1 b0 b1 b2 HS DI KY) ?_)
    rintro h2 p
    exact END _ h2 p
  rw [if_neg z]
  exact END _ h (r_P1 n r_F_r (fun _ _ _ => rfl) s ⟨rfl, rfl⟩)
end S4
