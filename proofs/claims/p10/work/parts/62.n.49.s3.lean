/-! reference: substituted -/
section S3
variable {L : q_L} {π : Nat → Nat → Option Nat} {N v0 : Nat} {h h0 h1 : z_H} {O S H A W : List Int32} {LN : Int32 → List Int32} {lc rd cy rp sm nx : Int32}
theorem r_K_P (K : r_K L π v0 h0 h O S H A W) (n : r_N h0 v0 rd cy rp sm) : r_P L π v0 h0 (1, O, S, H, A, rd, cy, rp, sm, nx, 0) nx h := by
  obtain ⟨s, -, -, F, I⟩ := K
  exact r_P1 n F (fun k k1 _ => I k (by omega) (by omega)) s ⟨I 76 (by omega) (by omega), I 6 (by omega) (by omega)⟩
theorem r_s283 {y : Int32} (K : r_K L π v0 h0 h O S H A W) (n : r_N h0 v0 rd cy rp sm) : qi (f_Mod_substituted_283 N v0 h) (fun r => r_P L π v0 h0 (0, O, S, H, A, rd, cy, rp, sm, nx, 0) y r.2) := by
  obtain ⟨⟨⟨T, M⟩, a1, a2, a3, a4⟩, -, -, F, I⟩ := id K
  unfold f_Mod_substituted_283
  refine l_gO (qi_b (y_full (N := N) T M) ?_)
  rintro ⟨y, h2⟩ ⟨t1, t2, t3, t4⟩
  dsimp only at t1 t2 t3 t4 ⊢
  have J : ∀ k, k ≠ 76 → k ≠ 6 → vI h2 v0 k = vI h v0 k := fun k k1 k2 => by rw [t4 k, if_neg k1, if_neg k2]
  refine qi_zB (fun _ => qi_some (r_P0 n (r_F_t F ⟨fun a _ hn => t3 a hn, fun k hk hn => J k (by omega) hn⟩) (fun k hk hn => (J k hn (by omega)).trans (I k (by omega) (by omega))) ⟨⟨t2, M⟩, r_R1_c a1 (J 69 (by decide) (by decide)) (t3 _ (by omega)), r_R1_c a2 (J 65 (by decide) (by decide)) (t3 _ (by omega)), r_R1_c a3 (J 66 (by decide) (by decide)) (t3 _ (by omega)), r_R1_c a4 (J 68 (by decide) (by decide)) (t3 _ (by omega))⟩ ⟨by rw [t4 76, if_pos rfl], by rw [t4 6]; rfl⟩))
/-- what is to be told of the new space -/
def x_sP (pr : Int32) (O W : List Int32) : List Int32 := if pr = 0 then O else O ++ W ++ [10]
theorem r_s291 {q dn pr : Int32} (M : q_M L π v0) (hp : vA h (v0 + 18) q = pr) (n : r_N h0 v0 rd cy rp sm) (F : r_F v0 h0 h) (I : ∀ k, ¬ (54 ≤ k ∧ k ≤ 57) → k ≠ 67 → vI h v0 k = vI h0 v0 k) (s : r_S L π v0 h O S H A) (w : r_R1 h v0 67 41 400 W) (w60 : vI h v0 67 ≤ 60) (rm : ¬ pr = 0 → O.length + W.length + 1 ≤ 600) : ∀ (m : Nat) (i : Int32) (h1 : z_H), x_U L π h1 → (∀ b, b ≠ v0 + 39 → h1 b = h b) → 0 ≤ i → i ≤ vI h v0 67 → (∀ j, 0 ≤ j → j < i → vA h1 (v0 + 39) j = vA h (v0 + 41) j) → qi (f_Mod_substituted_291 N m v0 q dn i h1) (fun r => r_P L π v0 h0 (1, x_sP pr O W, W, H, A, rd, cy, rp + dn, 1, nx, 0) nx r.2) := by
  obtain ⟨-, a1, a2, a3, a4⟩ := id s
  intro m
  induction m with
  | zero => intro i h1 _ _ _ _ _ r e; rw [f_Mod_substituted_291] at e; cases e
  | succ m ih =>
    intro i h1 T1 C1 i0 i1 X1
    have V : ∀ k, vI h1 v0 k = vI h v0 k := fun k => x_vI_c (C1 v0 (by omega))
    rw [f_Mod_substituted_291]
    refine l_gI (e := vI h v0 67) (V 67) ?_
    refine qi_if (fun c => ?_) (fun c => ?_)
    · have ei : i = vI h v0 67 := Int32.le_antisymm i1 c
      refine l_gI (e := vI h v0 67) (V 67) (l_sIc T1 M.1 (by decide) rfl ?_)
      intro h2 T2 c2 u2
      refine l_gI (e := rp) (by rw [u2 73, if_neg (by decide), V, I 73 (by omega) (by omega)]; exact n.2.2.1) (l_sIc T2 M.1 (by decide) rfl ?_)
      intro h3 T3 c3 u3
      refine l_sIc T3 M.1 (by decide) rfl ?_
      intro h4 T4 c4 u4
      have C4 : ∀ b, b ≠ v0 → b ≠ v0 + 39 → h4 b = h b := fun b b1 b2 => (c4 b b1).trans ((c3 b b1).trans ((c2 b b1).trans (C1 b b2)))
      have J : ∀ k, vI h4 v0 k = if k = 74 then 1 else if k = 73 then rp + dn else if k = 65 then vI h v0 67 else vI h v0 k := fun k => by rw [u4 k, u3 k, u2 k, V]
      have F4 : r_F v0 h0 h4 := r_F_t F ⟨fun a a1 a2 => C4 a a2 (by omega), fun k k1 k2 => by rw [J k, if_neg (by omega), if_neg (by omega), if_neg (by omega)]⟩
      have s4 : r_S L π v0 h4 O W H A := by
        refine ⟨⟨T4, M⟩, r_R1_c a1 (by rw [J 69]; rfl) (C4 _ (by omega) (by omega)), ⟨?_, by rw [J 65, if_neg (by decide), if_neg (by decide), if_pos rfl]; exact ⟨w.2.1.1, w60⟩, w.2.2⟩, r_R1_c a3 (by rw [J 66]; rfl) (C4 _ (by omega) (by omega)), r_R1_c a4 (by rw [J 68]; rfl) (C4 _ (by omega) (by omega))⟩
        unfold r_l
        rw [J 65, if_neg (by decide), if_neg (by decide), if_pos rfl, x_vA_c (c4 (v0 + 39) (by omega)), x_vA_c (c3 (v0 + 39) (by omega)), x_vA_c (c2 (v0 + 39) (by omega)), x_sl_e (g := vA h (v0 + 41)) (Int32.le_refl 0) w.2.1.1 (by rw [← ei]; exact X1)]
        exact w.1
      have K4 : ∀ k, ¬ (54 ≤ k ∧ k ≤ 57) → k ≠ 67 → k ≠ 65 → k ≠ 73 → k ≠ 74 → vI h4 v0 k = vI h0 v0 k := fun k k1 k2 k3 k4 k5 => by rw [J k, if_neg k5, if_neg k4, if_neg k3, I k k1 k2]
      have MK : ∀ (h5 : z_H) (O' : List Int32), r_S L π v0 h5 O' W H A → r_F v0 h4 h5 → r_In h4 h5 v0 → vI h5 v0 76 = vI h4 v0 76 → vI h5 v0 6 = vI h4 v0 6 → r_P L π v0 h0 (1, O', W, H, A, rd, cy, rp + dn, 1, nx, 0) nx h5 := by
        intro h5 O' s5 F5 I5 e76 e6
        refine ⟨r_F_t F4 F5, (I5 71 (by decide) (by decide)).trans (K4 71 (by omega) (by omega) (by omega) (by omega) (by omega)), A, s5, ⟨?_, ?_, ?_⟩, Or.inr ⟨rfl, ?_, ?_, fun _ => ⟨rfl, ?_, rfl⟩⟩⟩
        · rw [I5 70 (by decide) (by decide), K4 70 (by omega) (by omega) (by omega) (by omega) (by omega)]; exact n.1
        · rw [I5 72 (by decide) (by decide), K4 72 (by omega) (by omega) (by omega) (by omega) (by omega)]; exact n.2.1
        · rw [I5 73 (by decide) (by decide), J 73]; rfl
        · rw [e76, K4 76 (by omega) (by omega) (by omega) (by omega) (by omega)]; exact n.2.2.2.2
        · rw [e6, K4 6 (by omega) (by omega) (by omega) (by omega) (by omega)]
        · rw [I5 74 (by decide) (by decide), J 74]; rfl
      refine l_gR T4 (d_Mo_23 M) (l_aI (e := pr) (fun _ => by rw [x_vA_c (C4 (v0 + 18) (by omega) (by omega)), hp]) (fun _ => ?_))
      unfold x_sP
      refine qi_if (fun z => ?_) (fun z => ?_)
      · rw [if_pos z]
        exact qi_some (MK h4 O s4 r_F_r (fun _ _ _ => rfl) rfl rfl)
      · rw [if_neg z]
        refine l_gO (qi_b (r_tS (N := N) (part := 0) s4) ?_)
        rw [if_pos rfl]
        rintro ⟨y, h5⟩ ⟨s5, F5, I5, B5⟩
        dsimp only at s5 F5 I5 B5 ⊢
        rw [if_pos (rm z)] at s5
        rcases B5 with ⟨y1, _, y3, y4⟩ | ⟨_, y2, _⟩
        · refine qi_if (fun _ => qi_some (MK h5 _ s5 F5 I5 y3 y4)) (fun _ => qi_some (MK h5 _ s5 F5 I5 y3 y4))
        · exact absurd (rm z) y2
    · have cl := Int32.not_le.mp c
      refine l_gR T1 (d_Mo_58 M) (l_gR T1 (d_Mo_60 M) (l_aI (e := vA h (v0 + 41) i) (fun _ => by rw [x_vA_c (C1 (v0 + 41) (by omega))]) (fun _ => l_uIc T1 ?_)))
      intro h2 T2 j2 c2 u2
      refine qi_bs (ih (i + 1) h2 T2 (fun b hb => (c2 b hb).trans (C1 b hb)) (by lia) (by lia) (fun j j0 j1 => ?_))
      rw [u2 j j0]
      by_cases z : j = i
      · rw [if_pos z, z]
      · rw [if_neg z]; exact X1 j j0 (by lia)
theorem r_rm6 {a b : Int32} (n0 : 0 ≤ a) (n1 : a ≤ 600) (w0 : 0 ≤ b) (w1 : b ≤ 400) : ((a + b) + 1 ≤ 600) ↔ x_ct 0 a + x_ct 0 b + 1 ≤ 600 := by
  have q1 := x_ctn n0
  have q2 := x_ctn w0
  have z : (0 : Int32).toInt = 0 := rfl
  have z6 : (600 : Int32).toInt = 600 := rfl
  have e1 : (a + b).toInt = a.toInt + b.toInt := by
    have a1 := Int32.le_iff_toInt_le.mp n0
    have a2 := Int32.le_iff_toInt_le.mp n1
    have a3 := Int32.le_iff_toInt_le.mp w0
    have a4 := Int32.le_iff_toInt_le.mp w1
    have z4 : (400 : Int32).toInt = 400 := rfl
    rw [z] at a1 a3
    rw [z6] at a2
    rw [z4] at a4
    rw [Int32.toInt_add]; exact Int.bmod_eq_of_le_mul_two (by omega) (by omega)
  rw [Int32.le_iff_toInt_le, x_ti_1 (by lia) (by lia), e1, z6]
  omega
theorem r_s248 {q dn pr : Int32} (K : r_K L π v0 h0 h O S H A W) (n : r_N h0 v0 rd cy rp sm) (hp : vA h (v0 + 18) q = pr) (nz : ¬ dn = 0) : qi (f_Mod_substituted_248 N v0 q dn h) (fun r => r_P L π v0 h0 (x_sE (dn, W) pr O S H A rd cy rp sm nx) nx r.2) := by
  obtain ⟨⟨⟨T, M⟩, a1, a2, a3, a4⟩, sb, ⟨w, l⟩, F, I⟩ := id K
  have ln := r_R1_len w
  have cn := x_ctn w.2.1.1
  rw [List.length_take] at ln
  have z6 : (60 : Int32).toInt = 60 := rfl
  unfold f_Mod_substituted_248 x_sE
  rw [if_neg nz]
  refine l_gI (e := vI h v0 67) rfl ?_
  refine qi_if (fun c => ?_) (fun c => ?_)
  · have c' := Int32.lt_iff_toInt_lt.mp c
    rw [z6] at c'
    have g : ¬ W.length ≤ 60 := by omega
    rw [if_neg g]
    exact r_s283 (N := N) K n
  · have c' := Int32.le_iff_toInt_le.mp (Int32.not_lt.mp c)
    rw [z6] at c'
    have g : W.length ≤ 60 := by omega
    have tw : W.take 390 = W := List.take_of_length_le (by omega)
    rw [tw] at w
    rw [if_pos g]
    have RM := r_rm6 a1.2.1.1 a1.2.1.2 w.2.1.1 w.2.1.2
    rw [← r_R1_len a1, ← r_R1_len w] at RM
    have GO : (¬ pr = 0 → O.length + W.length + 1 ≤ 600) → qi (f_Mod_substituted_291 N N v0 q dn 0 h) (fun r => r_P L π v0 h0 (1, x_sP pr O W, W, H, A, rd, cy, rp + dn, 1, nx, 0) nx r.2) := fun rm =>
      r_s291 (N := N) M hp n F I K.1 w (Int32.not_lt.mp c) rm N 0 h T (fun _ _ => rfl) (Int32.le_refl 0) w.2.1.1 (fun j j0 j1 => absurd (Int32.lt_of_le_of_lt j0 j1) Int32.lt_irrefl)
    refine l_gR T (d_Mo_23 M) (l_aI (e := pr) (fun _ => hp) (fun _ => ?_))
    refine qi_if (fun c1 => ?_) (fun c1 => ?_)
    · rw [if_pos c1]
      have t := GO (fun z => absurd c1 z)
      unfold x_sP at t
      rw [if_pos c1] at t
      exact t
    · rw [if_neg c1]
      refine l_gI (e := vI h v0 69) rfl (l_gI (e := vI h v0 67) rfl ?_)
      refine qi_if (fun c2 => ?_) (fun c2 => ?_)
      · rw [if_pos (RM.mp c2)]
        have t := GO (fun _ => RM.mp c2)
        unfold x_sP at t
        rw [if_neg c1] at t
        exact t
      · rw [if_neg (fun z => c2 (RM.mpr z))]
        exact r_s283 (N := N) K n
theorem r_s224 {q dn pr p : Int32} (K : r_K L π v0 h0 h O S H A W) (n : r_N h0 v0 rd cy rp sm) (hp : vA h (v0 + 18) q = pr) (p0 : 0 ≤ p) : qi (f_Mod_substituted_224 N v0 q p dn h) (fun r => r_P L π v0 h0 (x_sE (dn, W ++ x_sl (x_tl S) p (x_nl8 S)) pr O S H A rd cy rp sm nx) nx r.2) := by
  obtain ⟨⟨⟨T, M⟩, a1, a2, a3, a4⟩, sb, ⟨w, l⟩, F, I⟩ := id K
  have tl := r_R1_tl a2
  have n0 : 0 ≤ x_nl8 S := by rw [← tl.1]; exact a2.2.1.1
  unfold f_Mod_substituted_224
  refine qi_if (fun c => ?_) (fun c => ?_)
  · unfold x_sE
    rw [if_pos c]
    exact qi_some (r_K_P K n)
  · refine l_gI (e := x_nl8 S) sb.1 ?_
    refine qi_if (fun c1 => ?_) (fun c1 => ?_)
    · rw [x_sl_0 c1 p0 n0, List.append_nil]
      exact r_s248 (N := N) K n hp c
    · refine l_gI (e := x_nl8 S) sb.1 (l_gO (qi_b (r_co (N := N) K p0 (Int32.le_of_lt (Int32.not_le.mp c1)) (Int32.le_refl _)) ?_))
      rintro h1 ⟨K1, V1⟩
      exact r_s248 (N := N) K1 n (by rw [x_vA_c (V1.1 _ (by omega) (by omega)), hp]) c
set_option maxHeartbeats 8000000 in
theorem r_s43 {q k al pr fr to g s1 s2 pt : Int32} {CD : List Int32} {R : Int32 × List Int32} (T0 : x_U L π h0) (M : q_M L π v0) (n : r_N h0 v0 rd cy rp sm) (hpt : vA h0 (v0 + 9) q = pt) (P : r_PP h0 v0 pt s1 s2 g) (hal : vA h0 (v0 + 17) q = al) (hp : vA h0 (v0 + 18) q = pr) (hf : vA h0 (v0 + 10) q = fr) (ht : vA h0 (v0 + 11) q = to) (f0 : 0 ≤ fr) (ft : fr ≤ to) (to6 : to ≤ 600) (CK : ∀ j, fr ≤ j → j < to → x_ck g (vA h0 (v0 + 28) j)) (EC : x_sl (vA h0 (v0 + 28)) fr to = CD) : ∀ (m : Nat) (p bf nn dn mo : Int32) (W : List Int32) (h : z_H), r_K L π v0 h0 h O S H A W → 0 ≤ p → p ≤ x_nl8 S + 1 → ((mo = 1 ∧ R = x_sw (r_fd h0 v0 pt s1 s2 S) (x_tl S) (x_nl8 S) (fun st t gb ge => x_rx S st t gb ge CD) al k p bf nn dn W) ∨ (mo = 0 ∧ R = (dn, W ++ x_sl (x_tl S) p (x_nl8 S)))) → qi (f_Mod_substituted_43 N m v0 q p bf nn dn k mo h) (fun r => r_P L π v0 h0 (x_sE R pr O S H A rd cy rp sm nx) nx r.2) := by
  intro m
  induction m with
  | zero => intro p bf nn dn mo W h K p0 p1 RA r e; rw [f_Mod_substituted_43] at e; cases e
  | succ m ih =>
    intro p bf nn dn mo W h K p0 p1 RA
    obtain ⟨s, sb, ⟨w, l⟩, F, I⟩ := id K
    obtain ⟨⟨T, _⟩, a1, a2, a3, a4⟩ := id s
    have tl := r_R1_tl a2
    have n0 : 0 ≤ x_nl8 S := by rw [← tl.1]; exact a2.2.1.1
    have n1 : x_nl8 S ≤ 60 := by rw [← tl.1]; exact a2.2.1.2
    have X := r_X_F F
    have VA : ∀ a, v0 < a → a < v0 + 36 → vA h a = vA h0 a := fun a a1 a2 => x_vA_c (X a a1 a2)
    have hp' : vA h (v0 + 18) q = pr := by rw [VA _ (by omega) (by omega), hp]
    rw [f_Mod_substituted_43]
    refine qi_if (fun c => ?_) (fun c => ?_)
    · rcases RA with ⟨RA, _⟩ | ⟨_, RA⟩
      · rw [RA] at c; exact absurd c (by decide)
      · rw [RA]
        exact r_s224 (N := N) K n hp' p0
    · have ER : R = x_sw (r_fd h0 v0 pt s1 s2 S) (x_tl S) (x_nl8 S) (fun st t gb ge => x_rx S st t gb ge CD) al k p bf nn dn W := by
        rcases RA with ⟨_, RA⟩ | ⟨RA, _⟩
        · exact RA
        · exact absurd RA c
      refine l_gI (e := x_nl8 S) sb.1 ?_
      refine qi_if (fun c1 => ?_) (fun c1 => ?_)
      · rw [x_sw_o c1] at ER
        have t := r_s224 (N := N) (nx := nx) (dn := dn) K n hp' p0
        rw [x_sl_0 (Int32.le_of_lt c1) p0 n0, List.append_nil, ← ER] at t
        exact t
      · have pn := Int32.not_lt.mp c1
        have hh : 0 ≤ p ∧ p ≤ x_nl8 S ∧ x_nl8 S ≤ 1000 := ⟨p0, pn, Int32.le_trans n1 (by decide)⟩
        have FI := r_fi (N := N) (fm := p) T M sb (r_R1_k a2) n0 n1 (r_PP_x X P) p0
        rw [r_fd_x M T0 T X] at FI
        refine l_gR T (d_Mo_14 M) (l_aI (e := pt) (fun _ => by rw [VA _ (by omega) (by omega), hpt]) (fun _ => l_gO (qi_b FI ?_)))
        rintro ⟨y, h2⟩ ⟨⟨T2, F2, I2⟩, q⟩
        dsimp only at T2 F2 I2 q ⊢
        have K2 : r_K L π v0 h0 h2 O S H A W := by
          refine ⟨r_S_G s T2 (fun a a1 a2 _ => F2 a a2 (by omega) (by omega)) (fun k k1 _ => I2 k (by omega) (by omega) (by omega)), ⟨(I2 54 (by omega) (by omega) (by omega)).trans sb.1, fun j j0 j1 => ?_⟩, ⟨r_R1_c w (I2 67 (by omega) (by omega) (by omega)) (F2 _ (by omega) (by omega) (by omega)), by rw [I2 67 (by omega) (by omega) (by omega)]; exact l⟩, r_F_t F ⟨fun a a1 a2 => F2 a a2 (by omega) (by omega), fun k k1 k2 => I2 k (by omega) (by omega) (by omega)⟩, fun k k1 k2 => (I2 k (by omega) (by omega) (by omega)).trans (I k k1 k2)⟩
          rw [x_vA_c (F2 (v0 + 36) (by omega) (by omega) (by omega))]
          exact sb.2 j j0 j1
        refine qi_bs ?_
        rcases q with ⟨w1, w2⟩ | ⟨w1, st, t, gb, ge, w2, w3, w4, w5, w6, w7, w8⟩
        · rw [w1, if_pos rfl]
          rw [x_sw_n hh w2] at ER
          exact ih p bf nn dn 0 W h2 K2 p0 p1 (Or.inr ⟨rfl, ER⟩)
        · rw [w1, if_neg (by decide)]
          have pl := x_p1_lt p0 w3.1 w3.2.1 w3.2.2 hh.2.2
          have st0 := Int32.le_trans p0 w3.1
          refine l_gI (e := st) w5 (l_gI (e := t) w6 (l_gO (qi_b (r_co (N := N) K2 p0 w3.1 (Int32.le_trans w3.2.1 w3.2.2)) ?_)))
          rintro h3 ⟨K3, V3⟩
          have X3 : r_X v0 h0 h3 := r_X_F K3.2.2.2.1
          have VA3 : ∀ a, v0 < a → a < v0 + 36 → vA h3 a = vA h0 a := fun a a1 a2 => x_vA_c (X3 a a1 a2)
          -- the end of a turn
          have N183 : ∀ (h4 : z_H) (nn' dn' mo' : Int32) (Y : List Int32), r_K L π v0 h0 h4 O S H A (W ++ x_sl (x_tl S) p st ++ Y) → ((mo' = 1 ∧ R = x_sw (r_fd h0 v0 pt s1 s2 S) (x_tl S) (x_nl8 S) (fun st t gb ge => x_rx S st t gb ge CD) al k (x_p1 st t) t nn' dn' (x_W1 (x_tl S) (x_nl8 S) p st t W Y)) ∨ (mo' = 0 ∧ R = (dn', x_W1 (x_tl S) (x_nl8 S) p st t W Y ++ x_sl (x_tl S) (x_p1 st t) (x_nl8 S)))) → qi (f_Mod_substituted_183 N (f_Mod_substituted_43 N m) v0 q nn' dn' k mo' st t h4) (fun r => r_P L π v0 h0 (x_sE R pr O S H A rd cy rp sm nx) nx r.2) := by
            intro h4 nn' dn' mo' Y K4 RA'
            unfold f_Mod_substituted_183
            have sb4 := K4.2.1
            have T4 := K4.1.1.1
            refine qi_if (fun d => ?_) (fun d => ?_)
            · have e1 : x_p1 st t = st + 1 := by unfold x_p1; rw [if_pos d.symm]
              rw [e1] at RA' pl
              refine l_gI (e := x_nl8 S) sb4.1 ?_
              refine qi_if (fun d1 => ?_) (fun d1 => ?_)
              · unfold f_Mod_substituted_216
                have e2 : x_W1 (x_tl S) (x_nl8 S) p st t W Y = W ++ x_sl (x_tl S) p st ++ Y := by
                  unfold x_W1
                  rw [if_neg (fun z => absurd (Int32.lt_of_lt_of_le z.2 d1) Int32.lt_irrefl), List.append_nil]
                rw [e2] at RA'
                exact qi_bs (ih (st + 1) t nn' dn' mo' _ h4 K4 (Int32.le_trans p0 (Int32.le_of_lt pl.1)) pl.2 RA')
              · have d2 := Int32.not_le.mp d1
                have e2 : x_W1 (x_tl S) (x_nl8 S) p st t W Y = W ++ x_sl (x_tl S) p st ++ Y ++ [x_tl S st] := by
                  unfold x_W1
                  rw [if_pos ⟨d.symm, d2⟩]
                rw [e2] at RA'
                refine l_gR T4 (d_Mo_51 M) (l_aI (e := x_tl S st) (fun _ => sb4.2 st st0 d2) (fun _ => l_gO (qi_b (r_ad (N := N) K4 (r_R1_k a2 st st0 d2)) ?_)))
                rintro h5 ⟨K5, _⟩
                unfold f_Mod_substituted_216
                exact qi_bs (ih (st + 1) t nn' dn' mo' _ h5 K5 (Int32.le_trans p0 (Int32.le_of_lt pl.1)) pl.2 RA')
            · have e1 : x_p1 st t = t := by unfold x_p1; rw [if_neg (fun z => d z.symm)]
              rw [e1] at RA' pl
              have e2 : x_W1 (x_tl S) (x_nl8 S) p st t W Y = W ++ x_sl (x_tl S) p st ++ Y := by
                unfold x_W1
                rw [if_neg (fun z => d z.1.symm), List.append_nil]
              rw [e2] at RA'
              exact ih t t nn' dn' mo' _ h4 K4 (Int32.le_trans p0 (Int32.le_of_lt pl.1)) pl.2 RA'
          -- not replaced
          have N175 : ∀ nn' : Int32, nn' = (if st < t ∨ ¬ st = bf then nn + 1 else nn) → ¬ ((st < t ∨ ¬ st = bf) ∧ (nn + 1 = k ∨ (k < nn + 1 ∧ ¬ al = 0))) → qi (f_Mod_substituted_175 N (f_Mod_substituted_43 N m) v0 q nn' dn k 1 st t h3) (fun r => r_P L π v0 h0 (x_sE R pr O S H A rd cy rp sm nx) nx r.2) := by
            intro nn' en nh
            unfold f_Mod_substituted_175
            refine l_gO (qi_b (r_co (N := N) K3 st0 w3.2.1 w3.2.2) ?_)
            rintro h4 ⟨K4, _⟩
            refine N183 h4 nn' dn 1 _ K4 (Or.inl ⟨rfl, ?_⟩)
            rw [en, ER, x_sw_m hh w2 w3 nh]
          -- replaced
          have N152 : (st < t ∨ ¬ st = bf) → (nn + 1 = k ∨ (k < nn + 1 ∧ ¬ al = 0)) → qi (f_Mod_substituted_152 N (f_Mod_substituted_43 N m) v0 q (nn + 1) dn k 1 st t h3) (fun r => r_P L π v0 h0 (x_sE R pr O S H A rd cy rp sm nx) nx r.2) := by
            intro ct hk
            unfold f_Mod_substituted_152
            have g3 := P.2.2.2
            have AR := r_aR (N := N) (q := q) (g := g) (st := st) (t := t) (gb := gb) (ge := ge) K3 (by rw [VA3 _ (by omega) (by omega), hf]) (by rw [VA3 _ (by omega) (by omega), ht]) f0 ft to6 g3 w4 st0 w3.2.1 (by rw [V3.2 56 (by decide), w5]) (by rw [V3.2 57 (by decide), w6]) (by rw [x_vA_c (V3.1 (v0 + 37) (by omega) (by omega))]; exact w7) (by rw [x_vA_c (V3.1 (v0 + 37) (by omega) (by omega)), x_vA_c (V3.1 (v0 + 38) (by omega) (by omega))]; exact w8) (by rw [VA3 _ (by omega) (by omega)]; exact CK)
            rw [VA3 _ (by omega) (by omega), EC] at AR
            refine l_gO (qi_b AR ?_)
            rintro h4 ⟨K4, V4⟩
            have T4 := K4.1.1.1
            rw [x_sw_h hh w2 w3 ⟨ct, hk⟩] at ER
            refine qi_bs (l_gR T4 (d_Mo_22 M) (l_aI (e := al) (fun _ => by rw [x_vA_c (V4.1 (v0 + 17) (by omega) (by omega)), VA3 _ (by omega) (by omega), hal]) (fun _ => ?_)))
            refine qi_if (fun d => ?_) (fun d => ?_)
            · rw [if_pos d] at ER
              exact N183 h4 (nn + 1) (dn + 1) 0 _ K4 (Or.inr ⟨rfl, ER⟩)
            · rw [if_neg d] at ER
              exact N183 h4 (nn + 1) (dn + 1) 1 _ K4 (Or.inl ⟨rfl, ER⟩)
          have N1 : (st < t ∨ ¬ st = bf) → qi (f_Mod_substituted_114 N (f_Mod_substituted_43 N m) v0 q nn dn k 1 st t 1 h3) (fun r => r_P L π v0 h0 (x_sE R pr O S H A rd cy rp sm nx) nx r.2) := by
            intro ct
            unfold f_Mod_substituted_114
            rw [if_neg (by decide)]
            refine qi_bs ?_
            unfold f_Mod_substituted_124
            rw [if_neg (by decide)]
            have en : nn + 1 = (if st < t ∨ ¬ st = bf then nn + 1 else nn) := by rw [if_pos ct]
            refine qi_if (fun d => N152 ct (Or.inl d)) (fun d => ?_)
            refine qi_if (fun d1 => N175 (nn + 1) en (fun z => z.2.elim d (fun y => absurd (Int32.lt_of_lt_of_le y.1 d1) Int32.lt_irrefl))) (fun d1 => ?_)
            refine l_gR K3.1.1.1 (d_Mo_22 M) (l_aI (e := al) (fun _ => by rw [VA3 _ (by omega) (by omega), hal]) (fun _ => ?_))
            refine qi_if (fun d2 => N175 (nn + 1) en (fun z => z.2.elim d (fun y => y.2 d2))) (fun d2 => N152 ct (Or.inr ⟨Int32.not_le.mp d1, d2⟩))
          refine qi_if (fun d => N1 (Or.inl d)) (fun d => ?_)
          refine qi_if (fun d1 => ?_) (fun d1 => N1 (Or.inr d1))
          unfold f_Mod_substituted_114
          rw [if_pos rfl]
          unfold f_Mod_substituted_124
          rw [if_pos rfl]
          have nc : ¬ (st < t ∨ ¬ st = bf) := fun z => z.elim d (fun z => z d1)
          exact N175 nn (by rw [if_neg nc]) (fun z => nc z.1)
/-- s -/
theorem r_ps {q al pr fr to g s1 s2 pt dg : Int32} {CD : List Int32} (s : r_S L π v0 h O S H A) (n : r_N h v0 rd cy rp sm) (hpt : vA h (v0 + 9) q = pt) (P : r_PP h v0 pt s1 s2 g) (hal : vA h (v0 + 17) q = al) (hp : vA h (v0 + 18) q = pr) (hf : vA h (v0 + 10) q = fr) (ht : vA h (v0 + 11) q = to) (hd : vA h (v0 + 14) q = dg) (f0 : 0 ≤ fr) (ft : fr ≤ to) (to6 : to ≤ 600) (CK : ∀ j, fr ≤ j → j < to → x_ck g (vA h (v0 + 28) j)) (EC : x_sl (vA h (v0 + 28)) fr to = CD) : qi (f_Mod_substituted N v0 q h) (fun r => r_P L π v0 h (x_sE (x_sw (r_fd h v0 pt s1 s2 S) (x_tl S) (x_nl8 S) (fun st t gb ge => x_rx S st t gb ge CD) al (if dg ≤ 0 then 1 else dg) 0 (-1) 0 0 []) pr O S H A rd cy rp sm nx) nx r.2) := by
  obtain ⟨⟨T, M⟩, a1, a2, a3, a4⟩ := id s
  have tl := r_R1_tl a2
  have n0 : 0 ≤ x_nl8 S := by rw [← tl.1]; exact a2.2.1.1
  have n1 : x_nl8 S ≤ 60 := by rw [← tl.1]; exact a2.2.1.2
  unfold f_Mod_substituted
  refine l_gO (qi_b (r_tk8 (N := N) s) ?_)
  rintro h2 ⟨s2', F2, I2, sb⟩
  refine l_sIc s2'.1.1 M.1 (by decide) rfl ?_
  intro h3 T3 c3 u3
  have K3 : r_K L π v0 h h3 O S H A [] := by
    refine ⟨?_, ⟨by rw [u3 54, if_neg (by decide)]; exact sb.1, by rw [x_vA_c (c3 (v0 + 36) (by omega))]; exact sb.2⟩, ⟨⟨?_, by rw [u3 67, if_pos rfl]; decide, x_kt_0⟩, by rw [u3 67, if_pos rfl]; decide⟩, ⟨fun a a1 a2 => (c3 a a2).trans (F2 a a2 (by omega)), fun k k1 k2 => by rw [u3 k, if_neg (by omega), I2 k (by omega)]⟩, fun k k1 k2 => by rw [u3 k, if_neg k2, I2 k (by omega)]⟩
    · obtain ⟨_, b1, b2, b3, b4⟩ := s2'
      exact ⟨⟨T3, M⟩, r_R1_c b1 (by rw [u3 69, if_neg (by decide)]) (c3 _ (by omega)), r_R1_c b2 (by rw [u3 65, if_neg (by decide)]) (c3 _ (by omega)), r_R1_c b3 (by rw [u3 66, if_neg (by decide)]) (c3 _ (by omega)), r_R1_c b4 (by rw [u3 68, if_neg (by decide)]) (c3 _ (by omega))⟩
    · unfold r_l
      rw [u3 67, if_pos rfl, x_sl_0 (Int32.le_refl 0) (by decide) (by decide)]
      rfl
  have e19 : vA h3 (v0 + 14) q = dg := by rw [x_vA_c (c3 (v0 + 14) (by omega)), x_vA_c (F2 (v0 + 14) (by omega) (by omega)), hd]
  have GO : ∀ k : Int32, k = (if dg ≤ 0 then 1 else dg) → qi (f_Mod_substituted_43 N N v0 q 0 (-1) 0 0 k 1 h3) (fun r => r_P L π v0 h (x_sE (x_sw (r_fd h v0 pt s1 s2 S) (x_tl S) (x_nl8 S) (fun st t gb ge => x_rx S st t gb ge CD) al (if dg ≤ 0 then 1 else dg) 0 (-1) 0 0 []) pr O S H A rd cy rp sm nx) nx r.2) := by
    intro k ek
    rw [← ek]
    exact r_s43 (N := N) T M n hpt P hal hp hf ht f0 ft to6 CK EC N 0 (-1) 0 0 1 [] h3 K3 (Int32.le_refl 0) (by lia) (Or.inl ⟨rfl, rfl⟩)
  refine qi_bs (l_gR T3 (d_Mo_19 M) (l_aI (e := dg) (fun _ => e19) (fun _ => ?_)))
  refine qi_if (fun c => GO 1 (by rw [if_pos c])) (fun c => ?_)
  refine l_gR T3 (d_Mo_19 M) (l_aI (e := dg) (fun _ => e19) (fun _ => ?_))
  exact GO dg (by rw [if_neg c])
end S3
