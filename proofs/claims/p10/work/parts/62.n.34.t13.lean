/-! the editor of the class: a command -/
noncomputable def x_pf (kd tg b pr : Int32) (X : List Int32) (ym : Int32 → Int32) (sw : List Int32 → Int32 × List Int32) (lc : Int32) (LN : Int32 → List Int32) (O S H A : List Int32) (rd cy rp sm nx : Int32) : x_TT :=
  if kd = 61 then x_tE (x_nm rd) O S H A rd cy rp sm nx
  else if kd = 68 then x_DE lc LN O S H A rd cy rp sm nx
  else if kd = 71 then (if S.length + H.length + 1 ≤ 60 then (1, O, S ++ [10] ++ H, H, A, rd, cy, rp, sm, nx, 0) else (0, O, S, H, A, rd, cy, rp, sm, nx, 0))
  else if kd = 72 then (if H.length + S.length + 1 ≤ 60 then (1, O, S, H ++ [10] ++ S, A, rd, cy, rp, sm, nx, 0) else (0, O, S, H, A, rd, cy, rp, sm, nx, 0))
  else if kd = 78 then x_NE lc LN O S H A rd cy rp sm nx
  else if kd = 80 then x_tE (S.takeWhile x_n10) O S H A rd cy rp sm nx
  else if kd = 97 then x_aE X O S H A rd cy rp sm nx
  else if kd = 98 then (1, O, S, H, A, rd, cy, rp, sm, tg, 0)
  else if kd = 99 then x_cE b X lc LN O H A rd cy rp sm nx
  else if kd = 100 then x_rE (x_ec 0 lc LN O S A rd) H A rd cy rp sm nx
  else if kd = 103 then (1, O, H, H, A, rd, cy, rp, sm, nx, 0)
  else if kd = 104 then (1, O, S, S, A, rd, cy, rp, sm, nx, 0)
  else if kd = 105 then x_tE X O S H A rd cy rp sm nx
  else if kd = 110 then x_nE lc LN O S H A rd cy rp sm nx
  else if kd = 112 then x_tE S O S H A rd cy rp sm nx
  else if kd = 113 then x_qE O S H A rd cy rp sm nx
  else if kd = 115 then x_sE (sw S) pr O S H A rd cy rp sm nx
  else if kd = 116 then (if sm = 0 then (1, O, S, H, A, rd, cy, rp, sm, nx, 0) else (1, O, S, H, A, rd, cy, rp, 0, tg, 0))
  else if kd = 120 then (1, O, H, S, A, rd, cy, rp, sm, nx, 0)
  else if kd = 121 then (1, O, S.map ym, H, A, rd, cy, rp, sm, nx, 0)
  else (1, O, S, H, A, rd, cy, rp, sm, nx, 0)
/-- a command of the class that may be done -/
def y_CK (h : z_H) (pg c : Nat) : Prop := (vI h c 3 = 115 → y_PP h (pg + 3) (c + 5) ∧ (0 ≤ vI h c 9 ∧ vI h c 9 ≤ vI h c 10 ∧ vI h c 10 ≤ vI h (pg + 1) 1) ∧ ∃ CD, x_cd (vA h (pg + 2)) (vI h (c + 5) 6) (x_ct (vI h c 9) (vI h c 10)) (vI h c 9) = some CD) ∧ (vI h c 3 = 121 → (0 ≤ vI h c 9 ∧ vI h c 9 ≤ vI h c 10 ∧ vI h c 10 ≤ vI h (pg + 1) 1) ∧ 0 ≤ vI h c 11 ∧ vI h c 11 + (vI h c 10 - vI h c 9) ≤ vI h (pg + 1) 1 ∧ vI h c 11 ≤ 1000) ∧ (vI h c 3 = 97 ∨ vI h c 3 = 105 ∨ vI h c 3 = 99 → 0 ≤ vI h c 9 ∧ vI h c 9 ≤ vI h c 10 ∧ vI h c 10 ≤ vI h (pg + 1) 1)
/-- its text, its exchange, what it substitutes -/
def y_cX (h : z_H) (pg c : Nat) : List Int32 := x_sl (vA h (pg + 2)) (vI h c 9) (vI h c 10)
def y_cY (h : z_H) (pg c : Nat) : Int32 → Int32 := x_ym (vA h (pg + 2)) (vI h c 9) (vI h c 10) (vI h c 11)
noncomputable def y_cS (h : z_H) (pg c : Nat) (S : List Int32) : Int32 × List Int32 := x_sw (y_fd h (pg + 3) (c + 5) S) (x_tl S) (x_nl8 S) (fun st t gb ge => x_rx S st t gb ge ((x_cd (vA h (pg + 2)) (vI h (c + 5) 6) (x_ct (vI h c 9) (vI h c 10)) (vI h c 9)).getD [])) (vI h c 12) (if vI h c 14 < 1 then 1 else vI h c 14) 0 (-1) 0 0 []
section Y13
variable {L : q_L} {e pg sf ln c : Nat} {π : Nat → Nat → Option Nat} {N : Nat} {h : z_H} {sp ho dr : Nat} {O S H A TX : List Int32} {LN : Int32 → List Int32} {lc rd cy rp sm nx b : Int32}
theorem y_sub (hpg : e + 16 ≤ pg) (hc : pg + 9 ≤ c) (ly : y_L L e) (kp : qκ L pg = 10) (kc : qκ L c = 2) (s : y_S L e pg ln π h sp ho dr O S H A) (n : y_N h e rd cy rp sm nx) (rt : y_R1 h (pg + 1) 240 TX) (K : y_PP h (pg + 3) (c + 5) ∧ (0 ≤ vI h c 9 ∧ vI h c 9 ≤ vI h c 10 ∧ vI h c 10 ≤ vI h (pg + 1) 1) ∧ ∃ CD, x_cd (vA h (pg + 2)) (vI h (c + 5) 6) (x_ct (vI h c 9) (vI h c 10)) (vI h c 9) = some CD) : qi (f_Ed_substitute N e c h) (y_P L e pg ln h (x_sE (y_cS h pg c S) (vI h c 13) O S H A rd cy rp sm nx)) := by
  obtain ⟨⟨T, p1, p2, p3, p4, p5⟩, d, a1, a2, a3, a4, a5⟩ := id s
  obtain ⟨d1, d2, d3, d4, d5, d6⟩ := d
  obtain ⟨P, ⟨b0, b1, b2⟩, CD, EC⟩ := K
  have kd := y_kr ly d3
  have tl := y_R1_tl a2
  have n0 : 0 ≤ x_nl8 S := by rw [← tl.1]; exact a2.2.1.1
  have n1 : x_nl8 S ≤ 60 := by rw [← tl.1]; exact a2.2.1.2
  unfold f_Ed_substitute
  refine l_gR T p3 (l_gO (qi_b (y_em (N := N) T kd.1) ?_))
  rintro h1 ⟨T1, f1, i1, w1⟩
  refine qi_bs ?_
  have pm0 : x_pm (x_nl8 S) 0 = 0 := by unfold x_pm; rw [if_pos n0]
  refine y_s23 (N := N) (R := y_cS h pg c S) hpg hc ly kp kc (e_Prog_1 T kp) T P rfl rfl rfl rfl rfl rfl rfl rt b0 b1 b2 EC n N π 0 0 0 (-1) 0 0 [] h1 (y_S_D s T1 (fun b b1 _ => f1 b b1) (by rw [i1]; decide)) ⟨w1, by rw [i1]; decide, x_kt_0⟩ (fun a ha => f1 a (by omega)) (fun k => x_vI_c (f1 e (by omega))) (Int32.le_refl 0) (by rw [pm0]; exact Int32.le_refl 0) (Int32.le_refl 0) (by lia) (Int32.le_refl 0) (Int32.le_refl 0) (Int32.le_refl 0) (Int32.le_refl 0) (Int32.le_refl 0) (Int32.le_refl 0) (fun _ => ⟨rfl, rfl⟩) (Or.inl ⟨?_, Or.inl rfl⟩)
  unfold y_cS
  rw [EC, pm0, x_sl_0 (Int32.le_refl 0) (by decide) (by decide)]
  rfl
theorem y_br (ly : y_L L e) (s : y_S L e pg ln π h sp ho dr O S H A) (n : y_N h e rd cy rp sm nx) : qi (f_Ed_branchIfReplaced N e c h) (fun r => y_P L e pg ln h (if sm = 0 then (1, O, S, H, A, rd, cy, rp, sm, nx, 0) else (1, O, S, H, A, rd, cy, rp, 0, vI h c 7, 0)) (.inl (), r)) := by
  have T := s.1.1
  unfold f_Ed_branchIfReplaced
  refine l_gI (e := sm) n.2.2.2.1 ?_
  refine qi_if (fun z => ?_) (fun z => ?_)
  · rw [if_pos z]; exact qi_some (y_P1 n y_F_r (fun _ => rfl) s rfl)
  · rw [if_neg z]
    refine l_sIc T ly.1 (by decide) rfl ?_
    intro h1 T1 c1 u1
    by_cases ce : c = e
    · refine l_gI (e := vI h1 c 7) rfl (l_sIc T1 ly.1 (by decide) rfl ?_)
      intro h2 T2 c2 u2
      have C : ∀ b, b ≠ e → h2 b = h b := fun b hb => (c2 b hb).trans (c1 b hb)
      have e7 : vI h1 c 7 = vI h c 7 := by rw [ce, u1 7]; rfl
      have J : ∀ k, vI h2 e k = if k = 13 then vI h c 7 else if k = 15 then 0 else vI h e k := fun k => by rw [u2 k, u1 k, e7]
      exact qi_some ⟨fun a ha => C a (by omega), ⟨by rw [J 4]; rfl, by rw [J 12]; rfl⟩, π, sp, ho, dr, A, y_S_e s T2 C, ⟨by rw [J 3]; exact n.1, by rw [J 5]; exact n.2.1, by rw [J 6]; exact n.2.2.1⟩, Or.inr ⟨rfl, rfl, by rw [J 14]; exact n.2.2.2.2.2, fun _ => ⟨rfl, by rw [J 15]; rfl, by rw [J 13]; rfl⟩⟩⟩
    · refine l_gI (e := vI h c 7) (x_vI_c (c1 c ce)) (l_sIc T1 ly.1 (by decide) rfl ?_)
      intro h2 T2 c2 u2
      have C : ∀ b, b ≠ e → h2 b = h b := fun b hb => (c2 b hb).trans (c1 b hb)
      have J : ∀ k, vI h2 e k = if k = 13 then vI h c 7 else if k = 15 then 0 else vI h e k := fun k => by rw [u2 k, u1 k]
      exact qi_some ⟨fun a ha => C a (by omega), ⟨by rw [J 4]; rfl, by rw [J 12]; rfl⟩, π, sp, ho, dr, A, y_S_e s T2 C, ⟨by rw [J 3]; exact n.1, by rw [J 5]; exact n.2.1, by rw [J 6]; exact n.2.2.1⟩, Or.inr ⟨rfl, rfl, by rw [J 14]; exact n.2.2.2.2.2, fun _ => ⟨rfl, by rw [J 15]; rfl, by rw [J 13]; rfl⟩⟩⟩
theorem y_tE1 {X : List Int32} {y : Unit ⊕ String} {h1 : z_H} (n : y_N h e rd cy rp sm nx) (s : y_S L e pg ln π h sp ho dr O S H A) (p : (y = .inl () ∧ O.length + X.length + 1 ≤ 600 ∧ y_S L e pg ln π h1 sp ho dr (O ++ X ++ [10]) S H A ∧ y_F e h h1 ∧ ∀ k, vI h1 e k = vI h e k) ∨ (y = .inr xE3 ∧ ¬ O.length + X.length + 1 ≤ 600 ∧ h1 = h)) : y_P L e pg ln h (x_tE X O S H A rd cy rp sm nx) (y, h1) := by
  unfold x_tE
  rcases p with ⟨q1, q2, s1, F1, I1⟩ | ⟨q1, q2, q3⟩
  · rw [if_pos q2]; exact y_P1 n F1 I1 s1 q1
  · rw [if_neg q2, q3]; exact y_P0 n y_F_r (fun _ => rfl) s q1
set_option maxHeartbeats 4000000 in
theorem y_pf (es : e = sf + 9) (kf : qκ L sf = 12) (hpg : e + 16 ≤ pg) (hc : pg + 9 ≤ c) (ly : y_L L e) (kp : qκ L pg = 10) (kc : qκ L c = 2) (s : y_S L e pg (sf + 3) π h sp ho dr O S H A) (n : y_N h e rd cy rp sm nx) (ll : y_LN h sf lc LN) (hl : vI h e 12 = lc) (r0 : 0 ≤ rd) (rl : rd ≤ lc) (rt : y_R1 h (pg + 1) 240 TX) (CK : y_CK h pg c) (B1 : b = 0 → ¬ (vI h c 5 < 2 ∨ ¬ vI h c 6 = 0 ∨ ¬ vI h e 16 = 0)) (B2 : ¬ b = 0 → vI h c 5 < 2 ∨ ¬ vI h c 6 = 0 ∨ ¬ vI h e 16 = 0) : qi (f_Ed_perform N e c h) (y_P L e pg (sf + 3) h (x_pf (vI h c 3) (vI h c 7) b (vI h c 13) (y_cX h pg c) (y_cY h pg c) (y_cS h pg c) lc LN O S H A rd cy rp sm nx)) := by
  obtain ⟨⟨T, p1, p2, p3, p4, p5⟩, d, a1, a2, a3, a4, a5⟩ := id s
  obtain ⟨d1, d2, d3, d4, d5, d6⟩ := d
  have ks := y_kr ly d1
  have kh := y_kr ly d2
  have kt := e_Prog_0 T kp
  have L12 := ll.2.1
  unfold f_Ed_perform x_pf
  refine l_gI (e := vI h c 3) rfl ?_
  refine qi_if (fun z => ?_) (fun z => ?_)
  · rw [if_pos z]
    refine l_gO (qi_b (y_tN (N := N) ly s (by rw [n.1]; exact r0) (by rw [n.1]; lia)) ?_)
    rw [n.1]
    rintro ⟨y, h1⟩ ⟨F1, I1, ⟨q1, q2, s1⟩ | ⟨q1, q2, s1⟩⟩
    · refine y_zxu ?_
      unfold x_tE
      rw [if_pos q2]; exact y_P1 n F1 I1 s1 q1
    · refine y_zxu ?_
      unfold x_tE
      rw [if_neg q2]; exact y_P0 n F1 I1 s1 q1
  rw [if_neg z]
  refine qi_if (fun z => ?_) (fun z => ?_)
  · rw [if_pos z]
    refine l_gO (qi_b (y_pD (N := N) es kf ly s n ll hl r0 rl) ?_)
    rintro ⟨y, h1⟩ p
    exact y_zxu p
  rw [if_neg z]
  refine qi_if (fun z => ?_) (fun z => ?_)
  · rw [if_pos z]
    refine l_gR T p2 (l_gR T p1 (l_gO (qi_b (y_jn (N := N) (e := e) T ks kh.1 (by omega) a3 a2) ?_)))
    rintro ⟨y, h1⟩ (⟨q1, q2, T1, f1, r1⟩ | ⟨q1, q2, q3⟩)
    · rw [if_pos q2]
      exact y_zxu (y_P1 n (fun a ha => f1 a (by omega) (by omega)) (fun k => x_vI_c (f1 e (by omega) (by omega))) (y_S_S s T1 f1 r1) q1)
    · rw [if_neg q2, show h1 = h from q3]
      exact y_zxu (y_P0 n y_F_r (fun _ => rfl) s q1)
  rw [if_neg z]
  refine qi_if (fun z => ?_) (fun z => ?_)
  · rw [if_pos z]
    refine l_gR T p1 (l_gR T p2 (l_gO (qi_b (y_jn (N := N) (e := e) T kh ks.1 (by omega) a2 a3) ?_)))
    rintro ⟨y, h1⟩ (⟨q1, q2, T1, f1, r1⟩ | ⟨q1, q2, q3⟩)
    · rw [if_pos q2]
      exact y_zxu (y_P1 n (fun a ha => f1 a (by omega) (by omega)) (fun k => x_vI_c (f1 e (by omega) (by omega))) (y_S_H s T1 f1 r1) q1)
    · rw [if_neg q2, show h1 = h from q3]
      exact y_zxu (y_P0 n y_F_r (fun _ => rfl) s q1)
  rw [if_neg z]
  refine qi_if (fun z => ?_) (fun z => ?_)
  · rw [if_pos z]
    refine l_gO (qi_b (y_pN (N := N) es kf ly s n ll hl r0 rl) ?_)
    rintro ⟨y, h1⟩ p
    exact y_zxu p
  rw [if_neg z]
  refine qi_if (fun z => ?_) (fun z => ?_)
  · rw [if_pos z]
    unfold f_Row_newlineFrom
    refine l_gR T p1 (l_gR T p1 (l_gO (qi_b (y_nl2 (N := N) ks.1 N 0 h T (Int32.le_refl 0) a2.2.1.1 (Int32.le_trans a2.2.1.2 (by decide))) ?_)))
    rintro ⟨q, h1⟩ ⟨e1, b0, bn, X1, X2⟩
    dsimp only at e1 b0 bn X1 X2 ⊢
    subst e1
    have TW := x_tw b0 bn (fun j j0 j1 => X1 j j0 j1) X2
    have zS : x_sl (vA h1 (sp + 1)) 0 (vI h1 sp 1) = S := a2.1
    rw [zS] at TW
    have TR := y_tR (N := N) (o := sp) (v2 := 0) (v3 := q) ly s ks.1 (by omega) a2 (by decide) (Int32.le_refl 0) b0 bn
    rw [← TW.1, show x_ct 0 q = (S.takeWhile x_n10).length from by rw [TW.1, x_sl_len]] at TR
    refine l_gO (qi_b TR ?_)
    rintro ⟨y, h2⟩ p
    exact y_zxu (y_tE1 n s p)
  rw [if_neg z]
  refine qi_if (fun z => ?_) (fun z => ?_)
  · rw [if_pos z]
    obtain ⟨b0, b1, b2⟩ := CK.2.2 (Or.inl z)
    refine l_gO (qi_b (y_ap8 (N := N) hpg hc ly kp s rt rfl rfl b0 b1 b2) ?_)
    rintro ⟨y, h1⟩ ⟨I1, F1, ⟨q1, q2, s1⟩ | ⟨q1, q2, s1⟩⟩
    · refine y_zxu ?_
      unfold x_aE y_cX
      rw [x_sl_len, if_pos q2]; exact y_P1 n F1 I1 s1 q1
    · refine y_zxu ?_
      unfold x_aE y_cX
      rw [x_sl_len, if_neg q2]; exact y_P0 n F1 I1 s1 q1
  rw [if_neg z]
  refine qi_if (fun z => ?_) (fun z => ?_)
  · rw [if_pos z]
    refine l_gI (e := vI h c 7) rfl (l_sIc T ly.1 (by decide) rfl ?_)
    intro h1 T1 c1 J
    exact qi_some ⟨fun a ha => c1 a (by omega), ⟨by rw [J 4]; rfl, by rw [J 12]; rfl⟩, π, sp, ho, dr, A, y_S_e s T1 c1, ⟨by rw [J 3]; exact n.1, by rw [J 5]; exact n.2.1, by rw [J 6]; exact n.2.2.1⟩, Or.inr ⟨rfl, rfl, by rw [J 14]; exact n.2.2.2.2.2, fun _ => ⟨rfl, by rw [J 15]; exact n.2.2.2.1, by rw [J 13]; rfl⟩⟩⟩
  rw [if_neg z]
  refine qi_if (fun z => ?_) (fun z => ?_)
  · rw [if_pos z]
    obtain ⟨b0, b1, b2⟩ := CK.2.2 (Or.inr (Or.inr z))
    refine l_gO (qi_b (y_pc (N := N) es kf ly s n ll hl r0 rl hpg hc kp rt rfl rfl b0 b1 b2 B1 B2) ?_)
    rintro ⟨y, h1⟩ p
    exact y_zxu p
  rw [if_neg z]
  refine qi_if (fun z => ?_) (fun z => ?_)
  · rw [if_pos z]
    have t := y_eC (N := N) (sh := 0) es kf ly s ll hl (by rw [n.1]; exact r0) (by rw [n.1]; exact rl)
    rw [n.1] at t
    refine l_gO (qi_b t ?_)
    rintro ⟨y, h1⟩ p
    exact y_zxu (y_EC_P n p)
  rw [if_neg z]
  refine qi_if (fun z => ?_) (fun z => ?_)
  · rw [if_pos z]
    refine l_gR T p2 (l_gR T p1 (l_gO (qi_b (y_cp (N := N) (e := e) T ks kh.1 (by omega) a3) ?_)))
    rintro h1 ⟨T1, f1, r1⟩
    exact qi_some (y_P1 n (fun a ha => f1 a (by omega) (by omega)) (fun k => x_vI_c (f1 e (by omega) (by omega))) (y_S_S s T1 f1 r1) rfl)
  rw [if_neg z]
  refine qi_if (fun z => ?_) (fun z => ?_)
  · rw [if_pos z]
    refine l_gR T p1 (l_gR T p2 (l_gO (qi_b (y_cp (N := N) (e := e) T kh ks.1 (by omega) a2) ?_)))
    rintro h1 ⟨T1, f1, r1⟩
    exact qi_some (y_P1 n (fun a ha => f1 a (by omega) (by omega)) (fun k => x_vI_c (f1 e (by omega) (by omega))) (y_S_H s T1 f1 r1) rfl)
  rw [if_neg z]
  refine qi_if (fun z => ?_) (fun z => ?_)
  · rw [if_pos z]
    obtain ⟨b0, b1, b2⟩ := CK.2.2 (Or.inr (Or.inl z))
    have TR := y_tR (N := N) (o := pg + 1) (v2 := vI h c 9) (v3 := vI h c 10) ly s kt (by omega) rt (by decide) b0 b1 b2
    rw [show x_ct (vI h c 9) (vI h c 10) = (y_cX h pg c).length from by unfold y_cX; rw [x_sl_len]] at TR
    refine l_gR T p4 (l_gR T (d_Prog_0 T kp) (l_gI (e := vI h c 9) rfl (l_gI (e := vI h c 10) rfl (l_gO (qi_b TR ?_)))))
    rintro ⟨y, h2⟩ p
    exact y_zxu (y_tE1 n s p)
  rw [if_neg z]
  refine qi_if (fun z => ?_) (fun z => ?_)
  · rw [if_pos z]
    refine l_gO (qi_b (y_pn (N := N) es kf ly s n ll hl r0 rl) ?_)
    rintro ⟨y, h1⟩ p
    exact y_zxu p
  rw [if_neg z]
  refine qi_if (fun z => ?_) (fun z => ?_)
  · rw [if_pos z]
    refine l_gR T p1 (l_gR T p1 (l_gI (e := vI h sp 1) rfl (l_gO (qi_b (y_tS (N := N) ly s) ?_))))
    rintro ⟨y, h2⟩ p
    exact y_zxu (y_tE1 n s p)
  rw [if_neg z]
  refine qi_if (fun z => ?_) (fun z => ?_)
  · rw [if_pos z]
    refine l_gO (qi_b (y_pq (N := N) ly s n) ?_)
    rintro ⟨y, h1⟩ p
    exact y_zxu p
  rw [if_neg z]
  refine qi_if (fun z => ?_) (fun z => ?_)
  · rw [if_pos z]
    refine l_gO (qi_b (y_sub (N := N) hpg hc ly kp kc s n rt (CK.1 z)) ?_)
    rintro ⟨y, h1⟩ p
    exact y_zxu p
  rw [if_neg z]
  refine qi_if (fun z => ?_) (fun z => ?_)
  · rw [if_pos z]
    refine l_gO (qi_b (y_br (N := N) ly s n) ?_)
    rintro h1 p
    exact qi_some p
  rw [if_neg z]
  refine qi_if (fun z => ?_) (fun z => ?_)
  · rw [if_pos z]
    refine l_gO (qi_b (y_sw (N := N) ly s) ?_)
    rintro h1 ⟨π', s1, F1, I1⟩
    exact qi_some (y_P1 n F1 I1 s1 rfl)
  rw [if_neg z]
  refine qi_if (fun z => ?_) (fun z => ?_)
  · rw [if_pos z]
    obtain ⟨⟨b0, b1, b2⟩, b3, b4, b5⟩ := CK.2.1 z
    refine l_gO (qi_b (y_py (N := N) hpg ly s n kp hc rt rfl rfl rfl b0 b1 b2 b3 b4 b5) ?_)
    rintro h1 p
    exact qi_some p
  rw [if_neg z]
  exact qi_some (y_P1 n y_F_r (fun _ => rfl) s rfl)
end Y13
