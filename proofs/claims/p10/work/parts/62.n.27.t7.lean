/-! commands: c, y, those that tell -/
/-- what y makes of a character -/
def x_yr (tx : Int32 → Int32) (cp tf : Int32) : Nat → Int32 → Int32 → Int32
  | 0, _, c => c
  | n + 1, p, c => if tx p = c then tx (cp + p - tf) else x_yr tx cp tf n (p + 1) c
def x_ym (tx : Int32 → Int32) (tf tt cp c : Int32) : Int32 := x_yr tx cp tf (x_ct tf tt) tf c
theorem x_sl_map {f g : Int32 → Int32} {a b : Int32} : x_sl (fun j => g (f j)) a b = (x_sl f a b).map g := by
  unfold x_sl
  rw [List.map_map]
  rfl
section Y7
variable {L : q_L} {e pg sf ln : Nat} {π : Nat → Nat → Option Nat} {N : Nat} {h h1 : z_H} {sp ho dr : Nat} {O S H A : List Int32} {LN : Int32 → List Int32} {lc : Int32} {rd cy rp sm nx : Int32}
theorem y_c48 (es : e = sf + 9) (kf : qκ L sf = 12) (ly : y_L L e) (s : y_S L e pg (sf + 3) π h sp ho dr O S H A) (n : y_N h e rd cy rp sm nx) (ll : y_LN h sf lc LN) (hl : vI h e 12 = lc) (r0 : 0 ≤ rd) (rl : rd ≤ lc) : qi (f_Ed_change_48 N e h) (y_P L e pg (sf + 3) h (x_rE (x_ec 0 lc LN O S A rd) H A rd cy rp sm nx)) := by
  unfold f_Ed_change_48
  have t := y_eC (N := N) (sh := 0) es kf ly s ll hl (by rw [n.1]; exact r0) (by rw [n.1]; exact rl)
  rw [n.1] at t
  refine l_gO (qi_b t ?_)
  rintro ⟨y, h2⟩ p
  exact y_zxu (y_EC_P n p)
theorem y_pc {c : Nat} {tf tt b : Int32} {TX : List Int32} (es : e = sf + 9) (kf : qκ L sf = 12) (ly : y_L L e) (s : y_S L e pg (sf + 3) π h sp ho dr O S H A) (n : y_N h e rd cy rp sm nx) (ll : y_LN h sf lc LN) (hl : vI h e 12 = lc) (r0 : 0 ≤ rd) (rl : rd ≤ lc) (hpg : e + 16 ≤ pg) (hc : pg + 9 ≤ c) (kp : qκ L pg = 10) (rt : y_R1 h (pg + 1) 240 TX) (htf : vI h c 9 = tf) (htt : vI h c 10 = tt) (b0 : 0 ≤ tf) (b1 : tf ≤ tt) (b2 : tt ≤ vI h (pg + 1) 1) (B1 : b = 0 → ¬ (vI h c 5 < 2 ∨ ¬ vI h c 6 = 0 ∨ ¬ vI h e 16 = 0)) (B2 : ¬ b = 0 → vI h c 5 < 2 ∨ ¬ vI h c 6 = 0 ∨ ¬ vI h e 16 = 0) : qi (f_Ed_change N e c h) (y_P L e pg (sf + 3) h (x_cE b (x_sl (vA h (pg + 2)) tf tt) lc LN O H A rd cy rp sm nx)) := by
  obtain ⟨⟨T, p1, p2, p3, p4, p5⟩, d, a1, a2, a3, a4, a5⟩ := id s
  have ks := y_kr ly d.1
  have d1 := d.1
  unfold f_Ed_change x_cE
  refine l_gR T p1 (l_gO (qi_b (y_em (N := N) T ks.1) ?_))
  rintro h1 ⟨T1, f1, i1, w1⟩
  have s1 : y_S L e pg (sf + 3) π h1 sp ho dr O [] H A := y_S_S s T1 (fun b b1 _ => f1 b b1) ⟨w1, by rw [i1]; decide, x_kt_0⟩
  have F1 : y_F e h h1 := fun a ha => f1 a (by omega)
  have I1 : ∀ k, vI h1 e k = vI h e k := fun k => x_vI_c (f1 e (by omega))
  have n1 := y_N_c n I1
  have C : ∀ k, vI h1 c k = vI h c k := fun k => x_vI_c (f1 c (by omega))
  have G0 : b = 0 → qi (f_Ed_change_48 N e h1) (y_P L e pg (sf + 3) h (if b = 0 then x_rE (x_ec 0 lc LN O [] A rd) H A rd cy rp sm nx else if O.length + (x_sl (vA h (pg + 2)) tf tt).length + 1 ≤ 600 then x_rE (x_ec 0 lc LN (O ++ x_sl (vA h (pg + 2)) tf tt ++ [10]) [] A rd) H A rd cy rp sm nx else (0, O, [], H, A, rd, cy, rp, sm, nx, 0))) := by
    intro z
    rw [if_pos z]
    refine qi_mono (y_c48 (N := N) es kf ly s1 n1 (y_LN_f es ll F1) (by rw [I1, hl]) r0 rl) ?_
    exact fun r p => y_P_tr F1 ⟨I1 4, I1 12⟩ p
  have G1 : ¬ b = 0 → qi (f_Ed_change_29 N e c h1) (y_P L e pg (sf + 3) h (if b = 0 then x_rE (x_ec 0 lc LN O [] A rd) H A rd cy rp sm nx else if O.length + (x_sl (vA h (pg + 2)) tf tt).length + 1 ≤ 600 then x_rE (x_ec 0 lc LN (O ++ x_sl (vA h (pg + 2)) tf tt ++ [10]) [] A rd) H A rd cy rp sm nx else (0, O, [], H, A, rd, cy, rp, sm, nx, 0))) := by
    intro z
    rw [if_neg z]
    unfold f_Ed_change_29
    have rt1 : y_R1 h1 (pg + 1) 240 TX := y_R1_c rt (f1 _ (by omega)) (f1 _ (by omega))
    have TR := y_tR (N := N) (o := pg + 1) (v2 := tf) (v3 := tt) ly s1 (e_Prog_0 T1 kp) (by omega) rt1 (by decide) b0 b1 (by rw [x_vI_c (f1 (pg + 1) (by omega))]; exact b2)
    rw [show pg + 1 + 1 = pg + 2 from rfl, x_vA_c (f1 (pg + 2) (by omega))] at TR
    rw [x_sl_len]
    refine l_gR T1 p4 (l_gR T1 (d_Prog_0 T1 kp) (l_gI (e := tf) (by rw [C, htf]) (l_gI (e := tt) (by rw [C, htt]) (l_gO (qi_b TR ?_)))))
    rintro ⟨y, h2⟩ (⟨q1, q2, s2, F2, I2⟩ | ⟨q1, q2, q3⟩)
    · dsimp only at q1 s2 F2 I2 ⊢
      rw [if_pos q2]
      refine qi_zx (fun x _ => ?_) (fun E eE => by rw [q1] at eE; cases eE)
      refine qi_mono (y_c48 (N := N) es kf ly s2 (y_N_c n1 I2) (y_LN_f es ll (y_F_t F1 F2)) (by rw [I2, I1, hl]) r0 rl) ?_
      exact fun r p => y_P_tr (y_F_t F1 F2) ⟨by rw [I2, I1], by rw [I2, I1]⟩ p
    · dsimp only at q1 q3 ⊢
      rw [if_neg q2]
      refine qi_zx (fun x ex => by rw [q1] at ex; cases ex) (fun E eE => ?_)
      rw [q1] at eE
      cases eE
      rw [q3]
      exact y_P0 n F1 I1 s1 rfl
  refine l_gI (e := vI h c 5) (C 5) ?_
  refine qi_if (fun c1 => ?_) (fun c1 => ?_)
  · exact G1 (fun z => B1 z (Or.inl c1))
  · refine l_gI (e := vI h c 6) (C 6) ?_
    refine qi_if (fun c2 => ?_) (fun c2 => ?_)
    · refine l_gI (e := vI h e 16) (I1 16) ?_
      refine qi_if (fun c3 => ?_) (fun c3 => ?_)
      · exact G0 (Classical.byContradiction fun z => (B2 z).elim c1 (fun w => w.elim (fun w => w c2) (fun w => w c3)))
      · exact G1 (fun z => B1 z (Or.inr (Or.inr c3)))
    · exact G1 (fun z => B1 z (Or.inr (Or.inl c2)))
set_option maxHeartbeats 2000000 in
theorem y_x18 {c : Nat} {tf tt cp v2 : Int32} {k2 : Nat → Nat → Int32 → z_H → Option z_H} {Q : z_H → Prop} (hpg : e + 16 ≤ pg) (ly : y_L L e) (T : x_U L π h) (p1 : π e 1 = some sp) (p4 : π e 10 = some pg) (d1 : sp = e + 3 ∨ sp = e + 5 ∨ sp = e + 14) (kp : qκ L pg = 10) (hc : pg + 9 ≤ c) (v20 : 0 ≤ v2) (htf : vI h c 9 = tf) (htt : vI h c 10 = tt) (hcp : vI h c 11 = cp) (nt : vI h (pg + 1) 1 ≤ 240) (b0 : 0 ≤ tf) (b1 : tf ≤ tt) (b2 : tt ≤ vI h (pg + 1) 1) (b3 : 0 ≤ cp) (b4 : cp + (tt - tf) ≤ vI h (pg + 1) 1) (b5 : cp ≤ 1000) (tk : ∀ j, 0 ≤ j → j < vI h (pg + 1) 1 → x_kc (vA h (pg + 2) j)) (K : ∀ h1, x_U L π h1 → (∀ b, b ≠ sp + 1 → h1 b = h b) → (∀ j, 0 ≤ j → vA h1 (sp + 1) j = if j = v2 then x_ym (vA h (pg + 2)) tf tt cp (vA h (sp + 1) v2) else vA h (sp + 1) j) → qi (k2 e c (v2 + 1) h1) Q) : ∀ (m : Nat) (p : Int32), tf ≤ p → p ≤ tt → x_ym (vA h (pg + 2)) tf tt cp (vA h (sp + 1) v2) = x_yr (vA h (pg + 2)) cp tf (x_ct p tt) p (vA h (sp + 1) v2) → qi (f_Ed_exchange_18 N k2 m e c v2 p h) Q := by
  have ks := y_kr ly d1
  have kt := e_Prog_0 T kp
  intro m
  induction m with
  | zero => intro p _ _ _ r e; rw [f_Ed_exchange_18] at e; cases e
  | succ m ih =>
    intro p p0 p1' EY
    rw [f_Ed_exchange_18]
    refine l_gI (e := tt) htt ?_
    refine qi_if (fun c1 => ?_) (fun c1 => ?_)
    · unfold f_Ed_exchange_55
      refine l_gI (e := tt) htt ?_
      rw [if_pos c1]
      refine qi_bs (K h T (fun _ _ => rfl) (fun j j0 => ?_))
      by_cases z : j = v2
      · rw [if_pos z, z, EY, x_ct0 c1 (by lia) (by lia), x_yr]
      · rw [if_neg z]
    · have cl := Int32.not_le.mp c1
      refine l_gR T p4 (l_gR T (d_Prog_0 T kp) (l_gO (qi_b (y_at (N := N) (r := pg + 1) (v := p) T kt) ?_)))
      rintro ⟨y, h1⟩ ⟨e1, q⟩
      dsimp only at e1 q ⊢
      subst e1
      have ey : y = vA h1 (pg + 2) p := by
        rcases q with q | q
        · exact q.2.2
        · exact absurd ⟨by lia, by lia⟩ q.1
      refine l_gR T p1 (l_gR T (d_Row_0 T ks.1) (l_aI (e := vA h1 (sp + 1) v2) (fun _ => rfl) (fun _ => ?_)))
      rw [x_ct1 cl (by lia), x_yr, ← ey] at EY
      refine qi_if (fun c2 => ?_) (fun c2 => ?_)
      · rw [if_pos c2] at EY
        unfold f_Ed_exchange_55
        refine l_gI (e := tt) htt ?_
        rw [if_neg c1]
        refine l_gR T p1 (l_gR T (d_Row_0 T ks.1) (l_gR T p4 (l_gR T (d_Prog_0 T kp) (l_gI (e := cp) hcp (l_gI (e := tf) htf (l_gO (qi_b (y_at (N := N) (r := pg + 1) (v := cp + p - tf) T kt) ?_)))))))
        rintro ⟨y3, h3⟩ ⟨e3, q3⟩
        dsimp only at e3 q3 ⊢
        subst e3
        have e3 : y3 = vA h3 (pg + 2) (cp + p - tf) := by
          rcases q3 with q | q
          · exact q.2.2
          · exact absurd ⟨by lia, by lia⟩ q.1
        have kc := x_kc_r (tk (cp + p - tf) (by lia) (by lia))
        refine l_uIc T ?_
        intro h4 T4 j4 c4 u4
        refine qi_bs (K h4 T4 c4 (fun j j0 => ?_))
        rw [u4 j j0, e3, x_nar2 kc.1 kc.2, EY]
      · rw [if_neg c2] at EY
        exact qi_bs (ih (p + 1) (by lia) (by lia) EY)
set_option maxHeartbeats 2000000 in
theorem y_x2 {c : Nat} {tf tt cp n : Int32} {f : Int32 → Int32} (hpg : e + 16 ≤ pg) (ly : y_L L e) (p1 : π e 1 = some sp) (p4 : π e 10 = some pg) (d1 : sp = e + 3 ∨ sp = e + 5 ∨ sp = e + 14) (kp : qκ L pg = 10) (hc : pg + 9 ≤ c) (n60 : n ≤ 60) {h0 : z_H} (htf : vI h0 c 9 = tf) (htt : vI h0 c 10 = tt) (hcp : vI h0 c 11 = cp) (nt : vI h0 (pg + 1) 1 ≤ 240) (b0 : 0 ≤ tf) (b1 : tf ≤ tt) (b2 : tt ≤ vI h0 (pg + 1) 1) (b3 : 0 ≤ cp) (b4 : cp + (tt - tf) ≤ vI h0 (pg + 1) 1) (b5 : cp ≤ 1000) (tk : ∀ j, 0 ≤ j → j < vI h0 (pg + 1) 1 → x_kc (vA h0 (pg + 2) j)) : ∀ (m : Nat) (i : Int32) (h : z_H), x_U L π h → (∀ b, b ≠ sp + 1 → h b = h0 b) → vI h0 sp 1 = n → 0 ≤ i → i ≤ n → (∀ j, 0 ≤ j → j < i → vA h (sp + 1) j = x_ym (vA h0 (pg + 2)) tf tt cp (f j)) → (∀ j, i ≤ j → vA h (sp + 1) j = f j) → qi (f_Ed_exchange_2 N m e c i h) (fun r => x_U L π r ∧ (∀ b, b ≠ sp + 1 → r b = h0 b) ∧ ∀ j, 0 ≤ j → j < n → vA r (sp + 1) j = x_ym (vA h0 (pg + 2)) tf tt cp (f j)) := by
  intro m
  induction m with
  | zero => intro i h T F hn i0 i1 H1 H2 r e; rw [f_Ed_exchange_2] at e; cases e
  | succ m ih =>
    intro i h T F hn i0 i1 H1 H2
    have C : ∀ k, vI h c k = vI h0 c k := fun k => x_vI_c (F c (by omega))
    have P1 : vI h (pg + 1) 1 = vI h0 (pg + 1) 1 := x_vI_c (F _ (by omega))
    have P2 : vA h (pg + 2) = vA h0 (pg + 2) := x_vA_c (F _ (by omega))
    rw [f_Ed_exchange_2]
    refine l_gR T p1 (l_gI (e := n) (by rw [x_vI_c (F sp (by omega)), hn]) ?_)
    refine qi_if (fun c1 => ?_) (fun c1 => ?_)
    · exact qi_some ⟨T, F, fun j j0 j1 => H1 j j0 (Int32.lt_of_lt_of_le j1 c1)⟩
    · have cl := Int32.not_le.mp c1
      refine l_gI (e := tf) (by rw [C, htf]) ?_
      refine y_x18 (N := N) (tf := tf) (tt := tt) (cp := cp) hpg ly T p1 p4 d1 kp hc i0 (by rw [C, htf]) (by rw [C, htt]) (by rw [C, hcp]) (by rw [P1]; exact nt) b0 b1 (by rw [P1]; exact b2) b3 (by rw [P1]; exact b4) b5 (by rw [P1, P2]; exact tk) ?_ N tf (Int32.le_refl _) b1 rfl
      intro h1 T1 f1 u1
      rw [P2, H2 i (Int32.le_refl _)] at u1
      refine ih (i + 1) h1 T1 (fun b hb => (f1 b hb).trans (F b hb)) hn (by lia) (by lia) (fun j j0 j1 => ?_) (fun j j0 => ?_)
      · rw [u1 j j0]
        by_cases z : j = i
        · rw [if_pos z, z]
        · rw [if_neg z]; exact H1 j j0 (by lia)
      · rw [u1 j (by lia), if_neg (by lia)]; exact H2 j (by lia)
theorem x_yr_k {tx : Int32 → Int32} {cp tf tt N : Int32} (tk : ∀ j, 0 ≤ j → j < N → x_kc (tx j)) (b0 : 0 ≤ tf) (b3 : 0 ≤ cp) (b4 : cp + (tt - tf) ≤ N) (b5 : cp ≤ 1000) (b6 : tt ≤ 240) : ∀ (m : Nat) (p c : Int32), x_kc c → tf ≤ p → p ≤ tt → m = x_ct p tt → x_kc (x_yr tx cp tf m p c) := by
  intro m
  induction m with
  | zero => intro p c k _ _ _; rw [x_yr]; exact k
  | succ m ih =>
    intro p c k p0 p1 em
    rw [x_yr]
    have lt : p < tt := by
      refine Int32.not_le.mp fun z => ?_
      rw [x_ct0 z (by lia) (by lia)] at em
      cases em
    by_cases z : tx p = c
    · rw [if_pos z]; exact tk _ (by lia) (by lia)
    · rw [if_neg z]
      rw [x_ct1 lt (by lia)] at em
      exact ih (p + 1) c k (by lia) (by lia) (by omega)
theorem y_py {c : Nat} {tf tt cp : Int32} {TX : List Int32} (hpg : e + 16 ≤ pg) (ly : y_L L e) (s : y_S L e pg ln π h sp ho dr O S H A) (n : y_N h e rd cy rp sm nx) (kp : qκ L pg = 10) (hc : pg + 9 ≤ c) (rt : y_R1 h (pg + 1) 240 TX) (htf : vI h c 9 = tf) (htt : vI h c 10 = tt) (hcp : vI h c 11 = cp) (b0 : 0 ≤ tf) (b1 : tf ≤ tt) (b2 : tt ≤ vI h (pg + 1) 1) (b3 : 0 ≤ cp) (b4 : cp + (tt - tf) ≤ vI h (pg + 1) 1) (b5 : cp ≤ 1000) : qi (f_Ed_exchange N e c h) (fun r => y_P L e pg ln h (1, O, S.map (x_ym (vA h (pg + 2)) tf tt cp), H, A, rd, cy, rp, sm, nx, 0) (.inl (), r)) := by
  obtain ⟨⟨T, p1, p2, p3, p4, p5⟩, d, a1, a2, a3, a4, a5⟩ := id s
  have d1 := d.1
  have tkk := rt.2.2
  rw [← rt.1] at tkk
  have tk := x_kt_g (Int32.le_refl 0) rt.2.1.1 tkk
  have nt := rt.2.1.2
  unfold f_Ed_exchange
  refine qi_mono (y_x2 (N := N) (f := vA h (sp + 1)) hpg ly p1 p4 d1 kp hc a2.2.1.2 htf htt hcp nt b0 b1 b2 b3 b4 b5 tk N 0 h T (fun _ _ => rfl) rfl (Int32.le_refl 0) a2.2.1.1 (fun j j0 j1 => absurd (Int32.lt_of_le_of_lt j0 j1) Int32.lt_irrefl) (fun _ _ => rfl)) ?_
  rintro r ⟨T1, F1, H1⟩
  have i1 : vI r sp 1 = vI h sp 1 := x_vI_c (F1 sp (by omega))
  have E1 : x_rw r sp = S.map (x_ym (vA h (pg + 2)) tf tt cp) := by
    unfold x_rw
    rw [i1, x_sl_e (g := fun j => x_ym (vA h (pg + 2)) tf tt cp (vA h (sp + 1) j)) (Int32.le_refl 0) a2.2.1.1 H1, x_sl_map]
    exact congrArg _ a2.1
  have s1 : y_S L e pg ln π r sp ho dr O (S.map (x_ym (vA h (pg + 2)) tf tt cp)) H A := by
    refine y_S_S s T1 (fun b _ b2 => F1 b b2) ⟨E1, by rw [i1]; exact a2.2.1, ?_⟩
    intro c' hc'
    obtain ⟨c0, m0, e0⟩ := List.mem_map.mp hc'
    rw [← e0]
    exact x_yr_k (N := vI h (pg + 1) 1) tk b0 b3 b4 b5 (by lia) _ tf c0 (a2.2.2 c0 m0) (Int32.le_refl _) b1 rfl
  exact y_P1 n (fun a ha => F1 a (by omega)) (fun k => x_vI_c (F1 e (by omega))) s1 rfl
end Y7
