/-! reference: lines, the end of a cycle -/
/-- the numbers of a run -/
def r_N (h : z_H) (v0 : Nat) (rd cy rp sm : Int32) : Prop := vI h v0 70 = rd ∧ vI h v0 72 = cy ∧ vI h v0 73 = rp ∧ vI h v0 74 = sm ∧ vI h v0 76 = 0
/-- what a command of the reference leaves; y: the next one -/
def r_P (L : q_L) (π : Nat → Nat → Option Nat) (v0 : Nat) (h : z_H) (E : x_TT) (y : Int32) (h2 : z_H) : Prop := r_F v0 h h2 ∧ vI h2 v0 71 = vI h v0 71 ∧ ∃ A', r_S L π v0 h2 (x_O E) (x_S8 E) (x_H8 E) A' ∧ (vI h2 v0 70 = x_rd E ∧ vI h2 v0 72 = x_cy E ∧ vI h2 v0 73 = x_rp E) ∧ ((E.1 = 0 ∧ vI h2 v0 76 = 1 ∧ vI h2 v0 6 = 2) ∨ (E.1 = 1 ∧ vI h2 v0 76 = x_ov E ∧ vI h2 v0 6 = vI h v0 6 ∧ (x_ov E = 0 → A' = x_A8 E ∧ vI h2 v0 74 = x_sm E ∧ y = x_nx E)))
/-- the lines of the reference -/
def r_LN (h : z_H) (v0 : Nat) (lc : Int32) (LN : Int32 → List Int32) : Prop := (0 ≤ lc ∧ lc ≤ 12 ∧ vI h v0 4 = lc) ∧ ∀ j, 0 ≤ j → j < lc → (0 ≤ vA h (v0 + 2) j ∧ vA h (v0 + 2) j ≤ 24) ∧ x_sl (fun i => vA h (v0 + 3) (24 * j + i)) 0 (vA h (v0 + 2) j) = LN j ∧ x_kt (LN j)
section R4
variable {L : q_L} {π : Nat → Nat → Option Nat} {N v0 : Nat} {h h1 : z_H} {O S H A W : List Int32} {LN : Int32 → List Int32} {lc rd cy rp sm nx : Int32}
theorem r_LN_f (l : r_LN h v0 lc LN) (F : r_F v0 h h1) : r_LN h1 v0 lc LN := by
  unfold r_LN
  rw [F.2 4 (by decide) (by decide), x_vA_c (F.1 (v0 + 2) (by omega) (by omega)), x_vA_c (F.1 (v0 + 3) (by omega) (by omega))]
  exact l
theorem r_N_c (n : r_N h v0 rd cy rp sm) (I : r_In h h1 v0) (o : vI h1 v0 76 = vI h v0 76) : r_N h1 v0 rd cy rp sm := ⟨(I 70 (by decide) (by decide)).trans n.1, (I 72 (by decide) (by decide)).trans n.2.1, (I 73 (by decide) (by decide)).trans n.2.2.1, (I 74 (by decide) (by decide)).trans n.2.2.2.1, o.trans n.2.2.2.2⟩
/-- full -/
theorem r_P0 {O' S' H' A' A0 : List Int32} {ov y : Int32} (n : r_N h v0 rd cy rp sm) (F : r_F v0 h h1) (I : r_In h h1 v0) (s : r_S L π v0 h1 O' S' H' A') (q : vI h1 v0 76 = 1 ∧ vI h1 v0 6 = 2) : r_P L π v0 h (0, O', S', H', A0, rd, cy, rp, sm, nx, ov) y h1 := ⟨F, I 71 (by decide) (by decide), A', s, ⟨(I 70 (by decide) (by decide)).trans n.1, (I 72 (by decide) (by decide)).trans n.2.1, (I 73 (by decide) (by decide)).trans n.2.2.1⟩, Or.inl ⟨rfl, q⟩⟩
theorem r_P1 {O' S' H' A' : List Int32} (n : r_N h v0 rd cy rp sm) (F : r_F v0 h h1) (I : r_In h h1 v0) (s : r_S L π v0 h1 O' S' H' A') (q : vI h1 v0 76 = vI h v0 76 ∧ vI h1 v0 6 = vI h v0 6) : r_P L π v0 h (1, O', S', H', A', rd, cy, rp, sm, nx, 0) nx h1 := ⟨F, I 71 (by decide) (by decide), A', s, ⟨(I 70 (by decide) (by decide)).trans n.1, (I 72 (by decide) (by decide)).trans n.2.1, (I 73 (by decide) (by decide)).trans n.2.2.1⟩, Or.inr ⟨rfl, q.1.trans n.2.2.2.2, q.2, fun _ => ⟨rfl, (I 74 (by decide) (by decide)).trans n.2.2.2.1, rfl⟩⟩⟩
theorem r_T_P {r : Int32 × z_H} (n : r_N h v0 rd cy rp sm) (p : r_T L π v0 h O S H A W r) : r_P L π v0 h (x_tE W O S H A rd cy rp sm nx) nx r.2 := by
  obtain ⟨s, F, I, B⟩ := p
  unfold x_tE
  rcases B with ⟨_, b2, b3, b4⟩ | ⟨_, b2, b3, b4⟩
  · rw [if_pos b2] at s ⊢
    exact r_P1 n F I s ⟨b3, b4⟩
  · rw [if_neg b2] at s ⊢
    exact r_P0 n F I s ⟨b3, b4⟩
theorem r_P_tr {E : x_TT} {y : Int32} {h2 : z_H} (F : r_F v0 h h1) (I : vI h1 v0 71 = vI h v0 71) (T6 : vI h1 v0 6 = vI h v0 6) (p : r_P L π v0 h1 E y h2) : r_P L π v0 h E y h2 := by
  obtain ⟨F2, i71, A', s, i3, q⟩ := p
  refine ⟨r_F_t F F2, i71.trans I, A', s, i3, ?_⟩
  rcases q with q | ⟨q1, q2, q3, q4⟩
  · exact Or.inl q
  · exact Or.inr ⟨q1, q2, q3.trans T6, q4⟩
theorem r_rL15 {n j : Int32} {h0 : z_H} (M : q_M L π v0) (n24 : n ≤ 24) : ∀ (m : Nat) (i : Int32) (h : z_H), x_U L π h → (∀ b, b ≠ v0 + 39 → h b = h0 b) → vI h0 v0 65 = n → vI h0 v0 70 = j → 0 ≤ i → i ≤ n → (∀ k, 0 ≤ k → k < i → vA h (v0 + 39) k = vA h0 (v0 + 3) (24 * j + k)) → qi (f_Mod_readLine_15 N m v0 i h) (fun r => x_U L π r ∧ (∀ b, b ≠ v0 → b ≠ v0 + 39 → r b = h0 b) ∧ (∀ k, vI r v0 k = if k = 70 then j + 1 else vI h0 v0 k) ∧ ∀ k, 0 ≤ k → k < n → vA r (v0 + 39) k = vA h0 (v0 + 3) (24 * j + k)) := by
  intro m
  induction m with
  | zero => intro i h _ _ _ _ _ _ _ r e; rw [f_Mod_readLine_15] at e; cases e
  | succ m ih =>
    intro i h T F e65 e70 i0 i1 Hc
    have V : ∀ k, vI h v0 k = vI h0 v0 k := fun k => x_vI_c (F v0 (by omega))
    rw [f_Mod_readLine_15]
    refine l_gI (e := n) (by rw [V, e65]) ?_
    refine qi_if (fun c => ?_) (fun c => ?_)
    · refine l_gI (e := j) (by rw [V, e70]) (l_sIc T M.1 (by decide) rfl ?_)
      intro h2 T2 c2 u2
      exact qi_some ⟨T2, fun b b1 b2 => (c2 b b1).trans (F b b2), fun k => by rw [u2 k, V], fun k k0 k1 => by rw [x_vA_c (c2 (v0 + 39) (by omega))]; exact Hc k k0 (Int32.lt_of_lt_of_le k1 c)⟩
    · have cl := Int32.not_le.mp c
      refine l_gR T (d_Mo_58 M) (l_gR T (d_Mo_2 M) (l_gI (e := j) (by rw [V, e70]) (l_aI (e := vA h0 (v0 + 3) (24 * j + i)) (fun _ => by rw [x_vA_c (F (v0 + 3) (by omega))]) (fun _ => l_uIc T ?_))))
      intro h2 T2 j2 c2 u2
      refine qi_bs (ih (i + 1) h2 T2 (fun b hb => (c2 b hb).trans (F b hb)) e65 e70 (by lia) (by lia) (fun k k0 k1 => ?_))
      rw [u2 k k0]
      by_cases z : k = i
      · rw [if_pos z, z]
      · rw [if_neg z]; exact Hc k k0 (by lia)
/-- the next line comes into the space -/
theorem r_rL (s : r_S L π v0 h O S H A) (ll : r_LN h v0 lc LN) (hr : vI h v0 70 = rd) (r0 : 0 ≤ rd) (rl : rd < lc) : qi (f_Mod_readLine N v0 h) (fun r => r_S L π v0 r O (LN rd) H A ∧ r_F v0 h r ∧ ∀ k, k ≠ 65 → vI r v0 k = if k = 70 then rd + 1 else vI h v0 k) := by
  obtain ⟨⟨T, M⟩, a1, a2, a3, a4⟩ := id s
  obtain ⟨⟨l0, l1⟩, l2, l3⟩ := ll.2 rd r0 rl
  unfold f_Mod_readLine
  refine l_gR T (d_Mo_1 M) (l_gI (e := rd) hr (l_aI (e := vA h (v0 + 2) rd) (fun _ => rfl) (fun _ => l_sIc T M.1 (by decide) rfl ?_)))
  intro h1 T1 c1 u1
  have e65 : vI h1 v0 65 = vA h (v0 + 2) rd := by rw [u1 65, if_pos rfl]
  have e70 : vI h1 v0 70 = rd := by rw [u1 70, if_neg (by decide), hr]
  refine qi_mono (r_rL15 (N := N) M l1 N 0 h1 T1 (fun _ _ => rfl) e65 e70 (Int32.le_refl 0) l0 (fun k k0 k1 => absurd (Int32.lt_of_le_of_lt k0 k1) Int32.lt_irrefl)) ?_
  rintro r ⟨T2, F2, I2, H2⟩
  rw [x_vA_c (c1 (v0 + 3) (by omega))] at H2
  have C : ∀ b, b ≠ v0 → b ≠ v0 + 39 → r b = h b := fun b b1 b2 => (F2 b b1 b2).trans (c1 b b1)
  have J : ∀ k, k ≠ 65 → vI r v0 k = if k = 70 then rd + 1 else vI h v0 k := fun k hk => by rw [I2 k, u1 k, if_neg hk]
  have r65 : vI r v0 65 = vA h (v0 + 2) rd := by rw [I2 65, if_neg (by decide), e65]
  refine ⟨⟨⟨T2, M⟩, r_R1_c a1 (J 69 (by decide)) (C _ (by omega) (by omega)), ⟨?_, by rw [r65]; exact ⟨l0, Int32.le_trans l1 (by decide)⟩, l3⟩, r_R1_c a3 (J 66 (by decide)) (C _ (by omega) (by omega)), r_R1_c a4 (J 68 (by decide)) (C _ (by omega) (by omega))⟩, ⟨fun a ha hn => C a hn (by omega), fun k hk hn => by rw [J k (by omega), if_neg (by omega)]⟩, J⟩
  unfold r_l
  rw [r65, ← l2]
  exact x_sl_e (Int32.le_refl 0) l0 H2
/-- behind what a cycle tells -/
theorem r_e24 {h0 : z_H} (s : r_S L π v0 h O S H []) (n : r_N h v0 rd cy rp sm) (ll : r_LN h v0 lc LN) (r0 : 0 ≤ rd) (rl : rd ≤ lc) (F : r_F v0 h0 h) (I : vI h v0 71 = vI h0 v0 71) (T6 : vI h v0 6 = vI h0 v0 6) : qi (f_Mod_endCycle_24 N v0 1 h) (fun r => r_P L π v0 h0 (if rd = lc then (1, O, S, H, [], rd, cy, rp, sm, nx, 1) else (1, O, LN rd, H, [], rd + 1, cy + 1, rp, 0, 0, 0)) r.1 r.2) := by
  obtain ⟨⟨T, M⟩, a1, a2, a3, a4⟩ := id s
  unfold f_Mod_endCycle_24
  rw [if_neg (by decide)]
  refine l_gI (e := rd) n.1 (l_gI (e := lc) ll.1.2.2 ?_)
  refine qi_if (fun c => ?_) (fun c => ?_)
  · rw [if_pos c]
    refine l_sIc T M.1 (by decide) rfl ?_
    intro h1 T1 c1 u1
    have J : ∀ k, k ≠ 76 → vI h1 v0 k = vI h v0 k := fun k hk => by rw [u1 k, if_neg hk]
    exact qi_some ⟨r_F_t F ⟨fun a _ hn => c1 a hn, fun k hk _ => J k (by omega)⟩, by rw [J 71 (by decide), I], [], ⟨⟨T1, M⟩, r_R1_c a1 (J 69 (by decide)) (c1 _ (by omega)), r_R1_c a2 (J 65 (by decide)) (c1 _ (by omega)), r_R1_c a3 (J 66 (by decide)) (c1 _ (by omega)), r_R1_c a4 (J 68 (by decide)) (c1 _ (by omega))⟩, ⟨by rw [J 70 (by decide)]; exact n.1, by rw [J 72 (by decide)]; exact n.2.1, by rw [J 73 (by decide)]; exact n.2.2.1⟩, Or.inr ⟨rfl, by rw [u1 76, if_pos rfl], by rw [J 6 (by decide), T6], fun z => absurd (show (1 : Int32) = 0 from z) (by decide)⟩⟩
  · rw [if_neg c]
    refine l_gO (qi_b (r_rL (N := N) s ll n.1 r0 (by lia)) ?_)
    rintro h1 ⟨s1, F1, J1⟩
    obtain ⟨⟨T1, _⟩, b1, b2, b3, b4⟩ := id s1
    refine l_gI (e := cy) (by rw [J1 72 (by decide)]; exact n.2.1) (l_sIc T1 M.1 (by decide) rfl ?_)
    intro h2 T2 c2 u2
    refine l_sIc T2 M.1 (by decide) rfl ?_
    intro h3 T3 c3 u3
    have C : ∀ b, b ≠ v0 → h3 b = h1 b := fun b hb => (c3 b hb).trans (c2 b hb)
    have J : ∀ k, vI h3 v0 k = if k = 74 then 0 else if k = 72 then cy + 1 else vI h1 v0 k := fun k => by rw [u3 k, u2 k]
    have J' : ∀ k, k ≠ 74 → k ≠ 72 → vI h3 v0 k = vI h1 v0 k := fun k k1 k2 => by rw [J k, if_neg k1, if_neg k2]
    exact qi_some ⟨r_F_t F (r_F_t F1 ⟨fun a _ hn => C a hn, fun k hk _ => J' k (by omega) (by omega)⟩), by rw [J' 71 (by decide) (by decide), J1 71 (by decide)]; exact I, [], ⟨⟨T3, M⟩, r_R1_c b1 (J' 69 (by decide) (by decide)) (C _ (by omega)), r_R1_c b2 (J' 65 (by decide) (by decide)) (C _ (by omega)), r_R1_c b3 (J' 66 (by decide) (by decide)) (C _ (by omega)), r_R1_c b4 (J' 68 (by decide) (by decide)) (C _ (by omega))⟩, ⟨by rw [J' 70 (by decide) (by decide), J1 70 (by decide)]; rfl, by rw [J 72]; rfl, by rw [J' 73 (by decide) (by decide), J1 73 (by decide)]; exact n.2.2.1⟩, Or.inr ⟨rfl, by rw [J' 76 (by decide) (by decide), J1 76 (by decide)]; exact n.2.2.2.2, by rw [J' 6 (by decide) (by decide), J1 6 (by decide)]; exact T6, fun _ => ⟨rfl, by rw [J 74]; rfl, rfl⟩⟩⟩
theorem r_eC12 {h0 : z_H} (s : r_S L π v0 h O S H A) (e10 : x_a10 A) (n : r_N h v0 rd cy rp sm) (ll : r_LN h v0 lc LN) (r0 : 0 ≤ rd) (rl : rd ≤ lc) (F : r_F v0 h0 h) (I : vI h v0 71 = vI h0 v0 71) (T6 : vI h v0 6 = vI h0 v0 6) : qi (f_Mod_endCycle_12 N v0 h) (fun r => r_P L π v0 h0 (x_rE (x_e2 lc LN O S A rd) H A rd cy rp sm nx) r.1 r.2) := by
  unfold f_Mod_endCycle_12
  refine l_gO (qi_b (r_tA (N := N) s e10) ?_)
  rintro ⟨y, h1⟩ ⟨s1, F1, I1, B1⟩
  dsimp only at s1 F1 I1 B1 ⊢
  rcases B1 with ⟨y1, y2, y3, y4⟩ | ⟨y1, y2, y3, y4⟩
  · rw [y1, if_neg (by decide)]
    have nz : ¬ (x_ta O [] A).2 = 0 := by rw [y2]; decide
    have t := r_e24 (N := N) (nx := nx) s1 (r_N_c n I1 y3) (r_LN_f ll F1) r0 rl (r_F_t F F1) ((I1 71 (by decide) (by decide)).trans I) (y4.trans T6)
    by_cases c : rd = lc
    · have e2 : x_rE (x_e2 lc LN O S A rd) H A rd cy rp sm nx = (1, (x_ta O [] A).1, S, H, [], rd, cy, rp, sm, nx, 1) := by
        unfold x_e2
        rw [if_neg nz, if_pos c]
        rfl
      rw [if_pos c] at t
      rw [e2]
      exact t
    · have e2 : x_rE (x_e2 lc LN O S A rd) H A rd cy rp sm nx = (1, (x_ta O [] A).1, LN rd, H, [], rd + 1, cy + 1, rp, 0, 0, 0) := by
        unfold x_e2
        rw [if_neg nz, if_neg c]
        rfl
      rw [if_neg c] at t
      rw [e2]
      exact t
  · have z0 : (x_ta O [] A).2 = 0 := (x_ta_2 A O []).resolve_right y2
    have e2 : x_rE (x_e2 lc LN O S A rd) H A rd cy rp sm nx = (0, (x_ta O [] A).1, S, H, A, rd, cy, rp, sm, nx, 0) := by
      unfold x_e2
      rw [if_pos z0]
      rfl
    rw [y1, if_pos rfl, e2]
    unfold f_Mod_endCycle_24
    rw [if_pos rfl]
    refine qi_some ?_
    have p := r_P0 (nx := nx) (ov := 0) (y := 0) (A0 := A) n F1 I1 s1 ⟨y3, y4⟩
    exact r_P_tr F I T6 p
theorem r_eC {sh : Int32} (s : r_S L π v0 h O S H A) (e10 : x_a10 A) (n : r_N h v0 rd cy rp sm) (ll : r_LN h v0 lc LN) (r0 : 0 ≤ rd) (rl : rd ≤ lc) : qi (f_Mod_endCycle N v0 sh h) (fun r => r_P L π v0 h (x_rE (x_ec sh lc LN O S A rd) H A rd cy rp sm nx) r.1 r.2) := by
  unfold f_Mod_endCycle x_ec
  refine qi_if (fun c => ?_) (fun c => ?_)
  · rw [if_pos c]
    exact r_eC12 (N := N) s e10 n ll r0 rl r_F_r rfl rfl
  · rw [if_neg c]
    refine l_gO (qi_b (r_tS (N := N) (part := 0) s) ?_)
    rw [if_pos rfl]
    rintro ⟨y, h1⟩ ⟨s1, F1, I1, B1⟩
    dsimp only at s1 F1 I1 B1 ⊢
    rcases B1 with ⟨y1, y2, y3, y4⟩ | ⟨y1, y2, y3, y4⟩
    · rw [if_pos y2] at s1 ⊢
      rw [y1, if_neg (by decide)]
      exact r_eC12 (N := N) s1 e10 (r_N_c n I1 y3) (r_LN_f ll F1) r0 rl F1 (I1 71 (by decide) (by decide)) y4
    · rw [if_neg y2] at s1 ⊢
      rw [y1, if_pos rfl]
      unfold f_Mod_endCycle_24 x_rE
      rw [if_pos rfl, if_pos rfl]
      exact qi_some (r_P0 n F1 I1 s1 ⟨y3, y4⟩)
end R4
