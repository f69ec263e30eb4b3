/-! reference: q, n, N, D -/
theorem x_qE_e {lc : Int32} {LN : Int32 → List Int32} {O S H A : List Int32} {rd cy rp sm nx : Int32} (c : rd = lc) : x_rE (x_ec 1 lc LN O S A rd) H A rd cy rp sm nx = x_qE O S H A rd cy rp sm nx := by
  unfold x_ec x_qE x_qt
  rw [if_neg (by decide)]
  by_cases c1 : O.length + S.length + 1 ≤ 600
  · rw [if_pos c1, if_pos c1]
    unfold x_e2
    by_cases c2 : (x_ta (O ++ S ++ [10]) [] A).2 = 0
    · rw [if_pos c2, if_pos c2]; rfl
    · rw [if_neg c2, if_neg c2, if_pos c]; rfl
  · rw [if_neg c1, if_neg c1]; rfl
theorem x_qE_o {O S H A : List Int32} {rd cy rp sm nx : Int32} : (x_qE O S H A rd cy rp sm nx).1 = 0 ∨ ((x_qE O S H A rd cy rp sm nx).1 = 1 ∧ x_ov (x_qE O S H A rd cy rp sm nx) = 1) := by
  unfold x_qE
  by_cases c : (x_qt O S A).1 = 0
  · rw [if_pos c]; exact Or.inl rfl
  · rw [if_neg c]; exact Or.inr ⟨rfl, rfl⟩
section R5
variable {L : q_L} {π : Nat → Nat → Option Nat} {N v0 : Nat} {h h1 : z_H} {O S H A : List Int32} {LN : Int32 → List Int32} {lc rd cy rp sm nx : Int32}
/-- it is over -/
theorem r_P_o {E : x_TT} {y y' : Int32} {h2 h3 : z_H} (M : q_M L π v0) (p : r_P L π v0 h E y h2) (o : E.1 = 0 ∨ (E.1 = 1 ∧ x_ov E = 1)) (T3 : x_U L π h3) (c3 : ∀ b, b ≠ v0 → h3 b = h2 b) (u3 : ∀ k, vI h3 v0 k = if k = 76 then 1 else vI h2 v0 k) : r_P L π v0 h E y' h3 := by
  obtain ⟨F, i71, A', ⟨⟨T2, _⟩, a1, a2, a3, a4⟩, ⟨i3, i5, i6⟩, q⟩ := p
  have J : ∀ k, k ≠ 76 → vI h3 v0 k = vI h2 v0 k := fun k hk => by rw [u3 k, if_neg hk]
  refine ⟨r_F_t F ⟨fun a _ hn => c3 a hn, fun k hk _ => J k (by omega)⟩, (J 71 (by decide)).trans i71, A', ⟨⟨T3, M⟩, r_R1_c a1 (J 69 (by decide)) (c3 _ (by omega)), r_R1_c a2 (J 65 (by decide)) (c3 _ (by omega)), r_R1_c a3 (J 66 (by decide)) (c3 _ (by omega)), r_R1_c a4 (J 68 (by decide)) (c3 _ (by omega))⟩, ⟨(J 70 (by decide)).trans i3, (J 72 (by decide)).trans i5, (J 73 (by decide)).trans i6⟩, ?_⟩
  have e76 : vI h3 v0 76 = 1 := by rw [u3 76, if_pos rfl]
  rcases o with o | ⟨o, o'⟩
  · rcases q with ⟨q1, q2, q3⟩ | ⟨q1, _⟩
    · exact Or.inl ⟨q1, e76, (J 6 (by decide)).trans q3⟩
    · rw [o] at q1; exact absurd q1 (by decide)
  · rcases q with ⟨q1, _⟩ | ⟨q1, q2, q3, q4⟩
    · rw [o] at q1; exact absurd q1 (by decide)
    · exact Or.inr ⟨q1, by rw [e76, o'], (J 6 (by decide)).trans q3, fun z => absurd (o'.symm.trans z) (by decide)⟩
theorem r_490 {E : x_TT} {y s0 : Int32} {h2 : z_H} (M : q_M L π v0) (p : r_P L π v0 h E y h2) (o : E.1 = 0 ∨ (E.1 = 1 ∧ x_ov E = 1)) : qi (f_Mod_perform_490 N v0 s0 h2) (fun r => r_P L π v0 h E r.1 r.2) := by
  obtain ⟨_, _, _, s2, _⟩ := id p
  unfold f_Mod_perform_490
  refine l_sIc s2.1.1 M.1 (by decide) rfl ?_
  intro h3 T3 c3 u3
  refine qi_if (fun _ => qi_some ?_) (fun _ => qi_some ?_)
  · exact r_P_o M p o T3 c3 u3
  · exact r_P_o M p o T3 c3 u3
/-- n: the next line takes the space's place -/
theorem r_pn {q v2 : Int32} (s : r_S L π v0 h O S H A) (e10 : x_a10 A) (n : r_N h v0 rd cy rp sm) (ll : r_LN h v0 lc LN) (r0 : 0 ≤ rd) (rl : rd ≤ lc) (hq : vA h (v0 + 4) q = 110) (en : nx = v2 + 1) : qi (f_Mod_nextLine N v0 q v2 h) (fun r => r_P L π v0 h (x_nE lc LN O S H A rd cy rp sm nx) r.1 r.2) := by
  obtain ⟨⟨T, M⟩, a1, a2, a3, a4⟩ := id s
  unfold f_Mod_nextLine x_nE
  refine l_gI (e := rd) n.1 (l_gI (e := lc) ll.1.2.2 ?_)
  refine qi_if (fun c => ?_) (fun c => ?_)
  · rw [if_pos c]
    refine l_gO (qi_b (r_eC (N := N) (sh := 1) (nx := nx) s e10 n ll r0 rl) ?_)
    rw [x_qE_e c]
    rintro ⟨y, h1⟩ p
    refine l_sIc p.2.2.choose_spec.1.1.1 M.1 (by decide) rfl ?_
    intro h3 T3 c3 u3
    exact qi_some (r_P_o M p x_qE_o T3 c3 u3)
  · rw [if_neg c]
    have rl' : rd < lc := by lia
    refine l_gR T (d_Mo_9 M) (l_aI (e := 110) (fun _ => hq) (fun _ => ?_))
    rw [if_pos rfl]
    refine l_gO (qi_b (r_tS (N := N) (part := 0) s) ?_)
    rw [if_pos rfl]
    rintro ⟨y, h1⟩ ⟨s1, F1, I1, B1⟩
    dsimp only at s1 F1 I1 B1 ⊢
    rcases B1 with ⟨y1, y2, y3, y4⟩ | ⟨y1, y2, y3, y4⟩
    · rw [if_pos y2] at s1 ⊢
      rw [y1, if_neg (by decide)]
      refine l_gO (qi_b (r_tA (N := N) s1 e10) ?_)
      rintro ⟨z, h2⟩ ⟨s2, F2, I2, B2⟩
      dsimp only at s2 F2 I2 B2 ⊢
      have F12 := r_F_t F1 F2
      have I12 : r_In h h2 v0 := fun k hk hn => (I2 k hk hn).trans (I1 k hk hn)
      rcases B2 with ⟨z1, z2, z3, z4⟩ | ⟨z1, z2, z3, z4⟩
      · have nz : ¬ (x_ta (O ++ S ++ [10]) [] A).2 = 0 := by rw [z2]; decide
        rw [z1, if_neg (by decide), if_neg nz]
        unfold f_Mod_nextLine_55 f_Mod_nextLine_64
        rw [if_neg (by decide)]
        have n2 := r_N_c (r_N_c n I1 y3) I2 z3
        refine l_gO (qi_b (r_rL (N := N) s2 (r_LN_f ll F12) n2.1 r0 rl') ?_)
        rintro h3 ⟨s3, F3, J3⟩
        refine qi_some ⟨r_F_t F12 F3, by rw [J3 71 (by decide)]; exact I12 71 (by decide) (by decide), [], s3, ⟨by rw [J3 70 (by decide)]; rfl, by rw [J3 72 (by decide)]; exact n2.2.1, by rw [J3 73 (by decide)]; exact n2.2.2.1⟩, Or.inr ⟨rfl, by rw [J3 76 (by decide)]; exact n2.2.2.2.2, by rw [J3 6 (by decide)]; exact z4.trans y4, fun _ => ⟨rfl, by rw [J3 74 (by decide)]; exact n2.2.2.2.1, en.symm⟩⟩⟩
      · have z0 : (x_ta (O ++ S ++ [10]) [] A).2 = 0 := (x_ta_2 A _ []).resolve_right z2
        rw [z1, if_pos rfl, if_pos z0]
        unfold f_Mod_nextLine_55 f_Mod_nextLine_64
        rw [if_pos rfl]
        exact qi_some (r_P0 n F12 I12 s2 ⟨z3, z4⟩)
    · rw [if_neg y2] at s1 ⊢
      rw [y1, if_pos rfl]
      unfold f_Mod_nextLine_55 f_Mod_nextLine_64
      rw [if_pos rfl]
      exact qi_some (r_P0 n F1 I1 s1 ⟨y3, y4⟩)
theorem r_n125 {n j v2 : Int32} {h0 : z_H} {Sl : List Int32} {l : Int32} (M : q_M L π v0) (n24 : n ≤ 24) (l0 : 0 ≤ l) (l60 : l + 1 + n ≤ 60) (l61 : l ≤ 60) : ∀ (m : Nat) (i : Int32) (h : z_H), x_U L π h → (∀ b, b ≠ v0 + 39 → h b = h0 b) → vI h0 v0 65 = l → vI h0 v0 70 = j → 0 ≤ i → i ≤ n → x_sl (vA h (v0 + 39)) 0 (l + 1 + i) = Sl ++ x_sl (fun k => vA h0 (v0 + 3) (24 * j + k)) 0 i → qi (f_Mod_nextLine_125 N m v0 v2 n i h) (fun r => r.1 = v2 + 1 ∧ x_U L π r.2 ∧ (∀ b, b ≠ v0 → b ≠ v0 + 39 → r.2 b = h0 b) ∧ (∀ k, vI r.2 v0 k = if k = 70 then j + 1 else if k = 65 then l + (n + 1) else vI h0 v0 k) ∧ r_l r.2 v0 65 39 = Sl ++ x_sl (fun k => vA h0 (v0 + 3) (24 * j + k)) 0 n) := by
  intro m
  induction m with
  | zero => intro i h _ _ _ _ _ _ _ r e; rw [f_Mod_nextLine_125] at e; cases e
  | succ m ih =>
    intro i h T F e65 e70 i0 i1 EQ
    have V : ∀ k, vI h v0 k = vI h0 v0 k := fun k => x_vI_c (F v0 (by omega))
    rw [f_Mod_nextLine_125]
    refine qi_if (fun c => ?_) (fun c => ?_)
    · have ei : i = n := Int32.le_antisymm i1 c
      subst ei
      refine l_gI (e := l) (by rw [V, e65]) (l_sIc T M.1 (by decide) rfl ?_)
      intro h2 T2 c2 u2
      refine l_gI (e := j) (by rw [u2 70, if_neg (by decide), V, e70]) (l_sIc T2 M.1 (by decide) rfl ?_)
      intro h3 T3 c3 u3
      have J : ∀ k, vI h3 v0 k = if k = 70 then j + 1 else if k = 65 then l + (i + 1) else vI h0 v0 k := fun k => by rw [u3 k, u2 k, V]
      refine qi_some ⟨rfl, T3, fun b b1 b2 => (c3 b b1).trans ((c2 b b1).trans (F b b2)), J, ?_⟩
      unfold r_l
      rw [J 65, if_neg (by decide), if_pos rfl, x_vA_c (c3 (v0 + 39) (by omega)), x_vA_c (c2 (v0 + 39) (by omega)), show l + (i + 1) = l + 1 + i from by grind, EQ]
    · have cl := Int32.not_le.mp c
      refine l_gR T (d_Mo_58 M) (l_gI (e := l) (by rw [V, e65]) (l_gR T (d_Mo_2 M) (l_gI (e := j) (by rw [V, e70]) (l_aI (e := vA h0 (v0 + 3) (24 * j + i)) (fun _ => by rw [x_vA_c (F (v0 + 3) (by omega))]) (fun _ => l_uIc T ?_)))))
      intro h2 T2 j2 c2 u2
      refine qi_bs (ih (i + 1) h2 T2 (fun b hb => (c2 b hb).trans (F b hb)) e65 e70 (by lia) (by lia) ?_)
      rw [show l + 1 + (i + 1) = l + 1 + i + 1 from by grind, x_sl_u (by lia) (by lia) u2, EQ, x_sl_q i0 (Int32.le_refl 0) (by lia), List.append_assoc]
/-- N: the next line comes to the space's end -/
theorem r_pN {q v2 : Int32} (s : r_S L π v0 h O S H A) (e10 : x_a10 A) (n : r_N h v0 rd cy rp sm) (ll : r_LN h v0 lc LN) (r0 : 0 ≤ rd) (rl : rd ≤ lc) (hq : ¬ vA h (v0 + 4) q = 110) (en : nx = v2 + 1) : qi (f_Mod_nextLine N v0 q v2 h) (fun r => r_P L π v0 h (x_NE lc LN O S H A rd cy rp sm nx) r.1 r.2) := by
  obtain ⟨⟨T, M⟩, a1, a2, a3, a4⟩ := id s
  unfold f_Mod_nextLine x_NE
  refine l_gI (e := rd) n.1 (l_gI (e := lc) ll.1.2.2 ?_)
  refine qi_if (fun c => ?_) (fun c => ?_)
  · rw [if_pos c]
    refine l_gO (qi_b (r_eC (N := N) (sh := 1) (nx := nx) s e10 n ll r0 rl) ?_)
    rw [x_qE_e c]
    rintro ⟨y, h1⟩ p
    refine l_sIc p.2.2.choose_spec.1.1.1 M.1 (by decide) rfl ?_
    intro h3 T3 c3 u3
    exact qi_some (r_P_o M p x_qE_o T3 c3 u3)
  · rw [if_neg c]
    have rl' : rd < lc := by lia
    obtain ⟨⟨l0, l1⟩, l2, l3⟩ := ll.2 rd r0 rl'
    have m0 := a2.2.1.1
    have m1 := a2.2.1.2
    have RM := x_rm (a := 0) m0 m1 (by decide : (60 : Int32) ≤ 1000) (Int32.le_refl 0) l0 (by lia)
    have lL : (LN rd).length = x_ct 0 (vA h (v0 + 2) rd) := by rw [← l2]; exact x_sl_len
    rw [← r_R1_len a2, ← lL, show x_ct 0 60 = 60 from by decide] at RM
    have RC : (vI h v0 65 + 1 + vA h (v0 + 2) rd ≤ 60) ↔ S.length + (LN rd).length + 1 ≤ 60 := by
      rw [← RM]
      constructor <;> intro _ <;> lia
    refine l_gR T (d_Mo_9 M) (l_aI (e := vA h (v0 + 4) q) (fun _ => rfl) (fun _ => ?_))
    rw [if_neg hq]
    refine l_gR T (d_Mo_1 M) (l_gI (e := rd) n.1 (l_aI (e := vA h (v0 + 2) rd) (fun _ => rfl) (fun _ => l_gI (e := vI h v0 65) rfl ?_)))
    refine qi_if (fun c1 => ?_) (fun c1 => ?_)
    · have rm := RC.mp c1
      rw [if_pos rm]
      refine l_gO (qi_b (r_tA (N := N) s e10) ?_)
      rintro ⟨z, h2⟩ ⟨s2, F2, I2, B2⟩
      dsimp only at s2 F2 I2 B2 ⊢
      refine qi_bs ?_
      rcases B2 with ⟨z1, z2, z3, z4⟩ | ⟨z1, z2, z3, z4⟩
      · have nz : ¬ (x_ta O [] A).2 = 0 := by rw [z2]; decide
        rw [z1, if_neg (by decide), if_neg nz]
        obtain ⟨⟨T2, _⟩, b1, b2, b3, b4⟩ := id s2
        have n2 := r_N_c n I2 z3
        have e65 : vI h2 v0 65 = vI h v0 65 := by
          have t1 := (r_R1_tl b2).1
          have t2 := (r_R1_tl a2).1
          rw [t1, t2]
        have L2 := (r_LN_f ll F2).2 rd r0 rl'
        refine l_gR T2 (d_Mo_58 M) (l_gI (e := vI h2 v0 65) rfl (l_uIc T2 ?_))
        intro h3 T3 j3 c3 u3
        have k0 := b2.2.1.1
        have k1 := b2.2.1.2
        have e2l : vA h2 (v0 + 2) rd = vA h (v0 + 2) rd := by rw [x_vA_c (F2.1 (v0 + 2) (by omega) (by omega))]
        have zS : x_sl (vA h2 (v0 + 39)) 0 (vI h2 v0 65) = S := b2.1
        refine qi_mono (r_n125 (N := N) (Sl := S ++ [10]) (l := vI h2 v0 65) (j := rd) (h0 := h3) M l1 k0 (by rw [e65]; exact c1) k1 N 0 h3 T3 (fun _ _ => rfl) (x_vI_c (c3 v0 (by omega))) (by rw [x_vI_c (c3 v0 (by omega))]; exact n2.1) (Int32.le_refl 0) l0 ?_) ?_
        · rw [Int32.add_zero, x_sl_u k0 (by lia) u3, zS, x_sl_0 (Int32.le_refl 0) (by decide) (by decide), List.append_nil]
        · rintro r ⟨t1, t2, t3, t4, t5⟩
          have C : ∀ b, b ≠ v0 → b ≠ v0 + 39 → r.2 b = h2 b := fun b b1 b2 => (t3 b b1 b2).trans (c3 b b2)
          have J : ∀ k, vI r.2 v0 k = if k = 70 then rd + 1 else if k = 65 then vI h2 v0 65 + (vA h (v0 + 2) rd + 1) else vI h2 v0 k := fun k => by rw [t4 k, x_vI_c (c3 v0 (by omega))]
          have t5' : r_l r.2 v0 65 39 = S ++ [10] ++ LN rd := by
            rw [t5, x_vA_c (c3 (v0 + 3) (by omega)), ← L2.2.1, e2l]
          refine ⟨r_F_t F2 ⟨fun a ha hn => C a hn (by omega), fun k hk hn => by rw [J k, if_neg (by omega), if_neg (by omega)]⟩, by rw [J 71]; exact I2 71 (by decide) (by decide), [], ⟨⟨t2, M⟩, r_R1_c b1 (by rw [J 69]; rfl) (C _ (by omega) (by omega)), ⟨t5', ?_, x_kt_a (x_kt_a b2.2.2 (x_kt_1 x_kc10)) l3⟩, r_R1_c b3 (by rw [J 66]; rfl) (C _ (by omega) (by omega)), r_R1_c b4 (by rw [J 68]; rfl) (C _ (by omega) (by omega))⟩, ⟨by rw [J 70]; rfl, by rw [J 72]; exact n2.2.1, by rw [J 73]; exact n2.2.2.1⟩, Or.inr ⟨rfl, by rw [J 76]; exact n2.2.2.2.2, by rw [J 6]; exact z4, fun _ => ⟨rfl, by rw [J 74]; exact n2.2.2.2.1, by rw [t1, en]⟩⟩⟩
          rw [J 65, if_neg (by decide), if_pos rfl, e65]
          constructor <;> lia
      · have z0 : (x_ta O [] A).2 = 0 := (x_ta_2 A _ []).resolve_right z2
        rw [z1, if_pos rfl, if_pos z0]
        exact qi_some (r_P0 n F2 I2 s2 ⟨z3, z4⟩)
    · rw [if_neg (fun z => c1 (RC.mpr z))]
      refine l_gO (qi_b (y_full (N := N) T M) ?_)
      rintro ⟨y, h2⟩ ⟨t1, t2, t3, t4⟩
      dsimp only at t1 t2 t3 t4 ⊢
      have J : ∀ k, k ≠ 76 → k ≠ 6 → vI h2 v0 k = vI h v0 k := fun k k1 k2 => by rw [t4 k, if_neg k1, if_neg k2]
      exact qi_some (r_P0 n ⟨fun a _ hn => t3 a hn, fun k hk hn => J k (by omega) hn⟩ (fun k hk hn => J k hn (by omega)) ⟨⟨t2, M⟩, r_R1_c a1 (J 69 (by decide) (by decide)) (t3 _ (by omega)), r_R1_c a2 (J 65 (by decide) (by decide)) (t3 _ (by omega)), r_R1_c a3 (J 66 (by decide) (by decide)) (t3 _ (by omega)), r_R1_c a4 (J 68 (by decide) (by decide)) (t3 _ (by omega))⟩ ⟨by rw [t4 76, if_pos rfl], by rw [t4 6]; rfl⟩)
end R5
