/-! reference: D, h, g, x, H, G -/
section R6
variable {L : q_L} {π : Nat → Nat → Option Nat} {N v0 : Nat} {h h1 : z_H} {O S H A : List Int32} {LN : Int32 → List Int32} {lc rd cy rp sm nx : Int32}
theorem r_c56 {p n cy0 : Int32} {h0 : z_H} {f : Int32 → Int32} (M : q_M L π v0) (p0 : 0 ≤ p) (pn : p < n) (n60 : n ≤ 60) : ∀ (m : Nat) (i : Int32) (h : z_H), x_U L π h → (∀ b, b ≠ v0 + 39 → h b = h0 b) → vI h0 v0 65 = n → vI h0 v0 72 = cy0 → p + 1 ≤ i → i ≤ n → (∀ j, 0 ≤ j → j < i - (p + 1) → vA h (v0 + 39) j = f (j + (p + 1))) → (∀ j, i ≤ j → vA h (v0 + 39) j = f j) → qi (f_Mod_cut_56 N m v0 p i h) (fun r => r.1 = 0 ∧ x_U L π r.2 ∧ (∀ b, b ≠ v0 → b ≠ v0 + 39 → r.2 b = h0 b) ∧ (∀ k, vI r.2 v0 k = if k = 74 then 0 else if k = 72 then cy0 + 1 else if k = 65 then n - (p + 1) else vI h0 v0 k) ∧ r_l r.2 v0 65 39 = x_sl f (p + 1) n) := by
  intro m
  induction m with
  | zero => intro i h _ _ _ _ _ _ _ _ r e; rw [f_Mod_cut_56] at e; cases e
  | succ m ih =>
    intro i h T F e65 e72 i0 i1 H1 H2
    have V : ∀ k, vI h v0 k = vI h0 v0 k := fun k => x_vI_c (F v0 (by omega))
    rw [f_Mod_cut_56]
    refine l_gI (e := n) (by rw [V, e65]) ?_
    refine qi_if (fun c => ?_) (fun c => ?_)
    · have ei : i = n := Int32.le_antisymm i1 c
      subst ei
      refine l_gI (e := i) (by rw [V, e65]) (l_sIc T M.1 (by decide) rfl ?_)
      intro h2 T2 c2 u2
      refine l_gI (e := cy0) (by rw [u2 72, if_neg (by decide), V, e72]) (l_sIc T2 M.1 (by decide) rfl ?_)
      intro h3 T3 c3 u3
      refine l_sIc T3 M.1 (by decide) rfl ?_
      intro h4 T4 c4 u4
      have J : ∀ k, vI h4 v0 k = if k = 74 then 0 else if k = 72 then cy0 + 1 else if k = 65 then i - (p + 1) else vI h0 v0 k := fun k => by rw [u4 k, u3 k, u2 k, V]
      refine qi_some ⟨rfl, T4, fun b b1 b2 => (c4 b b1).trans ((c3 b b1).trans ((c2 b b1).trans (F b b2))), J, ?_⟩
      unfold r_l
      rw [J 65, if_neg (by decide), if_neg (by decide), if_pos rfl, x_vA_c (c4 (v0 + 39) (by omega)), x_vA_c (c3 (v0 + 39) (by omega)), x_vA_c (c2 (v0 + 39) (by omega)), x_sl_s (g := f) (d := p + 1) (Int32.le_refl 0) (by lia) (by lia) (by lia) (by lia) H1, show (0 : Int32) + (p + 1) = p + 1 from by grind, show i - (p + 1) + (p + 1) = i from by grind]
    · have cl := Int32.not_le.mp c
      refine l_gR T (d_Mo_58 M) (l_gR T (d_Mo_58 M) (l_aI (e := f i) (fun _ => H2 i (Int32.le_refl _)) (fun _ => l_uIc T ?_)))
      intro h2 T2 j2 c2 u2
      have ex : i - p - 1 = i - (p + 1) := by grind
      rw [ex] at u2
      refine qi_bs (ih (i + 1) h2 T2 (fun b hb => (c2 b hb).trans (F b hb)) e65 e72 (by lia) (by lia) (fun j j0 j1 => ?_) (fun j j0 => ?_))
      · rw [u2 j j0]
        by_cases w : j = i - (p + 1)
        · rw [if_pos w, w, show i - (p + 1) + (p + 1) = i from by grind]
        · rw [if_neg w]; exact H1 j j0 (by lia)
      · rw [u2 j (by lia), if_neg (by lia)]; exact H2 j (by lia)
theorem r_pD (s : r_S L π v0 h O S H A) (e10 : x_a10 A) (n : r_N h v0 rd cy rp sm) (ll : r_LN h v0 lc LN) (r0 : 0 ≤ rd) (rl : rd ≤ lc) : qi (f_Mod_cut N v0 h) (fun r => r_P L π v0 h (x_DE lc LN O S H A rd cy rp sm nx) r.1 r.2) := by
  obtain ⟨⟨T, M⟩, a1, a2, a3, a4⟩ := id s
  have m0 := a2.2.1.1
  have m1 := a2.2.1.2
  have zS : x_sl (vA h (v0 + 39)) 0 (vI h v0 65) = S := a2.1
  have END : ∀ p, 0 ≤ p → p ≤ vI h v0 65 → (∀ j, 0 ≤ j → j < p → ¬ vA h (v0 + 39) j = 10) → (p < vI h v0 65 → vA h (v0 + 39) p = 10) → qi (f_Mod_cut_27 N v0 p h) (fun r => r_P L π v0 h (x_DE lc LN O S H A rd cy rp sm nx) r.1 r.2) := by
    intro p p0 pn Hp Hq
    have TW := x_tw p0 pn Hp Hq
    rw [zS] at TW
    unfold f_Mod_cut_27 x_DE
    refine l_gI (e := vI h v0 65) rfl ?_
    refine qi_if (fun c => ?_) (fun c => ?_)
    · rw [if_pos (TW.2.2 c)]
      refine l_gO (qi_b (r_eC (N := N) (sh := 0) (nx := nx) s e10 n ll r0 rl) ?_)
      rintro ⟨y, h2⟩ q
      exact qi_some q
    · have lt : p < vI h v0 65 := by lia
      have dw := TW.2.1 lt
      rw [if_neg (by rw [dw]; exact List.cons_ne_nil _ _)]
      refine l_gO (qi_b (r_tA (N := N) s e10) ?_)
      rintro ⟨z, h2⟩ ⟨s2, F2, I2, B2⟩
      dsimp only at s2 F2 I2 B2 ⊢
      refine qi_bs ?_
      rcases B2 with ⟨z1, z2, z3, z4⟩ | ⟨z1, z2, z3, z4⟩
      · have nz : ¬ (x_ta O [] A).2 = 0 := by rw [z2]; decide
        rw [z1, if_neg (by decide), if_neg nz]
        obtain ⟨⟨T2, _⟩, b1, b2, b3, b4⟩ := id s2
        have n2 := r_N_c n I2 z3
        have SI := x_sl_i b2.2.1.1 a2.2.1.1 (show x_sl (vA h2 (v0 + 39)) 0 (vI h2 v0 65) = x_sl (vA h (v0 + 39)) 0 (vI h v0 65) from b2.1.trans a2.1.symm)
        have lt2 : p < vI h2 v0 65 := by rw [SI.1]; exact lt
        refine qi_bs (qi_mono (r_c56 (N := N) (f := vA h2 (v0 + 39)) (n := vI h2 v0 65) (cy0 := cy) (h0 := h2) M p0 lt2 b2.2.1.2 N (p + 1) h2 T2 (fun _ _ => rfl) rfl n2.2.1 (Int32.le_refl _) (by lia) (fun j j0 j1 => absurd j1 (by rw [show p + 1 - (p + 1) = 0 from by grind]; exact Int32.not_lt.mpr j0)) (fun _ _ => rfl)) ?_)
        rintro r ⟨t1, t2, t3, J, t5⟩
        have tl : (S.dropWhile x_n10).tail = x_sl (vA h2 (v0 + 39)) (p + 1) (vI h2 v0 65) := by
          rw [dw, List.tail_cons, SI.1]
          exact x_sl_e (by lia) m0 (fun j j0 j1 => (SI.2 j (by lia) (by rw [SI.1]; exact j1)).symm)
        have kk := b2.2.2
        rw [← b2.1] at kk
        have c0 := b2.2.1.1
        have c1 := b2.2.1.2
        refine ⟨r_F_t F2 ⟨fun a ha hn => t3 a hn (by omega), fun k hk hn => by rw [J k, if_neg (by omega), if_neg (by omega), if_neg (by omega)]⟩, by rw [J 71]; exact I2 71 (by decide) (by decide), [], ⟨⟨t2, M⟩, r_R1_c b1 (by rw [J 69]; rfl) (t3 _ (by omega) (by omega)), ⟨by rw [t5, tl], ?_, by rw [tl]; exact x_kt_s kk c0 (by lia) (by lia) (Int32.le_refl _)⟩, r_R1_c b3 (by rw [J 66]; rfl) (t3 _ (by omega) (by omega)), r_R1_c b4 (by rw [J 68]; rfl) (t3 _ (by omega) (by omega))⟩, ⟨by rw [J 70]; exact n2.1, by rw [J 72]; rfl, by rw [J 73]; exact n2.2.2.1⟩, Or.inr ⟨rfl, by rw [J 76]; exact n2.2.2.2.2, by rw [J 6]; exact z4, fun _ => ⟨rfl, by rw [J 74]; rfl, t1⟩⟩⟩
        rw [J 65, if_neg (by decide), if_neg (by decide), if_pos rfl]
        constructor <;> lia
      · have z0 : (x_ta O [] A).2 = 0 := (x_ta_2 A _ []).resolve_right z2
        rw [z1, if_pos rfl, if_pos z0]
        exact qi_some (r_P0 n F2 I2 s2 ⟨z3, z4⟩)
  have LOOP : ∀ (m : Nat) (p : Int32), 0 ≤ p → p ≤ vI h v0 65 → (∀ j, 0 ≤ j → j < p → ¬ vA h (v0 + 39) j = 10) → qi (f_Mod_cut_2 N m v0 p h) (fun r => r_P L π v0 h (x_DE lc LN O S H A rd cy rp sm nx) r.1 r.2) := by
    intro m
    induction m with
    | zero => intro p _ _ _ r e; rw [f_Mod_cut_2] at e; cases e
    | succ m ih =>
      intro p p0 pn Hp
      rw [f_Mod_cut_2]
      refine l_gI (e := vI h v0 65) rfl ?_
      refine qi_if (fun c => END p p0 pn Hp (fun w => absurd (Int32.lt_of_lt_of_le w c) Int32.lt_irrefl)) (fun c => ?_)
      refine l_gR T (d_Mo_58 M) (l_aI (e := vA h (v0 + 39) p) (fun _ => rfl) (fun _ => ?_))
      refine qi_if (fun c1 => END p p0 pn Hp (fun _ => c1)) (fun c1 => ?_)
      have cl := Int32.not_le.mp c
      refine qi_bs (ih (p + 1) (by lia) (by lia) (fun j j0 j1 => ?_))
      by_cases w : j = p
      · rw [w]; exact c1
      · exact Hp j j0 (by lia)
  unfold f_Mod_cut
  exact LOOP N 0 (Int32.le_refl 0) m0 (fun j j0 j1 => absurd (Int32.lt_of_le_of_lt j0 j1) Int32.lt_irrefl)
/-- h -/
theorem r_ph (s : r_S L π v0 h O S H A) (n : r_N h v0 rd cy rp sm) : qi (f_Mod_holds N v0 104 h) (fun r => r_P L π v0 h (1, O, S, S, A, rd, cy, rp, sm, nx, 0) nx r.2) := by
  obtain ⟨⟨T, M⟩, a1, a2, a3, a4⟩ := id s
  unfold f_Mod_holds
  rw [if_pos rfl]
  have LOOP : ∀ (m : Nat) (i : Int32) (h1 : z_H), x_U L π h1 → (∀ b, b ≠ v0 + 40 → h1 b = h b) → 0 ≤ i → i ≤ vI h v0 65 → (∀ j, 0 ≤ j → j < i → vA h1 (v0 + 40) j = vA h (v0 + 39) j) → qi (f_Mod_holds_8 N m v0 i h1) (fun r => r_P L π v0 h (1, O, S, S, A, rd, cy, rp, sm, nx, 0) nx r.2) := by
    have m1 := a2.2.1.2
    intro m
    induction m with
    | zero => intro i h1 _ _ _ _ _ r e; rw [f_Mod_holds_8] at e; cases e
    | succ m ih =>
      intro i h1 T1 F i0 i1 Hc
      have V : ∀ k, vI h1 v0 k = vI h v0 k := fun k => x_vI_c (F v0 (by omega))
      rw [f_Mod_holds_8]
      refine l_gI (e := vI h v0 65) (V 65) ?_
      refine qi_if (fun c => ?_) (fun c => ?_)
      · have ei : i = vI h v0 65 := Int32.le_antisymm i1 c
        refine l_gI (e := vI h v0 65) (V 65) (l_sIc T1 M.1 (by decide) rfl ?_)
        intro h2 T2 c2 u2
        have J : ∀ k, k ≠ 66 → vI h2 v0 k = vI h v0 k := fun k hk => by rw [u2 k, if_neg hk, V]
        have C : ∀ b, b ≠ v0 → b ≠ v0 + 40 → h2 b = h b := fun b b1 b2 => (c2 b b1).trans (F b b2)
        have e66 : vI h2 v0 66 = vI h v0 65 := by rw [u2 66, if_pos rfl]
        refine qi_some (r_P1 n ⟨fun a ha hn => C a hn (by omega), fun k hk hn => J k (by omega)⟩ (fun k hk hn => J k (by omega)) ⟨⟨T2, M⟩, r_R1_c a1 (J 69 (by decide)) (C _ (by omega) (by omega)), r_R1_c a2 (J 65 (by decide)) (C _ (by omega) (by omega)), ⟨?_, by rw [e66]; exact a2.2.1, a2.2.2⟩, r_R1_c a4 (J 68 (by decide)) (C _ (by omega) (by omega))⟩ ⟨J 76 (by decide), J 6 (by decide)⟩)
        unfold r_l
        rw [e66, x_vA_c (c2 (v0 + 40) (by omega)), x_sl_e (g := vA h (v0 + 39)) (Int32.le_refl 0) a2.2.1.1 (by rw [← ei]; exact Hc)]
        exact a2.1
      · have cl := Int32.not_le.mp c
        refine l_gR T1 (d_Mo_59 M) (l_gR T1 (d_Mo_58 M) (l_aI (e := vA h (v0 + 39) i) (fun _ => by rw [x_vA_c (F (v0 + 39) (by omega))]) (fun _ => l_uIc T1 ?_)))
        intro h2 T2 j2 c2 u2
        refine qi_bs (ih (i + 1) h2 T2 (fun b hb => (c2 b hb).trans (F b hb)) (by lia) (by lia) (fun j j0 j1 => ?_))
        rw [u2 j j0]
        by_cases z : j = i
        · rw [if_pos z, z]
        · rw [if_neg z]; exact Hc j j0 (by lia)
  exact LOOP N 0 h T (fun _ _ => rfl) (Int32.le_refl 0) a2.2.1.1 (fun j j0 j1 => absurd (Int32.lt_of_le_of_lt j0 j1) Int32.lt_irrefl)
/-- g -/
theorem r_pg (s : r_S L π v0 h O S H A) (n : r_N h v0 rd cy rp sm) : qi (f_Mod_holds N v0 103 h) (fun r => r_P L π v0 h (1, O, H, H, A, rd, cy, rp, sm, nx, 0) nx r.2) := by
  obtain ⟨⟨T, M⟩, a1, a2, a3, a4⟩ := id s
  unfold f_Mod_holds
  rw [if_neg (by decide), if_pos rfl]
  have LOOP : ∀ (m : Nat) (i : Int32) (h1 : z_H), x_U L π h1 → (∀ b, b ≠ v0 + 39 → h1 b = h b) → 0 ≤ i → i ≤ vI h v0 66 → (∀ j, 0 ≤ j → j < i → vA h1 (v0 + 39) j = vA h (v0 + 40) j) → qi (f_Mod_holds_53 N m v0 i h1) (fun r => r_P L π v0 h (1, O, H, H, A, rd, cy, rp, sm, nx, 0) nx r.2) := by
    have m1 := a3.2.1.2
    intro m
    induction m with
    | zero => intro i h1 _ _ _ _ _ r e; rw [f_Mod_holds_53] at e; cases e
    | succ m ih =>
      intro i h1 T1 F i0 i1 Hc
      have V : ∀ k, vI h1 v0 k = vI h v0 k := fun k => x_vI_c (F v0 (by omega))
      rw [f_Mod_holds_53]
      refine l_gI (e := vI h v0 66) (V 66) ?_
      refine qi_if (fun c => ?_) (fun c => ?_)
      · have ei : i = vI h v0 66 := Int32.le_antisymm i1 c
        refine l_gI (e := vI h v0 66) (V 66) (l_sIc T1 M.1 (by decide) rfl ?_)
        intro h2 T2 c2 u2
        have J : ∀ k, k ≠ 65 → vI h2 v0 k = vI h v0 k := fun k hk => by rw [u2 k, if_neg hk, V]
        have C : ∀ b, b ≠ v0 → b ≠ v0 + 39 → h2 b = h b := fun b b1 b2 => (c2 b b1).trans (F b b2)
        have e66 : vI h2 v0 65 = vI h v0 66 := by rw [u2 65, if_pos rfl]
        refine qi_some (r_P1 n ⟨fun a ha hn => C a hn (by omega), fun k hk hn => J k (by omega)⟩ (fun k hk hn => J k (by omega)) ⟨⟨T2, M⟩, r_R1_c a1 (J 69 (by decide)) (C _ (by omega) (by omega)), ⟨?_, by rw [e66]; exact a3.2.1, a3.2.2⟩, r_R1_c a3 (J 66 (by decide)) (C _ (by omega) (by omega)), r_R1_c a4 (J 68 (by decide)) (C _ (by omega) (by omega))⟩ ⟨J 76 (by decide), J 6 (by decide)⟩)
        unfold r_l
        rw [e66, x_vA_c (c2 (v0 + 39) (by omega)), x_sl_e (g := vA h (v0 + 40)) (Int32.le_refl 0) a3.2.1.1 (by rw [← ei]; exact Hc)]
        exact a3.1
      · have cl := Int32.not_le.mp c
        refine l_gR T1 (d_Mo_58 M) (l_gR T1 (d_Mo_59 M) (l_aI (e := vA h (v0 + 40) i) (fun _ => by rw [x_vA_c (F (v0 + 40) (by omega))]) (fun _ => l_uIc T1 ?_)))
        intro h2 T2 j2 c2 u2
        refine qi_bs (ih (i + 1) h2 T2 (fun b hb => (c2 b hb).trans (F b hb)) (by lia) (by lia) (fun j j0 j1 => ?_))
        rw [u2 j j0]
        by_cases z : j = i
        · rw [if_pos z, z]
        · rw [if_neg z]; exact Hc j j0 (by lia)
  exact LOOP N 0 h T (fun _ _ => rfl) (Int32.le_refl 0) a3.2.1.1 (fun j j0 j1 => absurd (Int32.lt_of_le_of_lt j0 j1) Int32.lt_irrefl)
/-- x -/
theorem r_px (s : r_S L π v0 h O S H A) (n : r_N h v0 rd cy rp sm) : qi (f_Mod_holds N v0 120 h) (fun r => r_P L π v0 h (1, O, H, S, A, rd, cy, rp, sm, nx, 0) nx r.2) := by
  obtain ⟨⟨T, M⟩, a1, a2, a3, a4⟩ := id s
  unfold f_Mod_holds
  rw [if_neg (by decide), if_neg (by decide), if_pos rfl]
  have LOOP : ∀ (m : Nat) (i : Int32) (h1 : z_H), x_U L π h1 → (∀ b, b ≠ v0 + 39 → b ≠ v0 + 40 → h1 b = h b) → 0 ≤ i → (∀ j, 0 ≤ j → j < i → vA h1 (v0 + 39) j = vA h (v0 + 40) j ∧ vA h1 (v0 + 40) j = vA h (v0 + 39) j) → (∀ j, i ≤ j → vA h1 (v0 + 39) j = vA h (v0 + 39) j ∧ vA h1 (v0 + 40) j = vA h (v0 + 40) j) → qi (f_Mod_holds_98 N m v0 i h1) (fun r => r_P L π v0 h (1, O, H, S, A, rd, cy, rp, sm, nx, 0) nx r.2) := by
    have m1 := a2.2.1.2
    have m2 := a3.2.1.2
    intro m
    induction m with
    | zero => intro i h1 _ _ _ _ _ r e; rw [f_Mod_holds_98] at e; cases e
    | succ m ih =>
      intro i h1 T1 F i0 Hc Hd
      have V : ∀ k, vI h1 v0 k = vI h v0 k := fun k => x_vI_c (F v0 (by omega) (by omega))
      rw [f_Mod_holds_98]
      refine qi_if (fun c => ?_) (fun c => ?_)
      · refine l_gI (e := vI h v0 65) (V 65) (l_gI (e := vI h v0 66) (V 66) (l_sIc T1 M.1 (by decide) rfl ?_))
        intro h2 T2 c2 u2
        refine l_sIc T2 M.1 (by decide) rfl ?_
        intro h3 T3 c3 u3
        have J : ∀ k, k ≠ 65 → k ≠ 66 → vI h3 v0 k = vI h v0 k := fun k hk hj => by rw [u3 k, if_neg hj, u2 k, if_neg hk, V]
        have C : ∀ b, b ≠ v0 → b ≠ v0 + 39 → b ≠ v0 + 40 → h3 b = h b := fun b b1 b2 b3 => (c3 b b1).trans ((c2 b b1).trans (F b b2 b3))
        have e65 : vI h3 v0 65 = vI h v0 66 := by rw [u3 65, if_neg (by decide), u2 65, if_pos rfl]
        have e66 : vI h3 v0 66 = vI h v0 65 := by rw [u3 66, if_pos rfl]
        refine qi_some (r_P1 n ⟨fun a ha hn => C a hn (by omega) (by omega), fun k hk hn => J k (by omega) (by omega)⟩ (fun k hk hn => J k (by omega) (by omega)) ⟨⟨T3, M⟩, r_R1_c a1 (J 69 (by decide) (by decide)) (C _ (by omega) (by omega) (by omega)), ⟨?_, by rw [e65]; exact a3.2.1, a3.2.2⟩, ⟨?_, by rw [e66]; exact a2.2.1, a2.2.2⟩, r_R1_c a4 (J 68 (by decide) (by decide)) (C _ (by omega) (by omega) (by omega))⟩ ⟨J 76 (by decide) (by decide), J 6 (by decide) (by decide)⟩)
        · unfold r_l
          rw [e65, x_vA_c (c3 (v0 + 39) (by omega)), x_vA_c (c2 (v0 + 39) (by omega)), x_sl_e (g := vA h (v0 + 40)) (Int32.le_refl 0) a3.2.1.1 (fun j j0 j1 => (Hc j j0 (by lia)).1)]
          exact a3.1
        · unfold r_l
          rw [e66, x_vA_c (c3 (v0 + 40) (by omega)), x_vA_c (c2 (v0 + 40) (by omega)), x_sl_e (g := vA h (v0 + 39)) (Int32.le_refl 0) a2.2.1.1 (fun j j0 j1 => (Hc j j0 (by lia)).2)]
          exact a2.1
      · have cl := Int32.not_le.mp c
        refine l_gR T1 (d_Mo_58 M) (l_aI (e := vA h (v0 + 39) i) (fun _ => (Hd i (Int32.le_refl _)).1) (fun _ => l_gR T1 (d_Mo_58 M) (l_gR T1 (d_Mo_59 M) (l_aI (e := vA h (v0 + 40) i) (fun _ => (Hd i (Int32.le_refl _)).2) (fun _ => l_uIc T1 ?_)))))
        intro h2 T2 j2 c2 u2
        refine l_gR T2 (d_Mo_59 M) (l_uIc T2 ?_)
        intro h3 T3 j3 c3 u3
        rw [x_vA_c (c2 (v0 + 40) (by omega))] at u3
        refine qi_bs (ih (i + 1) h3 T3 (fun b hb hj => (c3 b hj).trans ((c2 b hb).trans (F b hb hj))) (by lia) (fun j j0 j1 => ?_) (fun j j0 => ?_))
        · rw [x_vA_c (c3 (v0 + 39) (by omega)), u2 j j0, u3 j j0]
          by_cases z : j = i
          · rw [if_pos z, if_pos z, z]; exact ⟨rfl, rfl⟩
          · rw [if_neg z, if_neg z]; exact Hc j j0 (by lia)
        · rw [x_vA_c (c3 (v0 + 39) (by omega)), u2 j (by lia), u3 j (by lia), if_neg (by lia), if_neg (by lia)]
          exact Hd j (by lia)
  exact LOOP N 0 h T (fun _ _ _ => rfl) (Int32.le_refl 0) (fun j j0 j1 => absurd (Int32.lt_of_le_of_lt j0 j1) Int32.lt_irrefl) (fun _ _ => ⟨rfl, rfl⟩)
end R6
