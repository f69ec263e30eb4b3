/-! the editor of the class: whether a command is done -/
def x_rc (k num rd : Int32) : Int32 := if k = 0 then (if rd < num then 0 else 1) else 0
/-- done, in range, whether c tells -/
def x_dne (na inv ir f1 f2 rc : Int32) : Int32 × Int32 × Int32 := if na = 1 then (if f1 = inv then 0 else 1, ir, 1) else if na = 2 then (if ir = 0 then (if f1 = inv then 0 else 1, if f1 = 0 then 0 else if rc = 0 then 1 else 0, if inv = 0 then rc else 1) else (if 1 = inv then 0 else 1, if rc = 0 then (if f2 = 0 then 1 else 0) else 0, if inv = 0 then (if rc = 0 then f2 else 1) else 1)) else (if 1 = inv then 0 else 1, ir, 1)
section Y9
variable {L : q_L} {e pg sf ln c : Nat} {π : Nat → Nat → Option Nat} {N : Nat} {h h1 : z_H} {sp ho dr : Nat} {O S H A : List Int32} {lc : Int32} {rd : Int32}
theorem y_S_x (s : y_S L e pg ln π h sp ho dr O S H A) (T : x_U L π h1) (f : ∀ a, e ≤ a → a < e + 16 → h1 a = h a) : y_S L e pg ln π h1 sp ho dr O S H A := by
  obtain ⟨⟨_, p1⟩, d, a1, a2, a3, a4, a5⟩ := s
  have d' := d
  obtain ⟨d1, d2, d3, d4, d5, d6⟩ := d'
  refine ⟨⟨T, p1⟩, d, y_R1_c a1 (f _ (by omega) (by omega)) (f _ (by omega) (by omega)), y_R1_c a2 (f _ (by omega) (by omega)) (f _ (by omega) (by omega)), y_R1_c a3 (f _ (by omega) (by omega)) (f _ (by omega) (by omega)), y_R1_c a4 (f _ (by omega) (by omega)) (f _ (by omega) (by omega)), ?_⟩
  rw [x_vI_c (f dr (by omega) (by omega))]; exact a5
theorem y_rch {ad : Nat} : qi (f_Ed_isReached N e ad h) (fun r => r.2 = h ∧ r.1 = x_rc (vI h ad 1) (vI h ad 2) (vI h e 3)) := by
  unfold f_Ed_isReached x_rc
  refine l_gI (e := vI h ad 1) rfl ?_
  refine qi_if (fun c => ?_) (fun c => ?_)
  · rw [if_pos c]
    refine l_gI (e := vI h e 3) rfl (l_gI (e := vI h ad 2) rfl ?_)
    refine qi_if (fun c1 => ?_) (fun c1 => ?_)
    · rw [if_pos c1]; exact qi_some ⟨rfl, rfl⟩
    · rw [if_neg c1]; exact qi_some ⟨rfl, rfl⟩
  · rw [if_neg c]; exact qi_some ⟨rfl, rfl⟩
theorem x_rc01 {k num rd : Int32} : x_rc k num rd = 0 ∨ x_rc k num rd = 1 := by
  unfold x_rc
  by_cases c : k = 0
  · rw [if_pos c]
    by_cases c1 : rd < num
    · rw [if_pos c1]; exact Or.inl rfl
    · rw [if_neg c1]; exact Or.inr rfl
  · rw [if_neg c]; exact Or.inl rfl
theorem y_136 {v : Int32} {h : z_H} : qi (f_Ed_isDone_136 N c v h) (fun r => r.2 = h ∧ r.1 = if v = vI h c 6 then 0 else 1) := by
  unfold f_Ed_isDone_136
  refine l_gI (e := vI h c 6) rfl ?_
  refine qi_if (fun c1 => ?_) (fun c1 => ?_)
  · rw [if_pos c1]; exact qi_some ⟨rfl, rfl⟩
  · rw [if_neg c1]; exact qi_some ⟨rfl, rfl⟩
/-- what isDone leaves -/
def y_DN (L : q_L) (e pg ln c : Nat) (h : z_H) (sp ho dr : Nat) (O S H A : List Int32) (D : Int32 × Int32 × Int32) (r : Int32 × z_H) : Prop := r.1 = D.1 ∧ (∃ π', y_S L e pg ln π' r.2 sp ho dr O S H A) ∧ (∀ a, ¬ (e ≤ a ∧ a < e + 16) → a ≠ c → r.2 a = h a) ∧ (∀ k, k ≠ 16 → vI r.2 e k = vI h e k) ∧ (∀ k, k ≠ 15 → vI r.2 c k = vI h c k) ∧ vI r.2 c 15 = D.2.1 ∧ (D.2.2 = 0 → ¬ (vI r.2 c 5 < 2 ∨ ¬ vI r.2 c 6 = 0 ∨ ¬ vI r.2 e 16 = 0)) ∧ (¬ D.2.2 = 0 → vI r.2 c 5 < 2 ∨ ¬ vI r.2 c 6 = 0 ∨ ¬ vI r.2 e 16 = 0)
set_option maxHeartbeats 4000000 in
theorem y_iD (hpg : e + 16 ≤ pg) (hc : pg + 9 ≤ c) (ly : y_L L e) (kp : qκ L pg = 10) (kc : qκ L c = 2) (s : y_S L e pg ln π h sp ho dr O S H A) (hr : vI h e 3 = rd) (hl : vI h e 12 = lc) (na2 : vI h c 5 ≤ 2) (P1 : 1 ≤ vI h c 5 → ¬ vI h (c + 1) 1 = 0 → ¬ vI h (c + 1) 1 = 1 → y_PP h (pg + 3) (c + 2)) (P2 : vI h c 5 = 2 → ¬ vI h (c + 3) 1 = 0 → ¬ vI h (c + 3) 1 = 1 → y_PP h (pg + 3) (c + 4)) : qi (f_Ed_isDone N e c h) (y_DN L e pg ln c h sp ho dr O S H A (x_dne (vI h c 5) (vI h c 6) (vI h c 15) (y_ft h (pg + 3) (c + 1) S rd lc) (y_ft h (pg + 3) (c + 3) S rd lc) (x_rc (vI h (c + 3) 1) (vI h (c + 3) 2) rd))) := by
  obtain ⟨⟨T, p1, p2, p3, p4, p5⟩, d, -⟩ := id s
  have k1 := e_Cmd_0 T kc
  have k2 := e_Cmd_1 T kc
  have END : ∀ (h1 : z_H) (π1 : Nat → Nat → Option Nat) (v ir' b : Int32), y_S L e pg ln π1 h1 sp ho dr O S H A → (∀ a, ¬ (e ≤ a ∧ a < e + 16) → a ≠ c → h1 a = h a) → (∀ k, k ≠ 16 → vI h1 e k = vI h e k) → (∀ k, k ≠ 15 → vI h1 c k = vI h c k) → vI h1 c 15 = ir' → (b = 0 → ¬ (vI h1 c 5 < 2 ∨ ¬ vI h1 c 6 = 0 ∨ ¬ vI h1 e 16 = 0)) → (¬ b = 0 → vI h1 c 5 < 2 ∨ ¬ vI h1 c 6 = 0 ∨ ¬ vI h1 e 16 = 0) → qi (f_Ed_isDone_136 N c v h1) (y_DN L e pg ln c h sp ho dr O S H A (if v = vI h c 6 then 0 else 1, ir', b)) := by
    intro h1 π1 v ir' b s1 F1 I1 C1 e15 b0 b1
    refine qi_mono y_136 ?_
    rintro ⟨y, h2⟩ ⟨e2, ey⟩
    dsimp only at e2 ey
    subst e2
    rw [C1 6 (by decide)] at ey
    exact ⟨ey, ⟨π1, s1⟩, F1, I1, C1, e15, b0, b1⟩
  have F87 : vI h c 5 ≠ 1 → (vI h c 5 = 2 → vI h c 15 = 0) → qi (f_Ed_isDone_87 N e c 1 h) (y_DN L e pg ln c h sp ho dr O S H A (x_dne (vI h c 5) (vI h c 6) (vI h c 15) (y_ft h (pg + 3) (c + 1) S rd lc) (y_ft h (pg + 3) (c + 3) S rd lc) (x_rc (vI h (c + 3) 1) (vI h (c + 3) 2) rd))) := by
    intro n1 ir0
    unfold f_Ed_isDone_87 x_dne
    rw [if_neg n1]
    refine l_gI (e := vI h c 5) rfl ?_
    refine qi_if (fun c2 => ?_) (fun c2 => ?_)
    · rw [if_pos c2, if_pos (ir0 c2)]
      refine l_gR T (d_Cmd_0 T kc) (l_gO (qi_b (y_ftc (N := N) hpg (by omega) ly kp k1 s hr hl (P1 (by rw [c2]; decide))) ?_))
      rintro ⟨y, h2⟩ ⟨ey, π2, s2, f2⟩
      dsimp only at ey s2 f2 ⊢
      have T2 := s2.1.1
      have C2 : ∀ b k, c ≤ b → vI h2 b k = vI h b k := fun b k hb => x_vI_c (f2 b (by omega))
      have E2 : ∀ k, vI h2 e k = vI h e k := fun k => x_vI_c (f2 e (by omega))
      refine qi_bs (l_gR T2 (d_Cmd_1 T2 kc) (l_gO (qi_b y_rch ?_)))
      rintro ⟨z, h3⟩ ⟨e3, ez⟩
      dsimp only at e3 ez ⊢
      subst e3
      rw [C2 _ _ (by omega), C2 _ _ (by omega), E2, hr] at ez
      have rc01 : z = 0 ∨ z = 1 := by rw [ez]; exact x_rc01
      refine qi_zB (fun _ => l_sIc T2 ly.1 (by decide) rfl ?_)
      intro h4 T4 c4 u4
      have s4 := y_S_e s2 T4 c4
      have W : ∀ v : Int32, qi (z_b (sF h4 c 1 15 (.int v)) fun h13 => f_Ed_isDone_136 N c y h13) (y_DN L e pg ln c h sp ho dr O S H A (if y_ft h (pg + 3) (c + 1) S rd lc = vI h c 6 then 0 else 1, v, if vI h c 6 = 0 then x_rc (vI h (c + 3) 1) (vI h (c + 3) 2) rd else 1)) := by
        intro v
        refine l_sIc T4 kc (by decide) rfl ?_
        intro h5 T5 c5 u5
        have C5 : ∀ k, k ≠ 15 → vI h5 c k = vI h c k := fun k hk => by rw [u5 k, if_neg hk, x_vI_c (c4 c (by omega)), C2 _ _ (Nat.le_refl _)]
        have e16 : vI h5 e 16 = z := by rw [x_vI_c (c5 e (by omega)), u4 16, if_pos rfl]
        have t := END h5 π2 y v (if vI h c 6 = 0 then x_rc (vI h (c + 3) 1) (vI h (c + 3) 2) rd else 1) (y_S_x s4 T5 (fun a a1 a2 => c5 a (by omega))) (fun a a1 a2 => (c5 a a2).trans ((c4 a (by omega)).trans (f2 a (by omega)))) (fun k hk => by rw [x_vI_c (c5 e (by omega)), u4 k, if_neg hk, E2]) C5 (by rw [u5 15, if_pos rfl]) ?_ ?_
        · rw [ey] at t
          rw [ey]
          exact t
        · intro b0 w
          by_cases i6 : vI h c 6 = 0
          · rw [if_pos i6, ← ez] at b0
            rcases w with w | w | w
            · rw [C5 5 (by decide), c2] at w; exact absurd w (by decide)
            · rw [C5 6 (by decide)] at w; exact w i6
            · rw [e16] at w; exact w b0
          · rw [if_neg i6] at b0; exact absurd b0 (by decide)
        · intro b1
          by_cases i6 : vI h c 6 = 0
          · rw [if_pos i6, ← ez] at b1
            exact Or.inr (Or.inr (by rw [e16]; exact b1))
          · exact Or.inr (Or.inl (by rw [C5 6 (by decide)]; exact i6))
      refine qi_if (fun c5 => ?_) (fun c5 => ?_)
      · rw [ey] at c5
        have t := W 0
        rw [if_pos c5]
        exact t
      · rw [ey] at c5
        rw [if_neg c5]
        refine l_gI (e := z) (by rw [u4 16, if_pos rfl]) ?_
        refine qi_if (fun c6 => ?_) (fun c6 => ?_)
        · have r0 : x_rc (vI h (c + 3) 1) (vI h (c + 3) 2) rd = 0 := ez.symm.trans c6
          have t := W 1
          rw [if_pos r0]
          exact t
        · have r0 : ¬ x_rc (vI h (c + 3) 1) (vI h (c + 3) 2) rd = 0 := fun w => c6 (ez.trans w)
          have t := W 0
          rw [if_neg r0]
          exact t
    · rw [if_neg c2]
      exact END h π 1 (vI h c 15) 1 s (fun _ _ _ => rfl) (fun _ _ => rfl) (fun _ _ => rfl) rfl (fun z => absurd z (by decide)) (fun _ => Or.inl (by lia))
  unfold f_Ed_isDone
  refine l_gI (e := vI h c 5) rfl ?_
  refine qi_if (fun c1 => ?_) (fun c1 => ?_)
  · unfold x_dne
    rw [if_pos c1]
    refine l_gR T (d_Cmd_0 T kc) (l_gO (qi_b (y_ftc (N := N) hpg (by omega) ly kp k1 s hr hl (P1 (by rw [c1]; decide))) ?_))
    rintro ⟨y, h2⟩ ⟨ey, π2, s2, f2⟩
    dsimp only at ey s2 f2 ⊢
    have C2 : ∀ k, vI h2 c k = vI h c k := fun k => x_vI_c (f2 c (by omega))
    have t := END h2 π2 y (vI h c 15) 1 s2 (fun a a1 a2 => f2 a (by omega)) (fun k _ => x_vI_c (f2 e (by omega))) (fun k _ => C2 k) (C2 15) (fun z => absurd z (by decide)) (fun _ => Or.inl (by rw [C2, c1]; decide))
    rw [ey] at t
    rw [ey]
    exact qi_bs t
  · refine l_gI (e := vI h c 5) rfl ?_
    refine qi_if (fun c2 => ?_) (fun c2 => ?_)
    · refine l_gI (e := vI h c 15) rfl ?_
      refine qi_if (fun c3 => ?_) (fun c3 => ?_)
      · exact F87 c1 (fun _ => c3)
      · unfold x_dne
        rw [if_neg c1, if_pos c2, if_neg c3]
        have X : ∀ (h3 : z_H) (π3 : Nat → Nat → Option Nat) (v : Int32), (v = 0 ∨ v = 1) → y_S L e pg ln π3 h3 sp ho dr O S H A → (∀ a, a < e + 9 ∨ e + 9 + 4 < a → h3 a = h a) → qi (f_Ed_isDone_65 N e c 1 e v h3) (y_DN L e pg ln c h sp ho dr O S H A (if 1 = vI h c 6 then 0 else 1, if v = 0 then 1 else 0, if vI h c 6 = 0 then v else 1)) := by
          intro h3 π3 v v01 s3 f3
          have T3 := s3.1.1
          unfold f_Ed_isDone_65
          refine qi_zB (fun _ => l_sIc T3 ly.1 (by decide) rfl ?_)
          intro h4 T4 c4 u4
          have s4 := y_S_e s3 T4 c4
          have W : ∀ w : Int32, qi (z_b (sF h4 c 1 15 (.int w)) fun h13 => f_Ed_isDone_136 N c 1 h13) (y_DN L e pg ln c h sp ho dr O S H A (if 1 = vI h c 6 then 0 else 1, w, if vI h c 6 = 0 then v else 1)) := by
            intro w
            refine l_sIc T4 kc (by decide) rfl ?_
            intro h5 T5 c5 u5
            have C5 : ∀ k, k ≠ 15 → vI h5 c k = vI h c k := fun k hk => by rw [u5 k, if_neg hk, x_vI_c (c4 c (by omega)), x_vI_c (f3 c (by omega))]
            have e16 : vI h5 e 16 = v := by rw [x_vI_c (c5 e (by omega)), u4 16, if_pos rfl]
            refine END h5 π3 1 w (if vI h c 6 = 0 then v else 1) (y_S_x s4 T5 (fun a a1 a2 => c5 a (by omega))) (fun a a1 a2 => (c5 a a2).trans ((c4 a (by omega)).trans (f3 a (by omega)))) (fun k hk => by rw [x_vI_c (c5 e (by omega)), u4 k, if_neg hk, x_vI_c (f3 e (by omega))]) C5 (by rw [u5 15, if_pos rfl]) ?_ ?_
            · intro b0 q
              by_cases i6 : vI h c 6 = 0
              · rw [if_pos i6] at b0
                rcases q with q | q | q
                · rw [C5 5 (by decide), c2] at q; exact absurd q (by decide)
                · rw [C5 6 (by decide)] at q; exact q i6
                · rw [e16] at q; exact q b0
              · rw [if_neg i6] at b0; exact absurd b0 (by decide)
            · intro b1
              by_cases i6 : vI h c 6 = 0
              · rw [if_pos i6] at b1
                exact Or.inr (Or.inr (by rw [e16]; exact b1))
              · exact Or.inr (Or.inl (by rw [C5 6 (by decide)]; exact i6))
          refine l_gI (e := v) (by rw [u4 16, if_pos rfl]) ?_
          refine qi_if (fun c6 => ?_) (fun c6 => ?_)
          · rw [if_pos c6]; exact W 1
          · rw [if_neg c6]; exact W 0
        refine l_gR T (d_Cmd_1 T kc) (l_gO (qi_b y_rch ?_))
        rintro ⟨z, h3⟩ ⟨e3, ez⟩
        dsimp only at e3 ez ⊢
        subst e3
        rw [hr] at ez
        refine qi_if (fun c4 => ?_) (fun c4 => ?_)
        · have r0 : x_rc (vI h3 (c + 3) 1) (vI h3 (c + 3) 2) rd = 0 := ez.symm.trans c4
          rw [if_pos r0, if_pos r0]
          refine l_gR T (d_Cmd_1 T kc) (l_gO (qi_b (y_ftc (N := N) hpg (by omega) ly kp k2 s hr hl (P2 c2)) ?_))
          rintro ⟨y, h4⟩ ⟨ey, π4, s4, f4⟩
          dsimp only at ey s4 f4 ⊢
          refine qi_if (fun c5 => ?_) (fun c5 => ?_)
          · have t := X h4 π4 0 (Or.inl rfl) s4 f4
            rw [if_pos rfl] at t
            have y0 : y_ft h3 (pg + 3) (c + 3) S rd lc = 0 := ey.symm.trans c5
            rw [if_pos y0, y0]
            exact t
          · have y1 : y_ft h3 (pg + 3) (c + 3) S rd lc = 1 := y_ft01.resolve_left (fun w => c5 (ey.trans w))
            have t := X h4 π4 1 (Or.inr rfl) s4 f4
            rw [if_neg (by decide : ¬ (1 : Int32) = 0)] at t
            rw [y1, if_neg (by decide : ¬ (1 : Int32) = 0)]
            exact t
        · have n4 : ¬ x_rc (vI h3 (c + 3) 1) (vI h3 (c + 3) 2) rd = 0 := fun w => c4 (ez.trans w)
          rw [if_neg n4, if_neg n4]
          have t := X h3 π 1 (Or.inr rfl) s (fun _ _ => rfl)
          rw [if_neg (by decide : ¬ (1 : Int32) = 0)] at t
          exact t
    · exact F87 c1 (fun w => absurd w c2)
end Y9
