/-! reference: what is appended, numbers -/
/-- what is appended is nothing, or ends with a 10 -/
def x_a10 (A : List Int32) : Prop := A = [] ∨ ∃ B, A = B ++ [10]
/-- what telling what is appended leaves -/
def r_TA (L : q_L) (π : Nat → Nat → Option Nat) (v0 : Nat) (h : z_H) (O S H A : List Int32) (r : Int32 × z_H) : Prop := r_S L π v0 r.2 (x_ta O [] A).1 S H [] ∧ r_F v0 h r.2 ∧ r_In h r.2 v0 ∧ r_B h r.2 v0 r.1 ((x_ta O [] A).2 = 1)
theorem r_R1_tl {h : z_H} {v0 k a : Nat} {c : Int32} {X : List Int32} (r : r_R1 h v0 k a c X) : vI h v0 k = x_nl8 X ∧ ∀ j, 0 ≤ j → j < vI h v0 k → vA h (v0 + a) j = x_tl X j := by
  constructor
  · have e := x_ct_e r.2.1.1 (Int32.le_refl 0)
    rw [← r_R1_len r, Int32.zero_add] at e
    exact e.symm
  · intro j j0 j1
    unfold x_tl
    rw [← r.1]
    exact (x_sl_get r.2.1.1 j0 j1).symm
theorem x_sl_tl {h : z_H} {v0 k a : Nat} {c : Int32} {X : List Int32} (r : r_R1 h v0 k a c X) : x_sl (x_tl X) 0 (x_nl8 X) = X := by
  have t := r_R1_tl r
  have z := r.1
  unfold r_l at z
  rw [← t.1, ← x_sl_e (Int32.le_refl 0) r.2.1.1 t.2, z]
section R3
variable {L : q_L} {π : Nat → Nat → Option Nat} {N v0 : Nat} {h : z_H} {O S H A : List Int32}
theorem r_tA71 {y : Int32} {h1 : z_H} {O1 A1 : List Int32} (s1 : r_S L π v0 h1 O1 S H A1) (F1 : r_F v0 h h1) (I1 : r_In h h1 v0) (b : r_B h h1 v0 y ((x_ta O [] A).2 = 1)) (eO : O1 = (x_ta O [] A).1) : qi (f_Mod_tellAppended_71 N v0 y h1) (r_TA L π v0 h O S H A) := by
  obtain ⟨⟨T, M⟩, a1, a2, a3, a4⟩ := s1
  unfold f_Mod_tellAppended_71
  refine l_sIc T M.1 (by decide) rfl ?_
  intro h2 T2 c2 u2
  have J : ∀ k, k ≠ 68 → vI h2 v0 k = vI h1 v0 k := fun k hk => by rw [u2 k, if_neg hk]
  have e68 : vI h2 v0 68 = 0 := by rw [u2 68, if_pos rfl]
  refine qi_zB (fun _ => qi_some ⟨⟨⟨T2, M⟩, ?_, r_R1_c a2 (J 65 (by decide)) (c2 _ (by omega)), r_R1_c a3 (J 66 (by decide)) (c2 _ (by omega)), ?_, by rw [e68]; decide, x_kt_0⟩, ⟨fun a ha hn => (c2 a hn).trans (F1.1 a ha hn), fun k hk hn => (J k (by omega)).trans (F1.2 k hk hn)⟩, fun k hk hn => (J k (by omega)).trans (I1 k hk hn), ?_⟩)
  · rw [← eO]; exact r_R1_c a1 (J 69 (by decide)) (c2 _ (by omega))
  · unfold r_l
    rw [e68]
    exact x_sl_0 (Int32.le_refl 0) (by decide) (by decide)
  · rcases b with ⟨b1, b2, b3, b4⟩ | ⟨b1, b2, b3, b4⟩
    · exact Or.inl ⟨b1, b2, by show vI h2 v0 76 = _; rw [J 76 (by decide), b3], by show vI h2 v0 6 = _; rw [J 6 (by decide), b4]⟩
    · exact Or.inr ⟨b1, b2, by show vI h2 v0 76 = _; rw [J 76 (by decide), b3], by show vI h2 v0 6 = _; rw [J 6 (by decide), b4]⟩
set_option maxHeartbeats 2000000 in
theorem r_tA21 {f4 : Nat → Int32 → Int32 → z_H → Option (Int32 × z_H)} {h1 : z_H} {O1 : List Int32} (s1 : r_S L π v0 h1 O1 S H A) (F1 : r_F v0 h h1) (I1 : r_In h h1 v0) (b76 : vI h1 v0 76 = vI h v0 76 ∧ vI h1 v0 6 = vI h v0 6) (last : x_tl A (x_nl8 A - 1) = 10) (K : ∀ (i : Int32) (y : Int32) (O2 : List Int32) (h2 : z_H), 0 ≤ i → i ≤ x_nl8 A → r_S L π v0 h2 O2 S H A → r_F v0 h h2 → r_In h h2 v0 → ((y = 1 ∧ x_ta O [] A = x_ta O2 [] (x_sl (x_tl A) i (x_nl8 A)) ∧ vI h2 v0 76 = vI h v0 76 ∧ vI h2 v0 6 = vI h v0 6) ∨ (y = 0 ∧ O2 = (x_ta O [] A).1 ∧ (x_ta O [] A).2 = 0 ∧ vI h2 v0 76 = 1 ∧ vI h2 v0 6 = 2)) → qi (f4 v0 i y h2) (r_TA L π v0 h O S H A)) : ∀ (m : Nat) (i : Int32) (W : List Int32) (h3 : z_H), x_U L π h3 → (∀ b, b ≠ v0 → b ≠ v0 + 41 → h3 b = h1 b) → (∀ k, k ≠ 67 → vI h3 v0 k = vI h1 v0 k) → r_R1 h3 v0 67 41 400 W → vI h3 v0 67 ≤ i → 0 ≤ i → i < x_nl8 A → x_ta O [] A = x_ta O1 W (x_sl (x_tl A) i (x_nl8 A)) → qi (f_Mod_tellAppended_21 N f4 m v0 i h3) (r_TA L π v0 h O S H A) := by
  obtain ⟨⟨T1, M⟩, a1, a2, a3, a4⟩ := id s1
  have tl := r_R1_tl a4
  have zA := x_sl_tl a4
  have n2 : x_nl8 A ≤ 200 := by rw [← tl.1]; exact a4.2.1.2
  have n0 : 0 ≤ x_nl8 A := by rw [← tl.1]; exact a4.2.1.1
  have kA := a4.2.2
  rw [← zA] at kA
  have KC := x_kt_g (Int32.le_refl 0) n0 kA
  intro m
  induction m with
  | zero => intro i W h3 _ _ _ _ _ _ _ _ r e; rw [f_Mod_tellAppended_21] at e; cases e
  | succ m ih =>
    intro i W h3 T3 F3 I3 w wi i0 i_n EQ
    rw [x_sl_1 i_n i0, x_ta] at EQ
    have hA3 : vA h3 (v0 + 42) i = x_tl A i := by rw [x_vA_c (F3 (v0 + 42) (by omega) (by omega))]; exact tl.2 i i0 (by rw [tl.1]; exact i_n)
    rw [f_Mod_tellAppended_21]
    refine l_gR T3 (d_Mo_61 M) (l_aI (e := x_tl A i) (fun _ => hA3) (fun _ => ?_))
    refine qi_if (fun c => ?_) (fun c => ?_)
    · rw [if_pos c] at EQ
      refine qi_bs (l_gO (qi_b (r_tell (N := N) s1 T3 F3 I3 w) ?_))
      rintro ⟨y, h4⟩ ⟨s4, F4, I4, B4⟩
      dsimp only at s4 F4 I4 B4 ⊢
      refine qi_bs ?_
      by_cases rm : O1.length + W.length + 1 ≤ 600
      · rw [if_pos rm] at EQ s4
        rcases B4 with ⟨y1, _, y3, y4⟩ | ⟨_, y2, _⟩
        · exact K (i + 1) y _ h4 (by lia) (by lia) s4 (r_F_t F1 F4) (fun k hk hn => (I4 k hk hn).trans (I1 k hk hn)) (Or.inl ⟨y1, EQ, y3.trans b76.1, y4.trans b76.2⟩)
        · exact absurd rm y2
      · rw [if_neg rm] at EQ s4
        rcases B4 with ⟨_, y2, _⟩ | ⟨y1, _, y3, y4⟩
        · exact absurd y2 rm
        · exact K (i + 1) y _ h4 (by lia) (by lia) s4 (r_F_t F1 F4) (fun k hk hn => (I4 k hk hn).trans (I1 k hk hn)) (Or.inr ⟨y1, by rw [EQ], by rw [EQ], y3, y4⟩)
    · rw [if_neg c] at EQ
      have ne : i + 1 < x_nl8 A := by
        refine Classical.byContradiction fun z => c ?_
        have e : i = x_nl8 A - 1 := by lia
        rw [e]; exact last
      refine l_gR T3 (d_Mo_60 M) (l_gI (e := vI h3 v0 67) rfl (l_sIc T3 M.1 (by decide) rfl ?_))
      intro h4 T4 c4 u4
      refine l_gR T4 (d_Mo_61 M) (qi_bs (l_aI (e := x_tl A i) (fun _ => by rw [x_vA_c (c4 (v0 + 42) (by omega)), hA3]) (fun _ => ?_)))
      refine r_wk T3 M w (by lia) (KC i i0 i_n) ?_ h4 T4 c4 u4
      intro h5 T5 F5 I5 e5 w5
      exact ih (i + 1) (W ++ [x_tl A i]) h5 T5 (fun b b1 b2 => (F5 b b1 b2).trans (F3 b b1 b2)) (fun k hk => (I5 k hk).trans (I3 k hk)) w5 (by rw [e5]; lia) (by lia) ne EQ
theorem r_tA4 (last : x_nl8 A = 0 ∨ x_tl A (x_nl8 A - 1) = 10) : ∀ (m : Nat) (i y : Int32) (O1 : List Int32) (h1 : z_H), r_S L π v0 h1 O1 S H A → r_F v0 h h1 → r_In h h1 v0 → 0 ≤ i → i ≤ x_nl8 A → ((y = 1 ∧ x_ta O [] A = x_ta O1 [] (x_sl (x_tl A) i (x_nl8 A)) ∧ vI h1 v0 76 = vI h v0 76 ∧ vI h1 v0 6 = vI h v0 6) ∨ (y = 0 ∧ O1 = (x_ta O [] A).1 ∧ (x_ta O [] A).2 = 0 ∧ vI h1 v0 76 = 1 ∧ vI h1 v0 6 = 2)) → qi (f_Mod_tellAppended_4 N m v0 i y h1) (r_TA L π v0 h O S H A) := by
  intro m
  induction m with
  | zero => intro i y O1 h1 _ _ _ _ _ _ r e; rw [f_Mod_tellAppended_4] at e; cases e
  | succ m ih =>
    intro i y O1 h1 s1 F1 I1 i0 i_n st
    obtain ⟨⟨T1, M⟩, a1, a2, a3, a4⟩ := id s1
    have tl := r_R1_tl a4
    rw [f_Mod_tellAppended_4]
    refine l_gI (e := x_nl8 A) tl.1 ?_
    refine qi_if (fun c => ?_) (fun c => ?_)
    · have ei : i = x_nl8 A := Int32.le_antisymm i_n c
      rcases st with ⟨y1, y2, y3, y4⟩ | ⟨y1, y2, y3, y4, y5⟩
      · rw [ei, x_sl_0 (Int32.le_refl _) (by rw [← ei]; exact i0) (by rw [← ei]; exact i0), x_ta] at y2
        exact r_tA71 (N := N) s1 F1 I1 (Or.inl ⟨y1, by rw [y2], y3, y4⟩) (by rw [y2])
      · exact r_tA71 (N := N) s1 F1 I1 (Or.inr ⟨y1, by rw [y3]; decide, y4, y5⟩) y2
    · have cl := Int32.not_le.mp c
      refine qi_if (fun c1 => ?_) (fun c1 => ?_)
      · rcases st with ⟨y1, _⟩ | ⟨y1, y2, y3, y4, y5⟩
        · rw [y1] at c1; exact absurd c1 (by decide)
        · exact r_tA71 (N := N) s1 F1 I1 (Or.inr ⟨y1, by rw [y3]; decide, y4, y5⟩) y2
      · rcases st with ⟨y1, y2, y3, y4⟩ | ⟨y1, _⟩
        · refine l_sIc T1 M.1 (by decide) rfl ?_
          intro h2 T2 c2 u2
          have e67 : vI h2 v0 67 = 0 := by rw [u2 67, if_pos rfl]
          have la : x_tl A (x_nl8 A - 1) = 10 := last.resolve_left (fun z => by rw [z] at cl; exact absurd (Int32.lt_of_le_of_lt i0 cl) Int32.lt_irrefl)
          refine r_tA21 (N := N) s1 F1 I1 ⟨y3, y4⟩ la (fun i' y' O2 h5 i0' i1' s5 F5 I5 st5 => ih i' y' O2 h5 s5 F5 I5 i0' i1' st5) N i [] h2 T2 (fun b b1 _ => c2 b b1) (fun k hk => by rw [u2 k, if_neg hk]) ⟨?_, by rw [e67]; decide, x_kt_0⟩ (by rw [e67]; exact i0) i0 cl y2
          unfold r_l
          rw [e67]
          exact x_sl_0 (Int32.le_refl 0) (by decide) (by decide)
        · exact absurd y1 c1
theorem x_a10_l {h : z_H} {v0 k a : Nat} {c : Int32} {A : List Int32} (r : r_R1 h v0 k a c A) (c1 : c ≤ 1000) (e : x_a10 A) : x_nl8 A = 0 ∨ x_tl A (x_nl8 A - 1) = 10 := by
  rcases e with e | ⟨B, e⟩
  · left; rw [e]; rfl
  · right
    have t := r_R1_tl r
    have z := r.1
    unfold r_l at z
    have n0 := r.2.1.1
    have l := r_R1_len r
    have pos : 0 < vI h v0 k := by
      refine Int32.not_le.mp fun w => ?_
      have q : vI h v0 k = 0 := Int32.le_antisymm w n0
      rw [q] at l
      rw [e, List.length_append] at l
      exact absurd l (by
        have : x_ct 0 0 = 0 := by decide
        rw [this]
        simp)
    have e1 : vI h v0 k - 1 + 1 = vI h v0 k := by grind
    have q := x_sl_q (f := vA h (v0 + a)) (a := 0) (b := vI h v0 k - 1) (by lia) (Int32.le_refl 0) (by have := r.2.1.2; lia)
    rw [e1, z, e] at q
    have w := List.append_inj_right' q rfl
    rw [← t.1, ← t.2 _ (by lia) (by lia)]
    exact (List.cons.inj w).1.symm
theorem r_tA (s : r_S L π v0 h O S H A) (e10 : x_a10 A) : qi (f_Mod_tellAppended N v0 h) (r_TA L π v0 h O S H A) := by
  have a4 := s.2.2.2.2
  have tl := r_R1_tl a4
  unfold f_Mod_tellAppended
  exact r_tA4 (N := N) (x_a10_l a4 (by decide) e10) N 0 1 O h s r_F_r (fun _ _ _ => rfl) (Int32.le_refl 0) (by rw [← tl.1]; exact a4.2.1.1) (Or.inl ⟨rfl, by rw [x_sl_tl a4], rfl, rfl⟩)
/-- the number of lines read is told -/
theorem r_tN (s : r_S L π v0 h O S H A) (r0 : 0 ≤ vI h v0 70) (r1 : vI h v0 70 ≤ 12) : qi (f_Mod_tellNumber N v0 h) (r_T L π v0 h O S H A (x_nm (vI h v0 70))) := by
  obtain ⟨⟨T, M⟩, a1, a2, a3, a4⟩ := id s
  have nk := x_nm_k r0 r1
  have TAIL : ∀ (h1 : z_H) (X : List Int32), x_U L π h1 → (∀ b, b ≠ v0 → b ≠ v0 + 41 → h1 b = h b) → (∀ k, k ≠ 67 → vI h1 v0 k = vI h v0 k) → r_R1 h1 v0 67 41 400 X → vI h1 v0 67 ≤ 1 → X ++ [48 + (vI h v0 70 - vI h v0 70 / 10 * 10)] = x_nm (vI h v0 70) → qi (f_Mod_tellNumber_40 N v0 h1) (r_T L π v0 h O S H A (x_nm (vI h v0 70))) := by
    intro h1 X T1 F1 I1 w l1 eX
    unfold f_Mod_tellNumber_40
    refine l_gR T1 (d_Mo_60 M) (l_gI (e := vI h1 v0 67) rfl (l_sIc T1 M.1 (by decide) rfl ?_))
    intro h2 T2 c2 u2
    refine l_gI (e := vI h v0 70) (by rw [u2 70, if_neg (by decide), I1 70 (by decide)]) ?_
    refine r_wk T1 M w (by lia) nk.2.2.2 ?_ h2 T2 c2 u2
    intro h3 T3 F3 I3 e3 w3
    rw [eX] at w3
    refine l_gO (qi_b (r_tell (N := N) s T3 (fun b b1 b2 => (F3 b b1 b2).trans (F1 b b1 b2)) (fun k hk => (I3 k hk).trans (I1 k hk)) w3) ?_)
    rintro ⟨y, h4⟩ p
    exact qi_zB (fun _ => qi_some p)
  unfold f_Mod_tellNumber
  refine l_sIc T M.1 (by decide) rfl ?_
  intro h1 T1 c1 u1
  have e67 : vI h1 v0 67 = 0 := by rw [u1 67, if_pos rfl]
  have w0 : r_R1 h1 v0 67 41 400 [] := by
    refine ⟨?_, by rw [e67]; decide, x_kt_0⟩
    unfold r_l
    rw [e67]
    exact x_sl_0 (Int32.le_refl 0) (by decide) (by decide)
  have I1 : ∀ k, k ≠ 67 → vI h1 v0 k = vI h v0 k := fun k hk => by rw [u1 k, if_neg hk]
  refine l_gI (e := vI h v0 70) (I1 70 (by decide)) ?_
  refine qi_if (fun c => ?_) (fun c => ?_)
  · refine TAIL h1 [] T1 (fun b b1 _ => c1 b b1) I1 w0 (by rw [e67]; decide) ?_
    unfold x_nm
    rw [if_pos (by lia), List.nil_append]
  · refine l_gR T1 (d_Mo_60 M) (l_gI (e := vI h1 v0 67) rfl (l_sIc T1 M.1 (by decide) rfl ?_))
    intro h2 T2 c2 u2
    refine l_gI (e := vI h v0 70) (by rw [u2 70, if_neg (by decide), I1 70 (by decide)]) ?_
    refine r_wk T1 M w0 (by rw [e67]; decide) nk.2.2.1 ?_ h2 T2 c2 u2
    intro h3 T3 F3 I3 e3 w3
    refine TAIL h3 _ T3 (fun b b1 b2 => (F3 b b1 b2).trans (c1 b b1)) (fun k hk => (I3 k hk).trans (I1 k hk)) w3 (by rw [e3, e67]; decide) ?_
    unfold x_nm
    rw [if_neg (by lia)]
    rfl
end R3
