/-! what line and more leave, on both sides -/
section W4
variable {L : q_L} {W W' : Nat → Prop} {h h0 : z_H} {π : Nat → Nat → Option Nat} {sf mo N : Nat} {w w1 w2 : Int64}
theorem q_rr (T : q_U L W h0 π h) : q_U L W' h π h := ⟨T.1, T.2.1, T.2.2.1, T.2.2.2.1, T.2.2.2.2.1, T.2.2.2.2.2.1, T.2.2.2.2.2.2.1, fun _ _ => rfl⟩
theorem q_ce {h' : z_H} {π' : Nat → Nat → Option Nat} (T : q_U L W h0 π' h') {a : Nat} (n : ¬ W a) : h' a = h0 a := T.2.2.2.2.2.2.2 a n
theorem q_s59 (T : q_U L W h0 π h) (k : qκ L sf = 12) : 0 ≤ vI h sf 5 ∧ vI h sf 5 ≤ 12 := by
  have c := q_CSF T k
  unfold q_C_SF at c
  have t := T.2.2.2.1 sf 5
  rw [c.2.2.2.2.2.1.1, c.2.2.2.2.2.1.2] at t
  exact t
theorem q_aRr {i : Int32} (T : q_U L W h0 π h) (k : qκ L sf = 12) (i0 : 0 ≤ i) (i1 : i < 12) : aR h (sf + 3) 4 i = some (sf + (528 + 2 * i.toNatClampNeg)) ∧ qκ L (sf + (528 + 2 * i.toNatClampNeg)) = 11 ∧ qhi L (sf + (528 + 2 * i.toNatClampNeg)) 1 = 24 ∧ i.toNatClampNeg < 12 := by
  obtain ⟨x, e, rfl, p, q, s⟩ := r_SF_e3 (f := some) (Q := fun x => x = sf + (528 + 2 * i.toNatClampNeg) ∧ qκ L (sf + (528 + 2 * i.toNatClampNeg)) = 11 ∧ qhi L (sf + (528 + 2 * i.toNatClampNeg)) 1 = 24 ∧ i.toNatClampNeg < 12) T k i0 i1 (fun a b c => ⟨_, rfl, rfl, a, b, c⟩)
  refine ⟨?_, p, q, s⟩
  cases ea : aR h (sf + 3) 4 i with
  | none => rw [ea] at e; cases e
  | some y => rw [ea] at e; exact e
theorem x_sF5 {h' : z_H} {x : Int32} (U : x_U L π h) (k : qκ L sf = 12) (e : sF h sf 11 5 (.int x) = some h') : ∀ b, b ≠ sf → h' b = h b :=
  (l_sIc (f := some) (Q := fun h' => ∀ b, b ≠ sf → h' b = h b) U k (by decide) rfl (fun h' _ c _ => qi_some c)) h' (by rw [e]; rfl)
theorem x_SF_line (T : q_U L W h0 π h) (k : qκ L sf = 12) (hN : 100000 ≤ N) : qi (f_SF_line N sf w1 w2 h) (fun r => ∀ v, r.1 = .inl v → ∀ j, 0 ≤ j → vA r.2 (sf + (528 + 2 * (vI h sf 5).toNatClampNeg) + 1) j = x_app w2 8 (x_app w1 8 (vA h (sf + (528 + 2 * (vI h sf 5).toNatClampNeg) + 1)) 0) (q_cn w1 8) j) := by
  have U := x_U_of T
  have r5 := q_s59 T k
  unfold f_SF_line
  rw [q_isText hN w1 0 h, z_b_some]
  dsimp only
  refine qi_if (fun c => ?_) (fun c => ?_)
  · unfold f_SF_line_16
    exact qi_some (fun v z => by cases z)
  · rw [q_isText hN w2 0 h, z_b_some]
    dsimp only
    refine qi_if (fun c => ?_) (fun c => ?_)
    · unfold f_SF_line_16
      exact qi_some (fun v z => by cases z)
    · refine l_gI (e := vI h sf 5) rfl ?_
      refine qi_if (fun c5 => ?_) (fun c5 => qi_some (fun v z => by cases z))
      refine l_gR U (d_SF_1 U k) ?_
      refine l_gI (e := vI h sf 5) rfl ?_
      obtain ⟨ea, kr, hr, ir⟩ := q_aRr T k r5.1 c5
      rw [ea, z_b_some]
      generalize hrow : sf + (528 + 2 * (vI h sf 5).toNatClampNeg) = row at *
      intro r e
      obtain ⟨u, eu, e⟩ := z_bs e
      obtain ⟨h11, e11, e⟩ := z_bs e
      obtain ⟨h12, e12, e⟩ := z_bs e
      obtain ⟨h13, e13, e⟩ := z_bs e
      obtain ⟨x14, e14, e⟩ := z_bs e
      obtain ⟨h15, e15, e⟩ := z_bs e
      obtain ⟨x16, e16, e⟩ := z_bs e
      cases e
      intro v _ j j0
      obtain ⟨g11, e11', T11, i11, a11⟩ := p_Row_empty (N := N) (W := fun _ => True) (q_rr T) kr trivial
      have eg : g11 = h11 := Option.some.inj (e11'.symm.trans e11)
      subst eg
      have n11 : vI g11 row 1 = 0 := by rw [i11, if_pos ⟨rfl, rfl⟩]
      have c1 := q_cnr_8 w1
      have c2 := q_cnr_8 w2
      obtain ⟨U12, l12, b12⟩ := x_aU_8 (N := N) (m := N) (w := w1) (x_U_of T11) kr hr (by decide) (by rw [n11]; decide) (by rw [n11, Int32.zero_add]; exact ⟨Int32.le_trans c1.2 (by decide), c1.1⟩) h12 e12
      rw [n11, Int32.zero_add] at l12
      obtain ⟨U13, l13, b13⟩ := x_aU_8 (N := N) (m := N) (w := w2) U12 kr hr (by decide) (by rw [l12]; exact c1.1) (by rw [l12]; obtain ⟨p1, p2⟩ := c1; obtain ⟨p3, p4⟩ := c2; constructor <;> lia) h13 e13
      have e9 : vA h15 (row + 1) = vA h13 (row + 1) := x_vA_c (x_sF5 U13 k e15 _ (by omega))
      show vA h15 (row + 1) j = _
      rw [e9, b13 j j0, l12]
      refine x_app_cg w2 8 _ _ _ (fun i i0 => ?_) j j0
      rw [b12 i i0, n11, show vA g11 (row + 1) = vA h (row + 1) from funext (fun z => a11 _ z)]
theorem x_SF_more (T : q_U L W h0 π h) (k : qκ L sf = 12) (hN : 100000 ≤ N) : qi (f_SF_more N sf w h) (fun r => ∀ v, r.1 = .inl v → vI h (sf + (528 + 2 * (vI h sf 5 - 1).toNatClampNeg)) 1 + q_cn w 8 ≤ 24 → ∀ j, 0 ≤ j → vA r.2 (sf + (528 + 2 * (vI h sf 5 - 1).toNatClampNeg) + 1) j = x_app w 8 (vA h (sf + (528 + 2 * (vI h sf 5 - 1).toNatClampNeg) + 1)) (vI h (sf + (528 + 2 * (vI h sf 5 - 1).toNatClampNeg)) 1) j) := by
  have U := x_U_of T
  have r5 := q_s59 T k
  unfold f_SF_more
  rw [q_isText hN w 0 h, z_b_some]
  dsimp only
  refine qi_if (fun c => qi_some (fun v z => by cases z)) (fun c => ?_)
  refine l_gI (e := vI h sf 5) rfl ?_
  refine qi_if (fun c0 => ?_) (fun c0 => ?_)
  · unfold f_SF_more_44
    exact qi_some (fun v z => by cases z)
  have r6 : 0 ≤ vI h sf 5 - 1 ∧ vI h sf 5 - 1 < 12 := by
    obtain ⟨p1, p2⟩ := r5
    constructor <;> lia
  obtain ⟨ea, kr, hr, ir⟩ := q_aRr T k r6.1 r6.2
  have rh := q_rowhi T kr
  refine l_gR U (d_SF_1 U k) ?_
  refine l_gI (e := vI h sf 5) rfl ?_
  rw [ea, z_b_some]
  generalize hrow : sf + (528 + 2 * (vI h sf 5 - 1).toNatClampNeg) = row at *
  rw [q_textLength hN w h, z_b_some]
  dsimp only
  refine qi_b (P := fun _ => True) (fun _ _ => trivial) (fun _ _ => ?_)
  obtain ⟨⟨y6, h6⟩, e6, e6', -⟩ := p_Row_hasRoom (N := N) (v1 := q_cn w 8) T kr
  dsimp only at e6'
  rw [e6, z_b_some]
  dsimp only
  rw [e6']
  refine qi_if (fun c2 => ?_) (fun c2 => ?_)
  · unfold f_SF_more_44
    exact qi_some (fun v z => by cases z)
  · refine l_gR U (d_SF_1 U k) ?_
    refine l_gI (e := vI h sf 5) rfl ?_
    rw [ea, z_b_some]
    intro r e
    obtain ⟨h15, e15, e⟩ := z_bs e
    obtain ⟨x16, e16, e⟩ := z_bs e
    cases e
    intro v _ rm j j0
    have c1 := q_cnr_8 w
    obtain ⟨U15, l15, b15⟩ := x_aU_8 (N := N) (m := N) (w := w) U kr hr (by decide) rh.2.2.1 ⟨rm, by obtain ⟨p1, p2⟩ := c1; have p3 := rh.2.2.1; have p4 := rh.2.2.2; rw [hr] at p4; lia⟩ h15 e15
    exact b15 j j0
theorem x_Mod_line (T : q_U L W h0 π h) (M : q_M L π mo) (hN : 100000 ≤ N) : qi (f_Mod_line N mo w1 w2 h) (fun r => (∀ a, a ≠ mo → a ≠ mo + 2 → a ≠ mo + 3 → r.2 a = h a) ∧ ((q_okc w1 0 8 ≠ 0 ∧ q_okc w2 0 8 ≠ 0 ∧ vI h mo 4 ≠ 12) → (∀ j, 0 ≤ j → j < q_cn w1 8 + q_cn w2 8 → vA r.2 (mo + 3) (24 * vI h mo 4 + j) = x_app w2 8 (x_app w1 8 (fun j => vA h (mo + 3) (24 * vI h mo 4 + j)) 0) (q_cn w1 8) j) ∧ (∀ j, 0 ≤ j → j < 24 * vI h mo 4 ∨ 24 * vI h mo 4 + 24 ≤ j → vA r.2 (mo + 3) j = vA h (mo + 3) j) ∧ ∀ j, 0 ≤ j → ¬ j = vI h mo 4 → vA r.2 (mo + 2) j = vA h (mo + 2) j) ∧ (¬ (q_okc w1 0 8 ≠ 0 ∧ q_okc w2 0 8 ≠ 0 ∧ vI h mo 4 ≠ 12) → ∀ a, a ≠ mo → r.2 a = h a)) := by
  have U := x_U_of T
  have r4 := g_Mo_4 T M
  have c1 := q_cnr_8 w1
  have c2 := q_cnr_8 w2
  generalize hP : (q_okc w1 0 8 ≠ 0 ∧ q_okc w2 0 8 ≠ 0 ∧ vI h mo 4 ≠ 12) = P
  have fl : ∀ (x : Int32), ¬ P → qi (z_b (f_Mod_fail N mo x h) fun r => some (r.1, r.2)) (fun r => (∀ a, a ≠ mo → a ≠ mo + 2 → a ≠ mo + 3 → r.2 a = h a) ∧ (P → (∀ j, 0 ≤ j → j < q_cn w1 8 + q_cn w2 8 → vA r.2 (mo + 3) (24 * vI h mo 4 + j) = x_app w2 8 (x_app w1 8 (fun j => vA h (mo + 3) (24 * vI h mo 4 + j)) 0) (q_cn w1 8) j) ∧ (∀ j, 0 ≤ j → j < 24 * vI h mo 4 ∨ 24 * vI h mo 4 + 24 ≤ j → vA r.2 (mo + 3) j = vA h (mo + 3) j) ∧ ∀ j, 0 ≤ j → ¬ j = vI h mo 4 → vA r.2 (mo + 2) j = vA h (mo + 2) j) ∧ (¬ P → ∀ a, a ≠ mo → r.2 a = h a)) := by
    intro x nP
    unfold f_Mod_fail
    refine qi_b (P := fun r => ∀ b, b ≠ mo → r.2 b = h b) ?_ ?_
    · refine l_sIc U (q_Mk M) (by decide) rfl ?_
      intro h1 _ c _
      exact qi_some c
    · intro r c
      exact qi_some ⟨fun a n1 _ _ => c a n1, fun z => absurd z nP, fun _ a n1 => c a n1⟩
  unfold f_Mod_line
  rcases q_ok01_8 w1 0 with z1 | z1
  · have em : f_Mod_measure N w1 0 h = some (-1, h) := by rw [q_measure hN w1 0 h, z1, if_neg (by decide)]
    rw [em, z_b_some]
    dsimp only
    rw [if_pos (by decide)]
    unfold f_Mod_line_16
    refine qi_b (P := fun _ => True) (fun _ _ => trivial) (fun _ _ => ?_)
    exact fl 1 (fun q => by rw [← hP] at q; exact q.1 z1)
  have em : f_Mod_measure N w1 0 h = some (q_cn w1 8, h) := by rw [q_measure hN w1 0 h, z1, if_pos rfl]
  rw [em, z_b_some]
  dsimp only
  rw [if_neg (Int32.not_lt.mpr c1.1)]
  rcases q_ok01_8 w2 0 with z2 | z2
  · have em2 : f_Mod_measure N w2 0 h = some (-1, h) := by rw [q_measure hN w2 0 h, z2, if_neg (by decide)]
    rw [em2, z_b_some]
    dsimp only
    rw [if_neg (by decide)]
    unfold f_Mod_line_16
    refine qi_b (P := fun _ => True) (fun _ _ => trivial) (fun _ _ => ?_)
    exact fl 1 (fun q => by rw [← hP] at q; exact q.2.1 z2)
  have em2 : f_Mod_measure N w2 0 h = some (q_cn w2 8, h) := by rw [q_measure hN w2 0 h, z2, if_pos rfl]
  rw [em2, z_b_some]
  dsimp only
  rw [if_pos c2.1]
  refine l_gI (e := vI h mo 4) rfl ?_
  refine qi_if (fun c12 => ?_) (fun c12 => ?_)
  · refine qi_b (P := fun _ => True) (fun _ _ => trivial) (fun _ _ => ?_)
    exact fl 2 (fun q => by rw [← hP] at q; exact q.2.2 c12)
  have l12 : vI h mo 4 < 12 := by
    obtain ⟨p1, p2⟩ := r4
    lia
  refine l_sIc U (q_Mk M) (by decide) rfl ?_
  intro h7 U7 c7 i7
  have k4 : vI h7 mo 4 = vI h mo 4 := by rw [i7, if_neg (by decide)]
  refine l_gR U7 (d_Mo_1 M) ?_
  refine l_gI (e := vI h mo 4) k4 ?_
  refine l_uIc U7 ?_
  intro h10 U10 _ c10 a10
  have k10 : vI h10 mo 4 = vI h mo 4 := (x_vI_c (c10 mo (by omega))).trans k4
  refine l_gI (e := vI h mo 4) k10 ?_
  refine qi_b (P := fun _ => True) (fun _ _ => trivial) (fun _ _ => ?_)
  have n10 : vA h10 (mo + 2) (vI h mo 4) = 0 := by rw [a10 _ r4.1, if_pos rfl]
  have s1 := x_uT_8 (N := N) (m := N) (w := w1) (v1 := vI h mo 4) U10 M r4.1 l12 (by rw [n10]; decide) (by rw [n10, Int32.zero_add]; exact ⟨Int32.le_trans c1.2 (by decide), c1.1⟩)
  refine qi_b (P := fun r => _) (show qi (f_Mod_addTo N mo (vI h mo 4) w1 h10) _ from s1) ?_
  rintro h13 ⟨U13, d13, n13, o13, b13, s13⟩
  rw [n10, Int32.zero_add] at n13 b13
  have k13 : vI h13 mo 4 = vI h mo 4 := (x_vI_c (d13 mo (by omega) (by omega))).trans k10
  refine l_gI (e := vI h mo 4) k13 ?_
  refine qi_b (P := fun _ => True) (fun _ _ => trivial) (fun _ _ => ?_)
  have s2 := x_uT_8 (N := N) (m := N) (w := w2) (v1 := vI h mo 4) U13 M r4.1 l12 (by rw [n13]; exact c1.1) (by rw [n13]; obtain ⟨p1, p2⟩ := c1; obtain ⟨p3, p4⟩ := c2; constructor <;> lia)
  refine qi_b (P := fun r => _) (show qi (f_Mod_addTo N mo (vI h mo 4) w2 h13) _ from s2) ?_
  rintro h16 ⟨U16, d16, n16, o16, b16, s16⟩
  rw [n13] at n16 b16
  refine l_gI (e := vI h16 mo 4) rfl ?_
  refine l_sIc U16 (q_Mk M) (by decide) rfl ?_
  intro h18 U18 c18 i18
  refine l_gI (e := vI h18 mo 4) rfl ?_
  have a3 : vA h18 (mo + 3) = vA h16 (mo + 3) := x_vA_c (c18 (mo + 3) (by omega))
  have a2 : vA h18 (mo + 2) = vA h16 (mo + 2) := x_vA_c (c18 (mo + 2) (by omega))
  have a03 : vA h10 (mo + 3) = vA h (mo + 3) := (x_vA_c (c10 (mo + 3) (by omega))).trans (x_vA_c (c7 (mo + 3) (by omega)))
  have a02 : vA h7 (mo + 2) = vA h (mo + 2) := x_vA_c (c7 (mo + 2) (by omega))
  have yP : P := by rw [← hP]; exact ⟨by rw [z1]; decide, by rw [z2]; decide, c12⟩
  refine qi_some ⟨fun a n1 n2 n3 => ?_, fun _ => ⟨fun j j0 jl => ?_, fun j j0 jj => ?_, fun j j0 jn => ?_⟩, fun z => absurd yP z⟩
  · show h18 a = h a
    rw [c18 a n1, d16 a n2 n3, d13 a n2 n3, c10 a n2, c7 a n1]
  · show vA h18 (mo + 3) (24 * vI h mo 4 + j) = _
    rw [a3, b16 j j0 jl]
    refine x_al_8 w2 _ _ _ c1.1 (by obtain ⟨p1, p2⟩ := c1; obtain ⟨p3, p4⟩ := c2; constructor <;> lia) (fun i i0 il => ?_) j j0 jl
    rw [b13 i i0 il, a03]
  · show vA h18 (mo + 3) j = _
    rw [a3, s16 j j0 jj, s13 j j0 jj, a03]
  · show vA h18 (mo + 2) j = _
    rw [a2, o16 j j0 jn, o13 j j0 jn, a10 j j0, if_neg jn, a02]
end W4
