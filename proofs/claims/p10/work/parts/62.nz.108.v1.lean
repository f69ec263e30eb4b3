/-! out and ran, on both sides -/
section V1
variable {L : q_L} {W : Nat → Prop} {h h0 h' : z_H} {π : Nat → Nat → Option Nat} {sf mo N r : Nat} {w c : Int32} {X : List Int32}
def x_at8 (X : List Int32) (w : Int32) : Int32 := if 0 ≤ w ∧ w < x_nl8 X then x_tl X w else -1
theorem y_at8 (R : y_R1 h r c X) : (if 0 ≤ w ∧ w < vI h r 1 then vA h (r + 1) w else -1) = x_at8 X w := by
  obtain ⟨e, q⟩ := y_R1_tl R
  unfold x_at8
  rw [← e]
  by_cases z : 0 ≤ w ∧ w < vI h r 1
  · rw [if_pos z, if_pos z]; exact q w z.1 z.2
  · rw [if_neg z, if_neg z]
theorem r_at8 {k a : Nat} (R : r_R1 h mo k a c X) : vI h mo k = x_nl8 X ∧ ∀ j, 0 ≤ j → j < x_nl8 X → vA h (mo + a) j = x_tl X j := by
  have e := x_len8 R.2.1.1 R.1
  refine ⟨e, fun j j0 j1 => ?_⟩
  unfold x_tl
  rw [← R.1]
  exact (x_sl_get R.2.1.1 j0 (by rw [e]; exact j1)).symm
theorem x_at8n (kt : x_kt X) (c6 : x_nl8 X ≤ 600) (z : 0 ≤ w ∧ w < x_nl8 X) : ¬ x_at8 X w = -1 := by
  unfold x_at8
  rw [if_pos z]
  intro q
  have k : x_kc (x_tl X w) := by
    unfold x_tl at q ⊢
    rw [List.getD_eq_getElem?_getD] at q ⊢
    cases hX : X[w.toNatClampNeg]? with
    | none => rw [hX] at q; exact absurd q (by decide)
    | some v => exact kt v (List.mem_of_getElem? hX)
  rw [q] at k
  rcases k with y | y
  · exact absurd y (by decide)
  · exact absurd y.1 (by decide)
theorem x_SF_out9 (U : x_U L π h) (k : qκ L sf = 12) (ly : y_L L (sf + 9)) (R : y_R1 h (sf + 9 + 1) 600 X) : qi (f_SF_out N sf w h) (fun r => r = (if x_at8 X w = -1 then .inr xE3 else .inl (x_at8 X w), h)) := by
  unfold f_SF_out
  refine l_gR U (d_SF_3 U k) ?_
  refine l_gR U (d_Ed_0 U ly.1) ?_
  refine l_gO ?_
  refine qi_b (ii_Row_at U ly.2.2.2.2.1.1) ?_
  rintro r rfl
  dsimp only
  rw [y_at8 R]
  refine qi_bs ?_
  refine qi_if (fun z => qi_some ?_) (fun z => qi_some ?_)
  · rw [if_pos z]
  · rw [if_neg z]
theorem x_Mod_out9 (U : x_U L π h) (M : q_M L π mo) (R : r_R1 h mo 69 43 600 X) : qi (f_Mod_out N mo w h) (fun r => (0 ≤ w ∧ w < x_nl8 X → vI r.2 mo 6 = 0 ∧ r.1 = x_at8 X w) ∧ (¬ (0 ≤ w ∧ w < x_nl8 X) → vI r.2 mo 6 = 1)) := by
  obtain ⟨e, q⟩ := r_at8 R
  have l6 := R.2.1
  unfold f_Mod_out
  refine l_gI (e := vI h mo 69) rfl ?_
  refine jj_Mod_in (v0 := w) (v1 := 0) (v2 := vI h mo 69 - 1) U (fun _ g => ?_) (fun _ g => ?_)
  · try dsimp only
    rw [if_neg (by decide)]
    have z : 0 ≤ w ∧ w < x_nl8 X := by
      obtain ⟨g1, g2⟩ := g
      rw [e] at g2 l6
      obtain ⟨l1, l2⟩ := l6
      exact ⟨g1, by lia⟩
    unfold f_Mod_out_20
    refine l_sIc U (q_Mk M) (by decide) rfl ?_
    intro h1 U1 c1 i1
    refine l_gI (e := 0) (by rw [i1, if_pos rfl]) ?_
    rw [if_pos (by decide)]
    refine l_gR U1 (d_Mo_62 M) ?_
    refine l_aI (e := vA h (mo + 43) w) (fun _ => by rw [x_vA_c (c1 (mo + 43) (by omega))]) (fun _ => ?_)
    refine qi_some ⟨fun _ => ⟨by show vI h1 mo 6 = 0; rw [i1, if_pos rfl], ?_⟩, fun y => absurd z y⟩
    show vA h (mo + 43) w = x_at8 X w
    unfold x_at8
    rw [if_pos z]
    exact q w z.1 z.2
  · try dsimp only
    rw [if_pos rfl]
    have z : ¬ (0 ≤ w ∧ w < x_nl8 X) := by
      rintro ⟨z1, z2⟩
      apply g
      rw [e] at l6 ⊢
      obtain ⟨l1, l2⟩ := l6
      exact ⟨z1, by lia⟩
    unfold f_Mod_out_20
    refine l_sIc U (q_Mk M) (by decide) rfl ?_
    intro h1 U1 c1 i1
    refine l_gI (e := 1) (by rw [i1, if_pos rfl]) ?_
    rw [if_neg (by decide)]
    exact qi_some ⟨fun y => absurd y z, fun _ => by show vI h1 mo 6 = 1; rw [i1, if_pos rfl]⟩
end V1
