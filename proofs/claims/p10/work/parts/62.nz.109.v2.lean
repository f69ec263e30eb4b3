/-! ran, on both sides -/
def x_rn9 (O S H : List Int32) (a b c d w : Int32) : Option Int32 := if 10 ≤ w ∧ w ≤ 69 then some (x_at8 S (w - 10)) else if 100 ≤ w ∧ w ≤ 159 then some (x_at8 H (w - 100)) else if w = 0 then some (x_nl8 O) else if w = 1 then some a else if w = 2 then some b else if w = 3 then some c else if w = 4 then some d else none
section V2
variable {L : q_L} {W : Nat → Prop} {h h0 h' : z_H} {π : Nat → Nat → Option Nat} {sf mo N r sp ho dr : Nat} {w c a1 a2 a3 a4 : Int32} {X O S H A : List Int32}
theorem x_rn9_s (z : 10 ≤ w ∧ w ≤ 69) : x_rn9 O S H a1 a2 a3 a4 w = some (x_at8 S (w - 10)) := if_pos z
theorem x_rn9_h (z1 : ¬ (10 ≤ w ∧ w ≤ 69)) (z : 100 ≤ w ∧ w ≤ 159) : x_rn9 O S H a1 a2 a3 a4 w = some (x_at8 H (w - 100)) := (if_neg z1).trans (if_pos z)
theorem x_rn9_n (z1 : ¬ (10 ≤ w ∧ w ≤ 69)) (z2 : ¬ (100 ≤ w ∧ w ≤ 159)) : x_rn9 O S H a1 a2 a3 a4 w = (if w = 0 then some (x_nl8 O) else if w = 1 then some a1 else if w = 2 then some a2 else if w = 3 then some a3 else if w = 4 then some a4 else none) := (if_neg z1).trans (if_neg z2)
theorem x_SF_ran9 (k : qκ L sf = 12) (ly : y_L L (sf + 9)) (S0 : y_S0 L (sf + 9) π h sp ho dr O S H A) : qi (f_SF_ran N sf w h) (fun r => r = ((x_rn9 O S H (vI h (sf + 9) 3) (vI h (sf + 9) 4) (vI h (sf + 9) 5) (vI h (sf + 9) 6) w).elim (.inr xE1) .inl, h)) := by
  obtain ⟨⟨U, p1, p2, -⟩, D, RO, RS, RH, -⟩ := S0
  have ks : qκ L sp = 11 := by
    rcases D.1 with e | e | e <;> rw [e]
    · exact ly.2.1.1
    · exact ly.2.2.1.1
    · exact ly.2.2.2.1.1
  have kh : qκ L ho = 11 := by
    rcases D.2.1 with e | e | e <;> rw [e]
    · exact ly.2.1.1
    · exact ly.2.2.1.1
    · exact ly.2.2.2.1.1
  by_cases z1 : 10 ≤ w ∧ w ≤ 69
  · unfold f_SF_ran
    rw [if_neg (Int32.not_lt.mpr z1.1), if_neg (by have := z1.2; lia)]
    refine l_gR U (d_SF_3 U k) ?_
    refine l_gR U p1 ?_
    refine l_gO ?_
    refine qi_b (ii_Row_at U ks) ?_
    rintro r rfl
    dsimp only
    rw [y_at8 RS]
    refine qi_some ?_
    rw [x_rn9_s z1]
    rfl
  · have e1 : f_SF_ran N sf w h = f_SF_ran_27 N sf w h := by
      unfold f_SF_ran
      by_cases y : w < 10
      · rw [if_pos y]
      · rw [if_neg y, if_pos (by have := Int32.not_lt.mp y; by_cases y2 : w ≤ 69; exact absurd ⟨this, y2⟩ z1; lia)]
    rw [e1]
    by_cases z2 : 100 ≤ w ∧ w ≤ 159
    · unfold f_SF_ran_27
      rw [if_neg (Int32.not_lt.mpr z2.1), if_neg (by have := z2.2; lia)]
      refine l_gR U (d_SF_3 U k) ?_
      refine l_gR U p2 ?_
      refine l_gO ?_
      refine qi_b (ii_Row_at U kh) ?_
      rintro r rfl
      dsimp only
      rw [y_at8 RH]
      refine qi_some ?_
      rw [x_rn9_h z1 z2]
      rfl
    · have e2 : f_SF_ran_27 N sf w h = f_SF_ran_55 N sf w h := by
        unfold f_SF_ran_27
        by_cases y : w < 100
        · rw [if_pos y]
        · rw [if_neg y, if_pos (by have := Int32.not_lt.mp y; by_cases y2 : w ≤ 159; exact absurd ⟨this, y2⟩ z2; lia)]
      rw [e2, x_rn9_n z1 z2]
      unfold f_SF_ran_55
      refine qi_if (fun z => ?_) (fun y0 => qi_if (fun z => ?_) (fun y1 => qi_if (fun z => ?_) (fun y2 => qi_if (fun z => ?_) (fun y3 => qi_if (fun z => ?_) (fun y4 => ?_)))))
      · refine l_gR U (d_SF_3 U k) ?_
        refine l_gR U (d_Ed_0 U ly.1) ?_
        refine l_gI (e := x_nl8 O) (y_R1_tl RO).1 ?_
        refine qi_some ?_
        rw [if_pos z]; rfl
      · refine l_gR U (d_SF_3 U k) ?_
        refine l_gI (e := vI h (sf + 9) 3) rfl ?_
        refine qi_some ?_
        rw [if_neg y0, if_pos z]; rfl
      · refine l_gR U (d_SF_3 U k) ?_
        refine l_gI (e := vI h (sf + 9) 4) rfl ?_
        refine qi_some ?_
        rw [if_neg y0, if_neg y1, if_pos z]; rfl
      · refine l_gR U (d_SF_3 U k) ?_
        refine l_gI (e := vI h (sf + 9) 5) rfl ?_
        refine qi_some ?_
        rw [if_neg y0, if_neg y1, if_neg y2, if_pos z]; rfl
      · refine l_gR U (d_SF_3 U k) ?_
        refine l_gI (e := vI h (sf + 9) 6) rfl ?_
        refine qi_some ?_
        rw [if_neg y0, if_neg y1, if_neg y2, if_neg y3, if_pos z]; rfl
      · refine qi_some ?_
        rw [if_neg y0, if_neg y1, if_neg y2, if_neg y3, if_neg y4]; rfl
theorem x_Mod_ran38 (U : x_U L π h) (M : q_M L π mo) (RO : r_R1 h mo 69 43 600 O) (RS : r_R1 h mo 65 39 60 S) (RH : r_R1 h mo 66 40 60 H) (z : (0 ≤ w ∧ w ≤ 4) ∨ (10 ≤ w ∧ w ≤ 69) ∨ (100 ≤ w ∧ w ≤ 159)) : qi (f_Mod_ran_38 N mo w h) (fun r => vI r.2 mo 6 = 0 ∧ x_rn9 O S H (vI h mo 70) (vI h mo 71) (vI h mo 72) (vI h mo 73) w = some r.1) := by
  obtain ⟨eS, qS⟩ := r_at8 RS
  obtain ⟨eH, qH⟩ := r_at8 RH
  obtain ⟨eO, -⟩ := r_at8 RO
  unfold f_Mod_ran_38
  refine l_sIc U (q_Mk M) (by decide) rfl ?_
  intro h1 U1 c1 i1
  have t6 : vI h1 mo 6 = 0 := by rw [i1, if_pos rfl]
  refine qi_if (fun y5 => qi_if (fun y1 => ?_) (fun y1 => ?_)) (fun y5 => ?_)
  · have z2 : 100 ≤ w ∧ w ≤ 159 := by
      refine ⟨y1, ?_⟩
      rcases z with z | z | z
      · have := z.2; lia
      · have := z.2; lia
      · exact z.2
    have z1 : ¬ (10 ≤ w ∧ w ≤ 69) := fun q => by have := q.2; lia
    refine l_gI (e := vI h mo 66) (by rw [i1, if_neg (by decide)]) ?_
    refine qi_if (fun y => qi_some ⟨t6, ?_⟩) (fun y => ?_)
    · rw [x_rn9_h z1 z2]
      unfold x_at8
      rw [if_neg (fun q => absurd (eH ▸ q.2) (Int32.not_lt.mpr y))]
    · refine l_gR U1 (d_Mo_59 M) ?_
      refine l_aI (e := vA h (mo + 40) (w - 100)) (fun _ => by rw [x_vA_c (c1 (mo + 40) (by omega))]) (fun j0 => ?_)
      refine qi_some ⟨t6, ?_⟩
      have j1 : w - 100 < x_nl8 H := eH ▸ Int32.not_le.mp y
      rw [x_rn9_h z1 z2]
      unfold x_at8
      rw [if_pos ⟨j0, j1⟩, ← qH _ j0 j1]
  · have z1 : 10 ≤ w ∧ w ≤ 69 := by
      rcases z with z | z | z
      · have := z.2; lia
      · exact z
      · exact absurd z.1 y1
    refine l_gI (e := vI h mo 65) (by rw [i1, if_neg (by decide)]) ?_
    refine qi_if (fun y => qi_some ⟨t6, ?_⟩) (fun y => ?_)
    · rw [x_rn9_s z1]
      unfold x_at8
      rw [if_neg (fun q => absurd (eS ▸ q.2) (Int32.not_lt.mpr y))]
    · refine l_gR U1 (d_Mo_58 M) ?_
      refine l_aI (e := vA h (mo + 39) (w - 10)) (fun _ => by rw [x_vA_c (c1 (mo + 39) (by omega))]) (fun j0 => ?_)
      refine qi_some ⟨t6, ?_⟩
      have j1 : w - 10 < x_nl8 S := eS ▸ Int32.not_le.mp y
      rw [x_rn9_s z1]
      unfold x_at8
      rw [if_pos ⟨j0, j1⟩, ← qS _ j0 j1]
  · have z1 : ¬ (10 ≤ w ∧ w ≤ 69) := fun q => by have := q.1; lia
    have z2 : ¬ (100 ≤ w ∧ w ≤ 159) := fun q => by have := q.1; lia
    have z0 : 0 ≤ w := by
      rcases z with z | z | z
      · exact z.1
      · exact absurd z z1
      · exact absurd z z2
    rw [x_rn9_n z1 z2]
    refine qi_if (fun z => ?_) (fun y0 => qi_if (fun z => ?_) (fun y1 => qi_if (fun z => ?_) (fun y2 => qi_if (fun z => ?_) (fun y3 => ?_))))
    · refine l_gI (e := vI h mo 69) (by rw [i1, if_neg (by decide)]) ?_
      refine qi_some ⟨t6, ?_⟩
      rw [if_pos z, eO]
    · refine l_gI (e := vI h mo 70) (by rw [i1, if_neg (by decide)]) ?_
      refine qi_some ⟨t6, ?_⟩
      rw [if_neg y0, if_pos z]
    · refine l_gI (e := vI h mo 71) (by rw [i1, if_neg (by decide)]) ?_
      refine qi_some ⟨t6, ?_⟩
      rw [if_neg y0, if_neg y1, if_pos z]
    · refine l_gI (e := vI h mo 72) (by rw [i1, if_neg (by decide)]) ?_
      refine qi_some ⟨t6, ?_⟩
      rw [if_neg y0, if_neg y1, if_neg y2, if_pos z]
    · refine l_gI (e := vI h mo 73) (by rw [i1, if_neg (by decide)]) ?_
      refine qi_some ⟨t6, ?_⟩
      rw [if_neg y0, if_neg y1, if_neg y2, if_neg y3, if_pos (by lia)]
theorem x_Mod_ran9 (U : x_U L π h) (M : q_M L π mo) (RO : r_R1 h mo 69 43 600 O) (RS : r_R1 h mo 65 39 60 S) (RH : r_R1 h mo 66 40 60 H) : qi (f_Mod_ran N mo w h) (fun r => (vI r.2 mo 6 = 0 ∧ x_rn9 O S H (vI h mo 70) (vI h mo 71) (vI h mo 72) (vI h mo 73) w = some r.1) ∨ (vI r.2 mo 6 = 1 ∧ x_rn9 O S H (vI h mo 70) (vI h mo 71) (vI h mo 72) (vI h mo 73) w = none)) := by
  have e38 := fun z => x_Mod_ran38 (N := N) (w := w) U M RO RS RH z
  have inl : ∀ z, qi (f_Mod_ran_38 N mo w h) (fun r => (vI r.2 mo 6 = 0 ∧ x_rn9 O S H (vI h mo 70) (vI h mo 71) (vI h mo 72) (vI h mo 73) w = some r.1) ∨ (vI r.2 mo 6 = 1 ∧ x_rn9 O S H (vI h mo 70) (vI h mo 71) (vI h mo 72) (vI h mo 73) w = none)) := fun z x e => Or.inl (e38 z x e)
  unfold f_Mod_ran
  refine jj_Mod_in (v0 := w) (v1 := 0) (v2 := 4) U (fun _ g => ?_) (fun _ g => ?_)
  · try dsimp only
    rw [if_neg (by decide)]
    exact inl (Or.inl g)
  · try dsimp only
    rw [if_pos rfl]
    refine jj_Mod_in (v0 := w) (v1 := 10) (v2 := 69) U (fun _ g1 => ?_) (fun _ g1 => ?_)
    · try dsimp only
      rw [if_neg (by decide)]
      exact inl (Or.inr (Or.inl g1))
    · try dsimp only
      rw [if_pos rfl]
      refine jj_Mod_in (v0 := w) (v1 := 100) (v2 := 159) U (fun _ g2 => ?_) (fun _ g2 => ?_)
      · try dsimp only
        rw [if_neg (by decide)]
        exact inl (Or.inr (Or.inr g2))
      · try dsimp only
        rw [if_pos rfl]
        refine l_gO ?_
        refine jj_Mod_fail U M ?_
        intro y h' U' e6 ey _ _ _
        try dsimp only
        refine qi_some (Or.inr ⟨e6, ?_⟩)
        rw [x_rn9_n g1 g2, if_neg (fun q => g (by rw [q]; decide)), if_neg (fun q => g (by rw [q]; decide)), if_neg (fun q => g (by rw [q]; decide)), if_neg (fun q => g (by rw [q]; decide)), if_neg (fun q => g (by rw [q]; decide))]
end V2
