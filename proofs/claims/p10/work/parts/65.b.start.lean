/-! the heap at the law's loop: typed, and as the invariant wants it -/
def c_L (B : Nat) (h : z_H) : q_L := ((fun a => if a < B then 0 else k_T (a - B)), (fun a k => if a < B then k_full else k_R (a - B) k), (fun a => if a < B then k_full else k_E (a - B)), fun a i => vQ h a i)
section CL
variable {B j k a x : Nat} {h : z_H}
theorem c_Lκ : qκ (c_L B h) (B + j) = k_T j := by
  show (if B + j < B then 0 else k_T (B + j - B)) = _
  rw [if_neg (by omega), Nat.add_sub_cancel_left]
theorem c_Lr : (c_L B h).2.1 (B + j) k = k_R j k := by
  show (if B + j < B then k_full else k_R (B + j - B) k) = _
  rw [if_neg (by omega), Nat.add_sub_cancel_left]
theorem c_Le : (c_L B h).2.2.1 (B + j) = k_E j := by
  show (if B + j < B then k_full else k_E (B + j - B)) = _
  rw [if_neg (by omega), Nat.add_sub_cancel_left]
theorem c_Llo : qlo (c_L B h) (B + j) k = (k_R j k).1 := congrArg Prod.fst c_Lr
theorem c_Lhi : qhi (c_L B h) (B + j) k = (k_R j k).2 := congrArg Prod.snd c_Lr
theorem c_Lel : qel (c_L B h) (B + j) = (k_E j).1 := congrArg Prod.fst c_Le
theorem c_Leh : qeh (c_L B h) (B + j) = (k_E j).2 := congrArg Prod.snd c_Le
theorem k_T0 (h : 599 ≤ j) : k_T j = 0 := by
  unfold k_T
  rw [if_neg (by omega), if_neg (by omega), if_neg (by omega), if_neg (by omega)]
theorem c_Lj (ha : qκ (c_L B h) a = x) (hx : x ≠ 0) : ∃ j, a = B + j ∧ j < 599 ∧ k_T j = x := by
  by_cases c : a < B
  · exact absurd ((show qκ (c_L B h) a = 0 from if_pos c).symm.trans ha) (fun z => hx z.symm)
  · refine ⟨a - B, by omega, ?_, ?_⟩
    · by_cases q : a - B < 599
      · exact q
      · have e : qκ (c_L B h) a = k_T (a - B) := if_neg c
        rw [k_T0 (by omega), ha] at e
        exact absurd e hx
    · exact (show qκ (c_L B h) a = k_T (a - B) from if_neg c).symm.trans ha
theorem k_cl {i : Int32} {n : Nat} (hn : n ≤ 1000) (i0 : 0 ≤ i) (i1 : i < Int32.ofNat n) : i.toNatClampNeg < n := by
  have e1 : i.toNatClampNeg = i.toInt.toNat := rfl
  have e2 := Int32.le_iff_toInt_le.mp i0
  have e3 := Int32.lt_iff_toInt_lt.mp i1
  rw [q_oI (by omega)] at e3
  have e0 : (0 : Int32).toInt = 0 := rfl
  omega
theorem c_pf (hh : h = c_h B 599 c_F) (hj : j < 599) (d : c_pt (c_F j) k = some x) : vR h (B + j) k = some (B + x) := by
  rw [hh, c_pt_at hj, d]; rfl
theorem c_vf (hh : h = c_h B 599 c_F) (hj : j < 599) : vI h (B + j) k = c_it (c_F j) k := by
  rw [hh, c_it_at hj]
def c_len (c : c_C) : Nat := match c with
  | .inl (_, fs) => fs.length
  | _ => 0
theorem c_it_len {c : c_C} (h : c_len c ≤ k) : c_it c k = 0 := by
  rcases c with ⟨ci, fs⟩ | ⟨t, n, c, f⟩
  · dsimp only [c_len, c_it] at *
    rw [List.getElem?_eq_none_iff.mpr h]
  · rfl
theorem k_l0 : c_len (c_F 0) = 10 := by decide +kernel
theorem k_l552 : c_len (c_F 552) = 77 := by decide +kernel
theorem k_i0 : ∀ k < 10, k = 9 ∨ c_it (c_F 0) k = 0 := by decide +kernel
theorem k_i552 : ∀ k < 77, k = 5 ∨ c_it (c_F 552) k = 0 := by decide +kernel
theorem k_fl (v : Int32) : k_full.1 ≤ v ∧ v ≤ k_full.2 := ⟨q_min v, q_max v⟩
theorem k_R9 (h : 599 ≤ j) : k_R j k = k_full := by
  unfold k_R
  rw [k_T0 h]
  rfl
theorem c_T (hh : h = c_h B 599 c_F) (W : Nat → Prop) : q_T (c_L B h) W h (vR h) h := by
  refine ⟨fun a => ?_, fun a k => ?_, fun a i => ?_, fun _ _ => rfl, fun _ _ => rfl, fun _ _ => rfl⟩
  · by_cases c : B ≤ a ∧ a < B + 599
    · obtain ⟨j, rfl⟩ : ∃ j, a = B + j := ⟨a - B, by omega⟩
      rw [c_Lκ, hh, c_kd_at (show j < 599 by omega), k_kd j (by omega)]
    · have e : q_kd h a = 0 := by
        unfold q_kd
        rw [hh, c_no c]
      rw [e]
      by_cases c2 : a < B
      · exact (if_pos c2 : qκ (c_L B h) a = 0).symm
      · obtain ⟨j, rfl⟩ : ∃ j, a = B + j := ⟨a - B, by omega⟩
        rw [c_Lκ, k_T0 (by omega)]
  · by_cases c : B ≤ a ∧ a < B + 599
    · obtain ⟨j, rfl⟩ : ∃ j, a = B + j := ⟨a - B, by omega⟩
      have hj : j < 599 := by omega
      rw [c_Llo, c_Lhi, c_vf hh hj]
      rcases k_z j hj with z | z | z
      · subst z
        by_cases l : k < 10
        · rcases k_i0 k l with y | y
          · subst y; exact k_fl _
          · rw [y]; exact k_R0 hj
        · rw [c_it_len (by rw [k_l0]; omega)]; exact k_R0 hj
      · subst z
        by_cases l : k < 77
        · rcases k_i552 k l with y | y
          · subst y; exact k_fl _
          · rw [y]; exact k_R0 hj
        · rw [c_it_len (by rw [k_l552]; omega)]; exact k_R0 hj
      · rw [c_z_it z]; exact k_R0 hj
    · have e : vI h a k = 0 := by
        unfold vI
        rw [hh, c_no c]
      rw [e]
      by_cases c2 : a < B
      · have q : (c_L B h).2.1 a k = k_full := if_pos c2
        unfold qlo qhi
        rw [q]; decide
      · obtain ⟨j, rfl⟩ : ∃ j, a = B + j := ⟨a - B, by omega⟩
        rw [c_Llo, c_Lhi, k_R9 (by omega)]; decide
  · have e : vA h a i = 0 := by rw [hh, c_vA]
    rw [e]
    by_cases c2 : a < B
    · have q : (c_L B h).2.2.1 a = k_full := if_pos c2
      unfold qel qeh
      rw [q]; decide
    · obtain ⟨j, rfl⟩ : ∃ j, a = B + j := ⟨a - B, by omega⟩
      rw [c_Lel, c_Leh]
      by_cases l : j < 599
      · exact k_E0 j l
      · exact k_E9 (by omega)
theorem c_C_ok (hh : h = c_h B 599 c_F) : q_C (c_L B h) := by
  refine ⟨fun a ha => ?_, fun a ha => ?_, fun a ha => ?_, fun a ha => ?_, fun a ha => ?_, fun a ha => ?_, fun a ha => ?_, fun a ha => ?_, fun a ha => ?_, fun a ha => ?_, fun a ha => ?_, fun a ha => ?_⟩
  · obtain ⟨j, rfl, hj, ek⟩ := c_Lj ha (by decide)
    have d := k_CAddr j hj ek
    unfold q_C_Addr
    simp only [Nat.add_assoc, c_Lκ, c_Llo, c_Lhi, c_Lel, c_Leh]
    exact d
  · obtain ⟨j, rfl, hj, ek⟩ := c_Lj ha (by decide)
    have d := k_CCmd j hj ek
    unfold q_C_Cmd
    simp only [Nat.add_assoc, c_Lκ, c_Llo, c_Lhi, c_Lel, c_Leh]
    exact d
  · obtain ⟨j, rfl, hj, ek⟩ := c_Lj ha (by decide)
    have d := k_CCur j hj ek
    unfold q_C_Cur
    simp only [Nat.add_assoc, c_Lκ, c_Llo, c_Lhi, c_Lel, c_Leh]
    exact d
  · obtain ⟨j, rfl, hj, ek⟩ := c_Lj ha (by decide)
    have d := k_CEd j hj ek
    unfold q_C_Ed
    simp only [Nat.add_assoc, c_Lκ, c_Llo, c_Lhi, c_Lel, c_Leh]
    exact d
  · obtain ⟨j, rfl, hj, ek⟩ := c_Lj ha (by decide)
    have d := k_CIt j hj ek
    unfold q_C_It
    simp only [Nat.add_assoc, c_Lκ, c_Llo, c_Lhi, c_Lel, c_Leh]
    exact d
  · obtain ⟨j, rfl, hj, ek⟩ := c_Lj ha (by decide)
    have d := k_CMa j hj ek
    unfold q_C_Ma
    simp only [Nat.add_assoc, c_Lκ, c_Llo, c_Lhi, c_Lel, c_Leh]
    exact d
  · obtain ⟨j, rfl, hj, ek⟩ := c_Lj ha (by decide)
    have d := k_CPa j hj ek
    unfold q_C_Pa
    simp only [Nat.add_assoc, c_Lκ, c_Llo, c_Lhi, c_Lel, c_Leh]
    exact d
  · obtain ⟨j, rfl, hj, ek⟩ := c_Lj ha (by decide)
    have d := k_CPt j hj ek
    unfold q_C_Pt
    simp only [Nat.add_assoc, c_Lκ, c_Llo, c_Lhi, c_Lel, c_Leh]
    exact d
  · obtain ⟨j, rfl, hj, ek⟩ := c_Lj ha (by decide)
    have d := k_CPr j hj ek
    unfold q_C_Pr
    simp only [Nat.add_assoc, c_Lκ, c_Llo, c_Lhi, c_Lel, c_Leh]
    exact d
  · obtain ⟨j, rfl, hj, ek⟩ := c_Lj ha (by decide)
    have d := k_CProg j hj ek
    unfold q_C_Prog
    obtain ⟨d1, d2, d3, d4, d5⟩ := d
    simp only [Nat.add_assoc, c_Lκ, c_Llo, c_Lhi, c_Lel, c_Leh]
    refine ⟨d1, d2, d3, d4, d5, fun i i0 i1 => ?_⟩
    have l := k_cl (n := 40) (by decide) i0 i1
    rcases k_j10 j hj ek with z | z
    · subst z
      obtain ⟨q1, q2⟩ := k_q38 _ l
      refine ⟨?_, q2⟩
      show vQ h (B + 38) i = _
      rw [hh, c_rq_at (by decide), q1]; rfl
    · subst z
      obtain ⟨q1, q2⟩ := k_q287 _ l
      refine ⟨?_, q2⟩
      show vQ h (B + 287) i = _
      rw [hh, c_rq_at (by decide), q1]; rfl
  · obtain ⟨j, rfl, hj, ek⟩ := c_Lj ha (by decide)
    have d := k_CRow j hj ek
    unfold q_C_Row
    refine ⟨k_T (j + 1) / 1000, ?_⟩
    simp only [Nat.add_assoc, c_Lκ, c_Llo, c_Lhi, c_Lel, c_Leh]
    exact d
  · obtain ⟨j, rfl, hj, ek⟩ := c_Lj ha (by decide)
    have d := k_CSF j hj ek
    unfold q_C_SF
    have z := k_j12 j hj ek
    subst z
    obtain ⟨d1, d2, d3, d4, d5, d6, d7, d8, d9⟩ := d
    simp only [Nat.add_assoc, c_Lκ, c_Llo, c_Lhi, c_Lel, c_Leh]
    refine ⟨d1, d2, d3, d4, d5, d6, d7, d8, d9, fun i i0 i1 => ?_⟩
    have l := k_cl (n := 12) (by decide) i0 i1
    obtain ⟨q1, q2, q3⟩ := k_q3 _ l
    refine ⟨?_, ?_, ?_⟩
    · show vQ h (B + 3) i = _
      rw [hh, c_rq_at (by decide), q1]
      show some (B + (528 + 2 * i.toNatClampNeg)) = _
      rw [Nat.zero_add]
    · rw [Nat.zero_add]; exact q2
    · rw [Nat.zero_add]; exact q3
theorem c_F_ok (hh : h = c_h B 599 c_F) : q_F (c_L B h) (vR h) := by
  refine ⟨fun a ha => ?_, fun a ha => ?_, fun a ha => ?_, fun a ha => ?_, fun a ha => ?_, fun a ha => ?_, fun a ha => ?_, fun a ha => ?_, fun a ha => ?_, fun a ha => ?_, fun a ha => ?_, fun a ha => ?_⟩
  · obtain ⟨j, rfl, hj, ek⟩ := c_Lj ha (by decide)
    have d := k_FAddr j hj ek
    exact (c_pf hh hj d).trans (congrArg some (Nat.add_assoc _ _ _).symm)
  · obtain ⟨j, rfl, hj, ek⟩ := c_Lj ha (by decide)
    have d := k_FCmd j hj ek
    exact ⟨(c_pf hh hj d.1).trans (congrArg some (Nat.add_assoc _ _ _).symm), (c_pf hh hj d.2.1).trans (congrArg some (Nat.add_assoc _ _ _).symm), (c_pf hh hj d.2.2).trans (congrArg some (Nat.add_assoc _ _ _).symm)⟩
  · exact trivial
  · obtain ⟨j, rfl, hj, ek⟩ := c_Lj ha (by decide)
    have d := k_FEd j hj ek
    exact ⟨(c_pf hh hj d.1).trans (congrArg some (Nat.add_assoc _ _ _).symm), (c_pf hh hj d.2.1).trans (congrArg some (Nat.add_assoc _ _ _).symm), (c_pf hh hj d.2.2).trans (congrArg some (Nat.add_assoc _ _ _).symm)⟩
  · obtain ⟨j, rfl, hj, ek⟩ := c_Lj ha (by decide)
    have d := k_FIt j hj ek
    exact ⟨(c_pf hh hj d.1).trans (congrArg some (Nat.add_assoc _ _ _).symm), (c_pf hh hj d.2.1).trans (congrArg some (Nat.add_assoc _ _ _).symm), (c_pf hh hj d.2.2.1).trans (congrArg some (Nat.add_assoc _ _ _).symm), (c_pf hh hj d.2.2.2).trans (congrArg some (Nat.add_assoc _ _ _).symm)⟩
  · obtain ⟨j, rfl, hj, ek⟩ := c_Lj ha (by decide)
    have d := k_FMa j hj ek
    exact ⟨(c_pf hh hj d.1).trans (congrArg some (Nat.add_assoc _ _ _).symm), (c_pf hh hj d.2.1).trans (congrArg some (Nat.add_assoc _ _ _).symm), (c_pf hh hj d.2.2.1).trans (congrArg some (Nat.add_assoc _ _ _).symm), (c_pf hh hj d.2.2.2).trans (congrArg some (Nat.add_assoc _ _ _).symm)⟩
  · obtain ⟨j, rfl, hj, ek⟩ := c_Lj ha (by decide)
    have d := k_FPa j hj ek
    exact ⟨(c_pf hh hj d.1).trans (congrArg some (Nat.add_assoc _ _ _).symm), (c_pf hh hj d.2.1).trans (congrArg some (Nat.add_assoc _ _ _).symm), (c_pf hh hj d.2.2.1).trans (congrArg some (Nat.add_assoc _ _ _).symm), (c_pf hh hj d.2.2.2).trans (congrArg some (Nat.add_assoc _ _ _).symm)⟩
  · exact trivial
  · exact trivial
  · obtain ⟨j, rfl, hj, ek⟩ := c_Lj ha (by decide)
    have d := k_FProg j hj ek
    exact ⟨(c_pf hh hj d.1).trans (congrArg some (Nat.add_assoc _ _ _).symm), (c_pf hh hj d.2.1).trans (congrArg some (Nat.add_assoc _ _ _).symm), (c_pf hh hj d.2.2).trans (congrArg some (Nat.add_assoc _ _ _).symm)⟩
  · obtain ⟨j, rfl, hj, ek⟩ := c_Lj ha (by decide)
    have d := k_FRow j hj ek
    exact (c_pf hh hj d).trans (congrArg some (Nat.add_assoc _ _ _).symm)
  · obtain ⟨j, rfl, hj, ek⟩ := c_Lj ha (by decide)
    have d := k_FSF j hj ek
    exact ⟨(c_pf hh hj d.1).trans (congrArg some (Nat.add_assoc _ _ _).symm), (c_pf hh hj d.2.1).trans (congrArg some (Nat.add_assoc _ _ _).symm), (c_pf hh hj d.2.2.1).trans (congrArg some (Nat.add_assoc _ _ _).symm), (c_pf hh hj d.2.2.2.1).trans (congrArg some (Nat.add_assoc _ _ _).symm), (c_pf hh hj d.2.2.2.2).trans (congrArg some (Nat.add_assoc _ _ _).symm)⟩
theorem c_U (hh : h = c_h B 599 c_F) (W : Nat → Prop) : q_U (c_L B h) W h (vR h) h := ⟨c_C_ok hh, c_F_ok hh, c_T hh W⟩
set_option maxRecDepth 100000 in
set_option maxHeartbeats 8000000 in
theorem c_M (hh : h = c_h B 599 c_F) : q_M (c_L B h) (vR h) (B + 552) := by
  refine ⟨c_Lκ.trans (by decide), ?_, ?_⟩
  · unfold q_C_Mo q_CM0 q_CM1 q_CM2 q_CM3 q_CM4 q_CM5 q_CM6 q_CM7 q_CM8 q_CM9
    simp only [Nat.add_assoc, c_Lκ, c_Llo, c_Lhi, c_Lel, c_Leh]
    repeat' apply And.intro
    all_goals decide +kernel
  · exact ⟨⟨c_pf hh (by decide) (x := 553) (by decide +kernel), c_pf hh (by decide) (x := 554) (by decide +kernel), c_pf hh (by decide) (x := 555) (by decide +kernel), c_pf hh (by decide) (x := 556) (by decide +kernel), c_pf hh (by decide) (x := 557) (by decide +kernel), c_pf hh (by decide) (x := 558) (by decide +kernel), c_pf hh (by decide) (x := 559) (by decide +kernel), c_pf hh (by decide) (x := 560) (by decide +kernel), c_pf hh (by decide) (x := 561) (by decide +kernel), c_pf hh (by decide) (x := 562) (by decide +kernel), c_pf hh (by decide) (x := 563) (by decide +kernel), c_pf hh (by decide) (x := 564) (by decide +kernel)⟩, ⟨c_pf hh (by decide) (x := 565) (by decide +kernel), c_pf hh (by decide) (x := 566) (by decide +kernel), c_pf hh (by decide) (x := 567) (by decide +kernel), c_pf hh (by decide) (x := 568) (by decide +kernel), c_pf hh (by decide) (x := 569) (by decide +kernel), c_pf hh (by decide) (x := 570) (by decide +kernel), c_pf hh (by decide) (x := 571) (by decide +kernel), c_pf hh (by decide) (x := 572) (by decide +kernel), c_pf hh (by decide) (x := 573) (by decide +kernel), c_pf hh (by decide) (x := 574) (by decide +kernel), c_pf hh (by decide) (x := 575) (by decide +kernel), c_pf hh (by decide) (x := 576) (by decide +kernel)⟩, ⟨c_pf hh (by decide) (x := 577) (by decide +kernel), c_pf hh (by decide) (x := 578) (by decide +kernel), c_pf hh (by decide) (x := 579) (by decide +kernel), c_pf hh (by decide) (x := 580) (by decide +kernel), c_pf hh (by decide) (x := 581) (by decide +kernel), c_pf hh (by decide) (x := 582) (by decide +kernel), c_pf hh (by decide) (x := 583) (by decide +kernel), c_pf hh (by decide) (x := 584) (by decide +kernel), c_pf hh (by decide) (x := 585) (by decide +kernel), c_pf hh (by decide) (x := 586) (by decide +kernel), c_pf hh (by decide) (x := 587) (by decide +kernel), c_pf hh (by decide) (x := 588) (by decide +kernel)⟩, ⟨c_pf hh (by decide) (x := 589) (by decide +kernel), c_pf hh (by decide) (x := 590) (by decide +kernel), c_pf hh (by decide) (x := 591) (by decide +kernel), c_pf hh (by decide) (x := 592) (by decide +kernel), c_pf hh (by decide) (x := 593) (by decide +kernel), c_pf hh (by decide) (x := 594) (by decide +kernel), c_pf hh (by decide) (x := 595) (by decide +kernel), c_pf hh (by decide) (x := 596) (by decide +kernel), c_pf hh (by decide) (x := 597) (by decide +kernel)⟩⟩
theorem c_IC (hh : h = c_h B 599 c_F) : q_IC (c_L B h) (vR h) h B := by
  refine ⟨B + 30, B + 279, B + 12, B + 14, B + 23, c_pf (j := 0) hh (by decide) (by decide +kernel), c_pf (j := 0) hh (by decide) (by decide +kernel), c_Lκ.trans (by decide), c_Lκ.trans (by decide), Or.inl ⟨rfl, rfl⟩, ⟨c_pf (j := 9) hh (by decide) (by decide +kernel), c_pf (j := 9) hh (by decide) (by decide +kernel), c_pf (j := 9) hh (by decide) (by decide +kernel), c_Lκ.trans (by decide), c_Lκ.trans (by decide), c_Lκ.trans (by decide), by omega, by omega, by omega, by omega, by omega, by omega, by omega, by omega, by omega⟩, c_pf (j := 6) (x := 5) hh (by decide) (by decide +kernel), fun i i0 i1 => ?_⟩
  have e : vI h (B + 30) 3 = 0 := (c_vf hh (by decide)).trans (by decide +kernel)
  rw [e] at i1
  exact absurd (Int32.lt_of_le_of_lt i0 i1) Int32.lt_irrefl
theorem c_start (hh : h = c_h B 599 c_F) : q_INV (c_L B h) B (B + 552) h := by
  have f3 : vI h (B + 552) 3 = 0 := (c_vf hh (by decide)).trans (by decide +kernel)
  have f4 : vI h (B + 552) 4 = 0 := (c_vf hh (by decide)).trans (by decide +kernel)
  have f8 : vI h (B + 552) 8 = 0 := (c_vf hh (by decide)).trans (by decide +kernel)
  have s1 : vI h (B + 1) 1 = 0 := (c_vf hh (by decide)).trans (by decide +kernel)
  have s5 : vI h B 5 = 0 := (c_vf (j := 0) hh (by decide)).trans (by decide +kernel)
  refine ⟨vR h, c_U hh _, c_M hh, c_IC hh, fun z => absurd f8 z, s1.trans f3.symm, s5.trans f4.symm, fun j hj jl => ?_, fun j j0 jl => absurd (Int32.lt_of_le_of_lt j0 (f3 ▸ jl)) Int32.lt_irrefl⟩
  rw [f4] at jl
  exact absurd (Int32.lt_of_le_of_lt (q_on hj) jl) Int32.lt_irrefl
theorem c_12 : qκ (c_L B h) B = 12 := (c_Lκ (j := 0)).trans (by decide)
theorem c_1200 : qκ (c_L B h) (B + 598) = 1 * 1000 + 200 := c_Lκ.trans (by decide)
end CL
