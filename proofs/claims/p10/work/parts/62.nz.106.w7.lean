/-! run, on both sides -/
/-- what the last run left, on both sides -/
def x_NB (sf mo : Nat) (h : z_H) : Prop := vI h (sf + 9) 3 = vI h mo 70 ∧ vI h (sf + 9) 4 = vI h mo 71 ∧ vI h (sf + 9) 5 = vI h mo 72 ∧ vI h (sf + 9) 6 = vI h mo 73
def x_K4 (L : q_L) (sf mo : Nat) (h : z_H) : Prop := ∃ π sp ho dr O S H A, y_S0 L (sf + 9) π h sp ho dr O S H A ∧ (r_R1 h mo 69 43 600 O ∧ r_R1 h mo 65 39 60 S ∧ r_R1 h mo 66 40 60 H) ∧ x_NB sf mo h
section W7
variable {L : q_L} {W : Nat → Prop} {h h0 h' h1 : z_H} {π : Nat → Nat → Option Nat} {sf mo N : Nat} {t : Int32 → Int32} {n : Int32}
/-- the lines, as both have them -/
def x_LN (mo : Nat) (h : z_H) (i : Int32) : List Int32 := x_sl (fun j => vA h (mo + 3) (24 * i + j)) 0 (vA h (mo + 2) i)
theorem x_LNk (K : x_K2 sf mo h) {i : Int32} (i0 : 0 ≤ i) (i1 : i < vI h mo 4) (m12 : vI h mo 4 ≤ 12) (T : q_U L W h0 π h) (M : q_M L π mo) : (∀ j, 0 ≤ j → j < vA h (mo + 2) i → vA h (sf + (528 + 2 * i.toNatClampNeg) + 1) j = vA h (mo + 3) (24 * i + j) ∧ x_kc (vA h (mo + 3) (24 * i + j))) ∧ (0 ≤ vA h (mo + 2) i ∧ vA h (mo + 2) i ≤ 24) ∧ x_kt (x_LN mo h i) := by
  have i12 : i < 12 := Int32.lt_of_lt_of_le i1 m12
  have a0 := Int32.le_iff_toInt_le.mp i0
  have a1 := Int32.lt_iff_toInt_lt.mp i12
  have z0 : (0 : Int32).toInt = 0 := rfl
  have z2 : (12 : Int32).toInt = 12 := rfl
  have tn : i.toNatClampNeg < 12 := by
    show i.toInt.toNat < 12
    omega
  have eo : Int32.ofNat i.toNatClampNeg = i := Int32.ofNat_toNatClampNeg _ i0
  have k := K i.toNatClampNeg tn (by rw [eo]; exact i1)
  rw [eo] at k
  have ge := g_Mo_e2 T M i
  refine ⟨k, ge, ?_⟩
  intro c hc
  unfold x_LN x_sl at hc
  obtain ⟨j, hj, rfl⟩ := List.mem_map.mp hc
  have q := x_ct_i ge.1 (Int32.le_refl 0) (List.mem_range.mp hj)
  exact (k _ q.1 q.2).2
theorem r_LN_of (K : x_K2 sf mo h) (T : q_U L W h0 π h) (M : q_M L π mo) : r_LN h mo (vI h mo 4) (x_LN mo h) := by
  have r4 := g_Mo_4 T M
  refine ⟨⟨r4.1, r4.2, rfl⟩, fun j j0 j1 => ?_⟩
  obtain ⟨-, k2, k3⟩ := x_LNk K j0 j1 r4.2 T M
  exact ⟨k2, rfl, k3⟩
theorem y_LN_of (K : x_K2 sf mo h) (T : q_U L W h0 π h) (M : q_M L π mo) (e3 : ∀ j : Nat, j < 12 → Int32.ofNat j < vI h mo 4 → vI h (sf + (528 + 2 * j)) 1 = vA h (mo + 2) (Int32.ofNat j)) : y_LN h sf (vI h mo 4) (x_LN mo h) := by
  have r4 := g_Mo_4 T M
  refine ⟨r4.1, r4.2, fun i i0 i1 => ?_⟩
  obtain ⟨k1, k2, k3⟩ := x_LNk K i0 i1 r4.2 T M
  have i12 : i < 12 := Int32.lt_of_lt_of_le i1 r4.2
  have a0 := Int32.le_iff_toInt_le.mp i0
  have a1 := Int32.lt_iff_toInt_lt.mp i12
  have z0 : (0 : Int32).toInt = 0 := rfl
  have z2 : (12 : Int32).toInt = 12 := rfl
  have tn : i.toNatClampNeg < 12 := by
    show i.toInt.toNat < 12
    omega
  have eo : Int32.ofNat i.toNatClampNeg = i := Int32.ofNat_toNatClampNeg _ i0
  have el := e3 i.toNatClampNeg tn (by rw [eo]; exact i1)
  rw [eo] at el
  refine ⟨?_, ?_, k3⟩
  · unfold x_rw x_LN
    rw [el]
    exact x_sl_e (Int32.le_refl 0) k2.1 (fun j j0 j1 => (k1 j j0 j1).1)
  · rw [el]; exact k2
theorem x_len8 {f : Int32 → Int32} {m : Int32} {X : List Int32} (m0 : 0 ≤ m) (e : x_sl f 0 m = X) : m = x_nl8 X := by
  unfold x_nl8
  rw [← e, x_sl_len]
  have z := x_ct_e m0 (Int32.le_refl 0)
  rw [Int32.zero_add] at z
  exact z.symm
/-- the class's run -/
theorem x_SF_run8 {pg : Nat} {TX : List Int32} {LN : Int32 → List Int32} (T : q_U L W h0 π h) (k : qκ L sf = 12) (np : ¬ vI h sf 8 = 0) (p6 : π sf 6 = some pg) (kp : qκ L pg = 10) (hpg : sf + 25 ≤ pg) (hpe : pg + 249 ≤ sf + 528) (ly : y_L L (sf + 9)) (rt : y_R1 h (pg + 1) 240 TX) (ll : y_LN h sf (vI h sf 5) LN) (PG : y_PRG h pg) (s40 : vI h pg 3 ≤ 40) (K4 : x_K4 L sf mo h) : qi (f_SF_run N sf h) (fun r => ∃ M st E' bg', y_run h pg (vI h sf 5) LN M (x_E0 (vI h sf 5) LN) 0 (fun _ => 0) = some (st, E', bg') ∧ y_K0 (sf + 9) pg h r.2 ∧ ((∃ π sp ho dr A', y_S0 L (sf + 9) π r.2 sp ho dr (x_O E') (x_S8 E') (x_H8 E') A') ∧ vI r.2 (sf + 9) 3 = x_rd E' ∧ vI r.2 (sf + 9) 5 = x_cy E' ∧ vI r.2 (sf + 9) 6 = x_rp E' ∧ vI r.2 (sf + 9) 4 = bg') ∧ ((st = 0 ∧ r.1 = .inl (x_nl8 (x_O E'))) ∨ (st = 2 ∧ r.1 = .inr xE3) ∨ (st = 3 ∧ r.1 = .inr xE4))) := by
  have U := x_U_of T
  obtain ⟨π', sp, ho, dr, O, S, H, A, s, -, -⟩ := K4
  unfold f_SF_run
  refine l_gI (e := vI h sf 8) rfl ?_
  rw [if_neg np]
  refine l_gR U (d_SF_3 U k) ?_
  refine l_gR U p6 ?_
  refine l_gR U (d_SF_1 U k) ?_
  refine l_gI (e := vI h sf 5) rfl ?_
  refine l_gO ?_
  refine qi_b (y_ed (N := N) rfl k (by omega) hpe ly kp rt ll PG s40 s) ?_
  rintro ⟨y, h8⟩ ⟨M, st, E', bg', RUN, ⟨π2, sp2, ho2, dr2, A2, s2⟩, nums, k0, R⟩
  have s0 := y_S_0 s2
  have K4' := (⟨⟨π2, sp2, ho2, dr2, A2, s0⟩, nums⟩ : (∃ π sp ho dr A', y_S0 L (sf + 9) π h8 sp ho dr (x_O E') (x_S8 E') (x_H8 E') A') ∧ vI h8 (sf + 9) 3 = x_rd E' ∧ vI h8 (sf + 9) 5 = x_cy E' ∧ vI h8 (sf + 9) 6 = x_rp E' ∧ vI h8 (sf + 9) 4 = bg')
  have U8 := s2.1.1
  have o1 := s2.2.2.1
  rcases R with ⟨e0, ey⟩ | ⟨e0, ey⟩ | ⟨e0, ey⟩
  · dsimp only at ey
    subst ey
    show qi (z_b (gR h8 sf 11 3) fun x13 => z_b (gR h8 x13 3 0) fun x14 => z_b (gI h8 x14 10 1) fun x15 => some ((Sum.inl x15 : Int32 ⊕ String), h8)) _
    refine l_gR U8 (d_SF_3 U8 k) ?_
    refine l_gR U8 (d_Ed_0 U8 ly.1) ?_
    refine l_gI (e := x_nl8 (x_O E')) (x_len8 o1.2.1.1 o1.1) ?_
    exact qi_some ⟨M, st, E', bg', RUN, k0, K4', Or.inl ⟨e0, rfl⟩⟩
  · dsimp only at ey
    subst ey
    exact qi_some ⟨M, st, E', bg', RUN, k0, K4', Or.inr (Or.inl ⟨e0, rfl⟩)⟩
  · dsimp only at ey
    subst ey
    exact qi_some ⟨M, st, E', bg', RUN, k0, K4', Or.inr (Or.inr ⟨e0, rfl⟩)⟩
end W7
