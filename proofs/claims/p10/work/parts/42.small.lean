set_option maxHeartbeats 1000000 in
theorem p_Cur_look {L : q_L} {W : Nat → Prop} {h0 : z_H} {π : Nat → Nat → Option Nat} {N : Nat} {tx : Nat} {h : z_H} {v0 : Nat} {v1 : Int32} (T : q_U L W h0 π h) (kv0 : qκ L v0 = 3) (ktx : qκ L tx = 11) (ptx : π v0 0 = some tx) (ctx : qhi L tx 1 = 240) (b0 : 0 ≤ v1) (b1 : v1 ≤ 2) : qk (f_Cur_look N v0 v1 h) (fun r => r.2 = h ∧ (-1 ≤ r.1) ∧ (r.1 ≤ 65535) ∧ (r.1 ≠ -1 → vI h v0 1 + v1 < 240) ∧ (r.1 ≠ -1 → vI h v0 1 + v1 < vI h tx 1) ∧ (r.1 = -1 → vI h tx 1 ≤ vI h v0 1 + v1)) := by
  have hr_tx := q_rowhi T ktx
  unfold f_Cur_look
  refine r_Cur_1 T kv0 ?_
  intro x1 ex1 lx1 ux1
  subst ex1
  refine qk_bs ?_
  refine r_Cur_0 T kv0 ptx ?_
  refine r_Row_1 T ktx ?_
  intro x4 ex4 lx4 ux4 mx4
  subst ex4
  refine qk_if (fun cc1 => ?_) (fun cc1 => ?_)
  · skip
    refine qk_some ?_
    exact ⟨rfl, (by first | with_reducible assumption | grind | grind (ematch := 40) (gen := 40) (liaSteps := 300000) | lia), (by first | with_reducible assumption | grind | grind (ematch := 40) (gen := 40) (liaSteps := 300000) | lia), (by first | with_reducible assumption | grind | grind (ematch := 40) (gen := 40) (liaSteps := 300000) | lia), (by first | with_reducible assumption | grind | grind (ematch := 40) (gen := 40) (liaSteps := 300000) | lia), (by first | with_reducible assumption | grind | grind (ematch := 40) (gen := 40) (liaSteps := 300000) | lia)⟩
  · skip
    refine r_Cur_0 T kv0 ptx ?_
    refine r_Row_0 T ktx ?_
    refine r_Row_e1 T ktx (by first | with_reducible assumption | grind | grind (ematch := 40) (gen := 40) (liaSteps := 300000) | lia) (by first | with_reducible assumption | grind | grind (ematch := 40) (gen := 40) (liaSteps := 300000) | lia) ?_
    intro x8 ex8 lx8 ux8
    subst ex8
    refine qk_some ?_
    exact ⟨rfl, (by first | with_reducible assumption | grind | grind (ematch := 40) (gen := 40) (liaSteps := 300000) | lia), (by first | with_reducible assumption | grind | grind (ematch := 40) (gen := 40) (liaSteps := 300000) | lia), (by first | with_reducible assumption | grind | grind (ematch := 40) (gen := 40) (liaSteps := 300000) | lia), (by first | with_reducible assumption | grind | grind (ematch := 40) (gen := 40) (liaSteps := 300000) | lia), (by first | with_reducible assumption | grind | grind (ematch := 40) (gen := 40) (liaSteps := 300000) | lia)⟩
theorem c_Cur_look {L : q_L} {W : Nat → Prop} {h0 : z_H} {π : Nat → Nat → Option Nat} {N : Nat} {tx : Nat} {h : z_H} {v0 : Nat} {v1 : Int32} {β : Type} {f : Int32 × z_H → Option β} {Q : β → Prop} (T : q_U L W h0 π h) (kv0 : qκ L v0 = 3) (ktx : qκ L tx = 11) (ptx : π v0 0 = some tx) (ctx : qhi L tx 1 = 240) (b0 : 0 ≤ v1) (b1 : v1 ≤ 2) (H : ∀ y, (-1 ≤ y) → (y ≤ 65535) → (y ≠ -1 → vI h v0 1 + v1 < 240) → (y ≠ -1 → vI h v0 1 + v1 < vI h tx 1) → (y = -1 → vI h tx 1 ≤ vI h v0 1 + v1) → qk (f (y, h)) Q) : qk (z_b (f_Cur_look N v0 v1 h) f) Q := by
  refine qk_b (p_Cur_look T kv0 ktx ptx ctx b0 b1) ?_
  rintro ⟨y, hz⟩ ⟨hy, g0, g1, g2, g3, g4⟩
  try dsimp only at *
  subst hy
  exact H y g0 g1 g2 g3 g4

set_option maxHeartbeats 1000000 in
theorem p_Cur_refuse {L : q_L} {W : Nat → Prop} {h0 : z_H} {π : Nat → Nat → Option Nat} {N : Nat} {h : z_H} {v0 : Nat} {v1 : Int32} (T : q_U L W h0 π h) (kv0 : qκ L v0 = 3) (w0 : W v0) : qk (f_Cur_refuse N v0 v1 h) (fun r => q_U L W h0 π r.2 ∧ (r.1 = 0) ∧ (∀ a k, ¬ (a = v0 ∧ k = 2) → vI r.2 a k = vI h a k) ∧ (∀ a j, vA r.2 a j = vA h a j)) := by
  unfold f_Cur_refuse
  refine r_Cur_1 T kv0 ?_
  intro x1 ex1 lx1 ux1
  subst ex1
  refine w_Cur_2 T kv0 (by first | with_reducible assumption | grind | grind (ematch := 40) (gen := 40) (liaSteps := 300000) | lia) ?_
  intro h2 Th2 ih2 ah2
  refine qk_some ?_
  exact ⟨Th2, (by first | with_reducible assumption | grind | grind (ematch := 40) (gen := 40) (liaSteps := 300000) | lia), (by first | with_reducible assumption | grind | grind (ematch := 40) (gen := 40) (liaSteps := 300000) | lia), (by first | with_reducible assumption | grind | grind (ematch := 40) (gen := 40) (liaSteps := 300000) | lia)⟩
theorem c_Cur_refuse {L : q_L} {W : Nat → Prop} {h0 : z_H} {π : Nat → Nat → Option Nat} {N : Nat} {h : z_H} {v0 : Nat} {v1 : Int32} {β : Type} {f : Int32 × z_H → Option β} {Q : β → Prop} (T : q_U L W h0 π h) (kv0 : qκ L v0 = 3) (w0 : W v0) (H : ∀ y h', q_U L W h0 π h' → (y = 0) → (∀ a k, ¬ (a = v0 ∧ k = 2) → vI h' a k = vI h a k) → (∀ a j, vA h' a j = vA h a j) → qk (f (y, h')) Q) : qk (z_b (f_Cur_refuse N v0 v1 h) f) Q := by
  refine qk_b (p_Cur_refuse T kv0 w0) ?_
  rintro ⟨y, hz⟩ ⟨Tz, g0, g1, g2⟩
  exact H y hz Tz g0 g1 g2

set_option maxHeartbeats 1000000 in
theorem p_Cur_pass {L : q_L} {W : Nat → Prop} {h0 : z_H} {π : Nat → Nat → Option Nat} {N : Nat} {tx : Nat} {h : z_H} {v0 : Nat} {v1 : Int32} (T : q_U L W h0 π h) (kv0 : qκ L v0 = 3) (ktx : qκ L tx = 11) (ptx : π v0 0 = some tx) (ctx : qhi L tx 1 = 240) (w0 : W v0) (b0 : 0 ≤ v1) : qk (f_Cur_pass N v0 v1 h) (fun r => q_U L W h0 π r.2 ∧ (r.1 = 0 ∨ r.1 = 1) ∧ (r.1 = 0 → vI r.2 v0 1 = vI h v0 1) ∧ (r.1 = 1 → vI r.2 v0 1 = vI h v0 1 + 1) ∧ (r.1 = 1 → vI h v0 1 < 240) ∧ (r.1 = 1 → vI r.2 v0 1 ≤ 240) ∧ (∀ a k, ¬ (a = v0 ∧ (k = 1 ∨ k = 2)) → vI r.2 a k = vI h a k) ∧ (∀ a j, vA r.2 a j = vA h a j)) := by
  have hr_tx := q_rowhi T ktx
  unfold f_Cur_pass
  refine r_Cur_o T kv0 ?_
  refine c_Cur_look (v0 := v0) (v1 := 0) (tx := tx) T kv0 ktx ptx (by first | with_reducible assumption | grind | grind (ematch := 40) (gen := 40) (liaSteps := 300000) | lia) (by first | with_reducible assumption | grind | grind (ematch := 40) (gen := 40) (liaSteps := 300000) | lia) (by first | with_reducible assumption | grind | grind (ematch := 40) (gen := 40) (liaSteps := 300000) | lia) ?_
  intro yr2 gr2_0 gr2_1 gr2_2 gr2_3 gr2_4
  simp only [Int32.add_zero] at gr2_2 gr2_3 gr2_4
  dsimp only
  refine qk_if (fun cc1 => ?_) (fun cc1 => ?_)
  · skip
    refine r_Cur_1 T kv0 ?_
    intro x4 ex4 lx4 ux4
    subst ex4
    refine w_Cur_1 T kv0 (by first | with_reducible assumption | grind | grind (ematch := 40) (gen := 40) (liaSteps := 300000) | lia) (q_inc01 (T.2.2.2.1 _ 1) (q_CCur T kv0)) (by first | exact q_inc1 (by first | with_reducible assumption | grind -lia | grind) (q_inc00 (T.2.2.2.1 _ 1) (q_CCur T kv0)) | exact q_inc1b (by first | with_reducible assumption | grind -lia | grind) (q_inc00 (T.2.2.2.1 _ 1) (q_CCur T kv0))) ?_
    intro h5 Th5 ih5 ah5
    refine qk_some ?_
    exact ⟨Th5, (by first | with_reducible assumption | grind | grind (ematch := 40) (gen := 40) (liaSteps := 300000) | lia), (by first | with_reducible assumption | grind | grind (ematch := 40) (gen := 40) (liaSteps := 300000) | lia), (by first | with_reducible assumption | grind | grind (ematch := 40) (gen := 40) (liaSteps := 300000) | lia), (by first | with_reducible assumption | grind | grind (ematch := 40) (gen := 40) (liaSteps := 300000) | lia), (by first | with_reducible assumption | grind | grind (ematch := 40) (gen := 40) (liaSteps := 300000) | lia), (by first | with_reducible assumption | grind | grind (ematch := 40) (gen := 40) (liaSteps := 300000) | lia), (by first | with_reducible assumption | grind | grind (ematch := 40) (gen := 40) (liaSteps := 300000) | lia)⟩
  · skip
    refine r_Cur_o T kv0 ?_
    refine c_Cur_refuse (v0 := v0) (v1 := 0) T kv0 (by first | with_reducible assumption | grind | grind (ematch := 40) (gen := 40) (liaSteps := 300000) | lia) ?_
    intro yr7 hr7 Tr7 gr7_0 gr7_1 gr7_2
    dsimp only
    refine qk_zB (by first | with_reducible assumption | grind | grind (ematch := 40) (gen := 40) (liaSteps := 300000) | lia) ?_
    refine qk_some ?_
    exact ⟨Tr7, (by first | with_reducible assumption | grind | grind (ematch := 40) (gen := 40) (liaSteps := 300000) | lia), (by first | with_reducible assumption | grind | grind (ematch := 40) (gen := 40) (liaSteps := 300000) | lia), (by first | with_reducible assumption | grind | grind (ematch := 40) (gen := 40) (liaSteps := 300000) | lia), (by first | with_reducible assumption | grind | grind (ematch := 40) (gen := 40) (liaSteps := 300000) | lia), (by first | with_reducible assumption | grind | grind (ematch := 40) (gen := 40) (liaSteps := 300000) | lia), (by first | with_reducible assumption | grind | grind (ematch := 40) (gen := 40) (liaSteps := 300000) | lia), (by first | with_reducible assumption | grind | grind (ematch := 40) (gen := 40) (liaSteps := 300000) | lia)⟩
theorem c_Cur_pass {L : q_L} {W : Nat → Prop} {h0 : z_H} {π : Nat → Nat → Option Nat} {N : Nat} {tx : Nat} {h : z_H} {v0 : Nat} {v1 : Int32} {β : Type} {f : Int32 × z_H → Option β} {Q : β → Prop} (T : q_U L W h0 π h) (kv0 : qκ L v0 = 3) (ktx : qκ L tx = 11) (ptx : π v0 0 = some tx) (ctx : qhi L tx 1 = 240) (w0 : W v0) (b0 : 0 ≤ v1) (H : ∀ y h', q_U L W h0 π h' → (y = 0 ∨ y = 1) → (y = 0 → vI h' v0 1 = vI h v0 1) → (y = 1 → vI h' v0 1 = vI h v0 1 + 1) → (y = 1 → vI h v0 1 < 240) → (y = 1 → vI h' v0 1 ≤ 240) → (∀ a k, ¬ (a = v0 ∧ (k = 1 ∨ k = 2)) → vI h' a k = vI h a k) → (∀ a j, vA h' a j = vA h a j) → qk (f (y, h')) Q) : qk (z_b (f_Cur_pass N v0 v1 h) f) Q := by
  refine qk_b (p_Cur_pass T kv0 ktx ptx ctx w0 b0) ?_
  rintro ⟨y, hz⟩ ⟨Tz, g0, g1, g2, g3, g4, g5, g6⟩
  exact H y hz Tz g0 g1 g2 g3 g4 g5 g6

set_option maxHeartbeats 1000000 in
theorem p_It_add {L : q_L} {W : Nat → Prop} {h0 : z_H} {π : Nat → Nat → Option Nat} {N : Nat} {h : z_H} {v0 : Nat} {v1 : Int32} {v2 : Int32} (T : q_U L W h0 π h) (kv0 : qκ L v0 = 5) (w0 : W v0) (w1 : W (v0 + 1)) (w2 : W (v0 + 2)) (w3 : W (v0 + 3)) (w4 : W (v0 + 4)) (b0 : 0 ≤ v2) (b1 : v2 ≤ 3) : qk (f_It_add N v0 v1 v2 h) (fun r => q_U L W h0 π r ∧ (∀ a k, vI r a k = if a = v0 ∧ k = 4 then (if 240 ≤ vI h v0 4 then vI h v0 4 else vI h v0 4 + 1) else vI h a k) ∧ (∀ a j, 0 ≤ j → ¬ (a = v0 + 1 ∨ a = v0 + 2) → vA r a j = vA h a j) ∧ (∀ j, 0 ≤ j → j < vI h v0 4 → vA r (v0 + 1) j = vA h (v0 + 1) j ∧ vA r (v0 + 2) j = vA h (v0 + 2) j) ∧ (vI h v0 4 < 240 → vA r (v0 + 1) (vI h v0 4) = v1 ∧ vA r (v0 + 2) (vI h v0 4) = v2)) := by
  unfold f_It_add
  refine r_It_4 T kv0 ?_
  intro x1 ex1 lx1 ux1
  subst ex1
  refine qk_if (fun cc1 => ?_) (fun cc1 => ?_)
  · skip
    refine qk_some ?_
    exact ⟨T, (by first | with_reducible assumption | grind | grind (ematch := 40) (gen := 40) (liaSteps := 300000) | lia), (by first | with_reducible assumption | grind | grind (ematch := 40) (gen := 40) (liaSteps := 300000) | lia), (by first | with_reducible assumption | grind | grind (ematch := 40) (gen := 40) (liaSteps := 300000) | lia), (by first | with_reducible assumption | grind | grind (ematch := 40) (gen := 40) (liaSteps := 300000) | lia)⟩
  · skip
    refine r_It_0 T kv0 ?_
    refine r_It_4 T kv0 ?_
    intro x4 ex4 lx4 ux4
    subst ex4
    refine w_It_e1 T kv0 (by first | with_reducible assumption | grind | grind (ematch := 40) (gen := 40) (liaSteps := 300000) | lia) (by first | with_reducible assumption | grind | grind (ematch := 40) (gen := 40) (liaSteps := 300000) | lia) (by first | with_reducible assumption | grind | grind (ematch := 40) (gen := 40) (liaSteps := 300000) | lia) ?_
    intro h5 Th5 ih5 ah5
    refine r_It_1 Th5 kv0 ?_
    refine r_It_4 Th5 kv0 ?_
    intro x7 ex7 lx7 ux7
    subst ex7
    refine w_It_e2 Th5 kv0 (by first | with_reducible assumption | grind | grind (ematch := 40) (gen := 40) (liaSteps := 300000) | lia) (by first | with_reducible assumption | grind | grind (ematch := 40) (gen := 40) (liaSteps := 300000) | lia) (by first | with_reducible assumption | grind | grind (ematch := 40) (gen := 40) (liaSteps := 300000) | lia) (by first | with_reducible assumption | grind | grind (ematch := 40) (gen := 40) (liaSteps := 300000) | lia) (by first | with_reducible assumption | grind | grind (ematch := 40) (gen := 40) (liaSteps := 300000) | lia) ?_
    intro h8 Th8 ih8 ah8
    refine r_It_2 Th8 kv0 ?_
    refine r_It_4 Th8 kv0 ?_
    intro x10 ex10 lx10 ux10
    subst ex10
    refine w_It_e3 Th8 kv0 (by first | with_reducible assumption | grind | grind (ematch := 40) (gen := 40) (liaSteps := 300000) | lia) (by first | with_reducible assumption | grind | grind (ematch := 40) (gen := 40) (liaSteps := 300000) | lia) (by first | with_reducible assumption | grind | grind (ematch := 40) (gen := 40) (liaSteps := 300000) | lia) ?_
    intro h11 Th11 ih11 ah11
    refine r_It_3 Th11 kv0 ?_
    refine r_It_4 Th11 kv0 ?_
    intro x13 ex13 lx13 ux13
    subst ex13
    refine w_It_e4 Th11 kv0 (by first | with_reducible assumption | grind | grind (ematch := 40) (gen := 40) (liaSteps := 300000) | lia) (by first | with_reducible assumption | grind | grind (ematch := 40) (gen := 40) (liaSteps := 300000) | lia) (by first | with_reducible assumption | grind | grind (ematch := 40) (gen := 40) (liaSteps := 300000) | lia) ?_
    intro h14 Th14 ih14 ah14
    refine r_It_4 Th14 kv0 ?_
    intro x15 ex15 lx15 ux15
    subst ex15
    refine w_It_4 Th14 kv0 (by first | with_reducible assumption | grind | grind (ematch := 40) (gen := 40) (liaSteps := 300000) | lia) (by first | with_reducible assumption | grind | grind (ematch := 40) (gen := 40) (liaSteps := 300000) | lia) (by first | with_reducible assumption | grind | grind (ematch := 40) (gen := 40) (liaSteps := 300000) | lia) ?_
    intro h16 Th16 ih16 ah16
    refine qk_some ?_
    exact ⟨Th16, (by first | with_reducible assumption | grind | grind (ematch := 40) (gen := 40) (liaSteps := 300000) | lia), (by first | with_reducible assumption | grind | grind (ematch := 40) (gen := 40) (liaSteps := 300000) | lia), (by first | with_reducible assumption | grind | grind (ematch := 40) (gen := 40) (liaSteps := 300000) | lia), (by first | with_reducible assumption | grind | grind (ematch := 40) (gen := 40) (liaSteps := 300000) | lia)⟩
theorem c_It_add {L : q_L} {W : Nat → Prop} {h0 : z_H} {π : Nat → Nat → Option Nat} {N : Nat} {h : z_H} {v0 : Nat} {v1 : Int32} {v2 : Int32} {β : Type} {f : z_H → Option β} {Q : β → Prop} (T : q_U L W h0 π h) (kv0 : qκ L v0 = 5) (w0 : W v0) (w1 : W (v0 + 1)) (w2 : W (v0 + 2)) (w3 : W (v0 + 3)) (w4 : W (v0 + 4)) (b0 : 0 ≤ v2) (b1 : v2 ≤ 3) (H : ∀ h', q_U L W h0 π h' → (∀ a k, vI h' a k = if a = v0 ∧ k = 4 then (if 240 ≤ vI h v0 4 then vI h v0 4 else vI h v0 4 + 1) else vI h a k) → (∀ a j, 0 ≤ j → ¬ (a = v0 + 1 ∨ a = v0 + 2) → vA h' a j = vA h a j) → (∀ j, 0 ≤ j → j < vI h v0 4 → vA h' (v0 + 1) j = vA h (v0 + 1) j ∧ vA h' (v0 + 2) j = vA h (v0 + 2) j) → (vI h v0 4 < 240 → vA h' (v0 + 1) (vI h v0 4) = v1 ∧ vA h' (v0 + 2) (vI h v0 4) = v2) → qk (f h') Q) : qk (z_b (f_It_add N v0 v1 v2 h) f) Q := by
  refine qk_b (p_It_add T kv0 w0 w1 w2 w3 w4 b0 b1) ?_
  rintro hz ⟨Tz, g0, g1, g2, g3⟩
  exact H hz Tz g0 g1 g2 g3

set_option maxHeartbeats 1000000 in
theorem p_It_allow_10_n {L : q_L} {W : Nat → Prop} {h0 : z_H} {π : Nat → Nat → Option Nat} {N : Nat} {lo : Nat → Int32} (hqn : q_Q lo 65537) : ∀ (n : Nat) (v0 : Nat) (v2 : Int32) (v3 : Int32) (v4 : Int32) (h : z_H), q_U L W h0 π h → qκ L v0 = 5 → (W (v0 + 3)) → (W (v0 + 4)) → (v3 < 240) → (0 ≤ v4) → (v2 ≤ 65535) → (v4 ≤ 65536) → (lo n ≤ v4) → qk (f_It_allow_10 N  n v0 v2 v3 v4 h) (fun r => q_U L W h0 π r ∧ (∀ a k, vI r a k = vI h a k) ∧ (∀ a j, vA r a j = vA h a j)) := by
  intro n
  induction n with
  | zero => intro v0 v2 v3 v4 h T kv0 w3 w4 b0 b1 b2 b3 hms; have hz := hqn.1; exact absurd hms (by grind)
  | succ n ih =>
    intro v0 v2 v3 v4 h T kv0 w3 w4 b0 b1 b2 b3 hms
    obtain ⟨hq1, hq2, hq3⟩ := hqn.2 n
    rw [f_It_allow_10]
    refine qk_if (fun cc1 => ?_) (fun cc1 => ?_)
    · skip
      refine qk_some ?_
      exact ⟨T, (by clear ih; first | with_reducible assumption | grind | grind (ematch := 40) (gen := 40) (liaSteps := 300000) | lia), (by clear ih; first | with_reducible assumption | grind | grind (ematch := 40) (gen := 40) (liaSteps := 300000) | lia)⟩
    · skip
      refine qk_if (fun cc2 => ?_) (fun cc2 => ?_)
      · skip
        refine qk_some ?_
        exact ⟨T, (by clear ih; first | with_reducible assumption | grind | grind (ematch := 40) (gen := 40) (liaSteps := 300000) | lia), (by clear ih; first | with_reducible assumption | grind | grind (ematch := 40) (gen := 40) (liaSteps := 300000) | lia)⟩
      · skip
        refine qk_bs ?_
        refine qk_if (fun cc3 => ?_) (fun cc3 => ?_)
        · skip
          refine r_It_3 T kv0 ?_
          refine r_It_e4 T kv0 (by clear ih; first | with_reducible assumption | grind | grind (ematch := 40) (gen := 40) (liaSteps := 300000) | lia) (by clear ih; first | with_reducible assumption | grind | grind (ematch := 40) (gen := 40) (liaSteps := 300000) | lia) ?_
          intro x6
          refine w_It_e4 T kv0 (by clear ih; first | with_reducible assumption | grind | grind (ematch := 40) (gen := 40) (liaSteps := 300000) | lia) (by clear ih; first | with_reducible assumption | grind | grind (ematch := 40) (gen := 40) (liaSteps := 300000) | lia) (by clear ih; first | with_reducible assumption | grind | grind (ematch := 40) (gen := 40) (liaSteps := 300000) | lia) ?_
          intro h7 Th7 ih7 ah7
          refine qk_bs ?_
          refine qk_mono (ih (v0) (v2) (v3) ((v4 + 1)) h7 Th7 kv0 (by clear ih; first | with_reducible assumption | grind | grind (ematch := 40) (gen := 40) (liaSteps := 300000) | lia) (by clear ih; first | with_reducible assumption | grind | grind (ematch := 40) (gen := 40) (liaSteps := 300000) | lia) (by clear ih; first | with_reducible assumption | grind | grind (ematch := 40) (gen := 40) (liaSteps := 300000) | lia) (by clear ih; first | with_reducible assumption | grind | grind (ematch := 40) (gen := 40) (liaSteps := 300000) | lia) (by clear ih; first | with_reducible assumption | grind | grind (ematch := 40) (gen := 40) (liaSteps := 300000) | lia) (by clear ih; first | with_reducible assumption | grind | grind (ematch := 40) (gen := 40) (liaSteps := 300000) | lia) (by clear ih; first | with_reducible assumption | grind | grind (ematch := 40) (gen := 40) (liaSteps := 300000) | lia)) ?_
          rintro hz ⟨Tz, g0, g1⟩
          try dsimp only at *
          exact ⟨Tz, (by clear ih; first | with_reducible assumption | grind | grind (ematch := 40) (gen := 40) (liaSteps := 300000) | lia), (by clear ih; first | with_reducible assumption | grind | grind (ematch := 40) (gen := 40) (liaSteps := 300000) | lia)⟩
        · skip
          refine r_It_2 T kv0 ?_
          refine r_It_e3 T kv0 (by clear ih; first | with_reducible assumption | grind | grind (ematch := 40) (gen := 40) (liaSteps := 300000) | lia) (by clear ih; first | with_reducible assumption | grind | grind (ematch := 40) (gen := 40) (liaSteps := 300000) | lia) ?_
          intro x10
          refine w_It_e3 T kv0 (by clear ih; first | with_reducible assumption | grind | grind (ematch := 40) (gen := 40) (liaSteps := 300000) | lia) (by clear ih; first | with_reducible assumption | grind | grind (ematch := 40) (gen := 40) (liaSteps := 300000) | lia) (by clear ih; first | with_reducible assumption | grind | grind (ematch := 40) (gen := 40) (liaSteps := 300000) | lia) ?_
          intro h11 Th11 ih11 ah11
          refine qk_bs ?_
          refine qk_mono (ih (v0) (v2) (v3) ((v4 + 1)) h11 Th11 kv0 (by clear ih; first | with_reducible assumption | grind | grind (ematch := 40) (gen := 40) (liaSteps := 300000) | lia) (by clear ih; first | with_reducible assumption | grind | grind (ematch := 40) (gen := 40) (liaSteps := 300000) | lia) (by clear ih; first | with_reducible assumption | grind | grind (ematch := 40) (gen := 40) (liaSteps := 300000) | lia) (by clear ih; first | with_reducible assumption | grind | grind (ematch := 40) (gen := 40) (liaSteps := 300000) | lia) (by clear ih; first | with_reducible assumption | grind | grind (ematch := 40) (gen := 40) (liaSteps := 300000) | lia) (by clear ih; first | with_reducible assumption | grind | grind (ematch := 40) (gen := 40) (liaSteps := 300000) | lia) (by clear ih; first | with_reducible assumption | grind | grind (ematch := 40) (gen := 40) (liaSteps := 300000) | lia)) ?_
          rintro hz ⟨Tz, g0, g1⟩
          try dsimp only at *
          exact ⟨Tz, (by clear ih; first | with_reducible assumption | grind | grind (ematch := 40) (gen := 40) (liaSteps := 300000) | lia), (by clear ih; first | with_reducible assumption | grind | grind (ematch := 40) (gen := 40) (liaSteps := 300000) | lia)⟩
theorem p_It_allow_10 {L : q_L} {W : Nat → Prop} {h0 : z_H} {π : Nat → Nat → Option Nat} {N : Nat} {h : z_H} {v0 : Nat} {v2 : Int32} {v3 : Int32} {v4 : Int32} (T : q_U L W h0 π h) (kv0 : qκ L v0 = 5) (w3 : W (v0 + 3)) (w4 : W (v0 + 4)) (b0 : v3 < 240) (b1 : 0 ≤ v4) (b2 : v2 ≤ 65535) (b3 : v4 ≤ 65536) (hN : 100000 ≤ N) : qk (f_It_allow_10 N  N v0 v2 v3 v4 h) (fun r => q_U L W h0 π r ∧ (∀ a k, vI r a k = vI h a k) ∧ (∀ a j, vA r a j = vA h a j)) := by
  have hq := q_qnN hN
  refine p_It_allow_10_n (q_lo (M := 65537) (by decide) (by decide)) N v0 v2 v3 v4 h T kv0 w3 w4 b0 b1 b2 b3 ?_ 
  show 65537 - q_n N ≤ _
  rw [hq]
  lia

set_option maxHeartbeats 1000000 in
theorem p_It_allow {L : q_L} {W : Nat → Prop} {h0 : z_H} {π : Nat → Nat → Option Nat} {N : Nat} {h : z_H} {v0 : Nat} {v1 : Int32} {v2 : Int32} (T : q_U L W h0 π h) (kv0 : qκ L v0 = 5) (w3 : W (v0 + 3)) (w4 : W (v0 + 4)) (b1 : 0 ≤ v1) (b2 : v2 ≤ 65535) (b3 : v1 ≤ 65535) (hN : 100000 ≤ N) : qk (f_It_allow N v0 v1 v2 h) (fun r => q_U L W h0 π r ∧ (∀ a k, vI r a k = vI h a k) ∧ (∀ a j, vA r a j = vA h a j)) := by
  unfold f_It_allow
  refine r_It_4 T kv0 ?_
  intro x1 ex1 lx1 ux1
  subst ex1
  refine qk_bs ?_
  refine qk_mono (p_It_allow_10 (v0 := v0) (v2 := v2) (v3 := ((vI h v0 4) - 1)) (v4 := v1) T kv0 (by first | with_reducible assumption | grind | grind (ematch := 40) (gen := 40) (liaSteps := 300000) | lia) (by first | with_reducible assumption | grind | grind (ematch := 40) (gen := 40) (liaSteps := 300000) | lia) (by first | with_reducible assumption | grind | grind (ematch := 40) (gen := 40) (liaSteps := 300000) | lia) (by first | with_reducible assumption | grind | grind (ematch := 40) (gen := 40) (liaSteps := 300000) | lia) (by first | with_reducible assumption | grind | grind (ematch := 40) (gen := 40) (liaSteps := 300000) | lia) (by first | with_reducible assumption | grind | grind (ematch := 40) (gen := 40) (liaSteps := 300000) | lia) (by first | with_reducible assumption | grind | grind (ematch := 40) (gen := 40) (liaSteps := 300000) | lia)) ?_
  rintro hz ⟨Tz, g0, g1⟩
  try dsimp only at *
  exact ⟨Tz, (by first | with_reducible assumption | grind | grind (ematch := 40) (gen := 40) (liaSteps := 300000) | lia), (by first | with_reducible assumption | grind | grind (ematch := 40) (gen := 40) (liaSteps := 300000) | lia)⟩
theorem c_It_allow {L : q_L} {W : Nat → Prop} {h0 : z_H} {π : Nat → Nat → Option Nat} {N : Nat} {h : z_H} {v0 : Nat} {v1 : Int32} {v2 : Int32} {β : Type} {f : z_H → Option β} {Q : β → Prop} (T : q_U L W h0 π h) (kv0 : qκ L v0 = 5) (w3 : W (v0 + 3)) (w4 : W (v0 + 4)) (b1 : 0 ≤ v1) (b2 : v2 ≤ 65535) (b3 : v1 ≤ 65535) (hN : 100000 ≤ N) (H : ∀ h', q_U L W h0 π h' → (∀ a k, vI h' a k = vI h a k) → (∀ a j, vA h' a j = vA h a j) → qk (f h') Q) : qk (z_b (f_It_allow N v0 v1 v2 h) f) Q := by
  refine qk_b (p_It_allow T kv0 w3 w4 b1 b2 b3 hN) ?_
  rintro hz ⟨Tz, g0, g1⟩
  exact H hz Tz g0 g1

set_option maxHeartbeats 1000000 in
theorem p_It_turn {L : q_L} {W : Nat → Prop} {h0 : z_H} {π : Nat → Nat → Option Nat} {N : Nat} {h : z_H} {v0 : Nat} (T : q_U L W h0 π h) (kv0 : qκ L v0 = 5) (w3 : W (v0 + 3)) (w4 : W (v0 + 4)) : qk (f_It_turn N v0 h) (fun r => q_U L W h0 π r ∧ (∀ a k, vI r a k = vI h a k) ∧ (∀ a j, vA r a j = vA h a j)) := by
  unfold f_It_turn
  refine r_It_4 T kv0 ?_
  intro x1 ex1 lx1 ux1
  subst ex1
  refine qk_bs ?_
  refine qk_if (fun cc1 => ?_) (fun cc1 => ?_)
  · skip
    refine qk_some ?_
    exact ⟨T, (by first | with_reducible assumption | grind | grind (ematch := 40) (gen := 40) (liaSteps := 300000) | lia), (by first | with_reducible assumption | grind | grind (ematch := 40) (gen := 40) (liaSteps := 300000) | lia)⟩
  · skip
    refine r_It_2 T kv0 ?_
    refine r_It_2 T kv0 ?_
    refine r_It_e3 T kv0 (by first | with_reducible assumption | grind | grind (ematch := 40) (gen := 40) (liaSteps := 300000) | lia) (by first | with_reducible assumption | grind | grind (ematch := 40) (gen := 40) (liaSteps := 300000) | lia) ?_
    intro x6
    refine w_It_e3 T kv0 (by first | with_reducible assumption | grind | grind (ematch := 40) (gen := 40) (liaSteps := 300000) | lia) (by first | with_reducible assumption | grind | grind (ematch := 40) (gen := 40) (liaSteps := 300000) | lia) (by first | with_reducible assumption | grind | grind (ematch := 40) (gen := 40) (liaSteps := 300000) | lia) ?_
    intro h7 Th7 ih7 ah7
    refine r_It_3 Th7 kv0 ?_
    refine r_It_3 Th7 kv0 ?_
    refine r_It_e4 Th7 kv0 (by first | with_reducible assumption | grind | grind (ematch := 40) (gen := 40) (liaSteps := 300000) | lia) (by first | with_reducible assumption | grind | grind (ematch := 40) (gen := 40) (liaSteps := 300000) | lia) ?_
    intro x10
    refine w_It_e4 Th7 kv0 (by first | with_reducible assumption | grind | grind (ematch := 40) (gen := 40) (liaSteps := 300000) | lia) (by first | with_reducible assumption | grind | grind (ematch := 40) (gen := 40) (liaSteps := 300000) | lia) (by first | with_reducible assumption | grind | grind (ematch := 40) (gen := 40) (liaSteps := 300000) | lia) ?_
    intro h11 Th11 ih11 ah11
    refine qk_some ?_
    exact ⟨Th11, (by first | with_reducible assumption | grind | grind (ematch := 40) (gen := 40) (liaSteps := 300000) | lia), (by first | with_reducible assumption | grind | grind (ematch := 40) (gen := 40) (liaSteps := 300000) | lia)⟩
theorem c_It_turn {L : q_L} {W : Nat → Prop} {h0 : z_H} {π : Nat → Nat → Option Nat} {N : Nat} {h : z_H} {v0 : Nat} {β : Type} {f : z_H → Option β} {Q : β → Prop} (T : q_U L W h0 π h) (kv0 : qκ L v0 = 5) (w3 : W (v0 + 3)) (w4 : W (v0 + 4)) (H : ∀ h', q_U L W h0 π h' → (∀ a k, vI h' a k = vI h a k) → (∀ a j, vA h' a j = vA h a j) → qk (f h') Q) : qk (z_b (f_It_turn N v0 h) f) Q := by
  refine qk_b (p_It_turn T kv0 w3 w4) ?_
  rintro hz ⟨Tz, g0, g1⟩
  exact H hz Tz g0 g1

set_option maxHeartbeats 1000000 in
theorem p_It_takes {L : q_L} {W : Nat → Prop} {h0 : z_H} {π : Nat → Nat → Option Nat} {N : Nat} {h : z_H} {v0 : Nat} {v1 : Int32} {v2 : Int32} (T : q_U L W h0 π h) (kv0 : qκ L v0 = 5) (b0 : 0 ≤ v1) (b1 : v1 < 240) : qk (f_It_takes N v0 v1 v2 h) (fun r => r.2 = h ∧ (r.1 = 0 ∨ r.1 = 1)) := by
  unfold f_It_takes
  refine qk_if (fun cc1 => ?_) (fun cc1 => ?_)
  · skip
    unfold f_It_takes_15
    refine qk_if (fun cc3 => ?_) (fun cc3 => ?_)
    · skip
      refine r_It_3 T kv0 ?_
      refine r_It_e4 T kv0 (by first | with_reducible assumption | grind | grind (ematch := 40) (gen := 40) (liaSteps := 300000) | lia) (by first | with_reducible assumption | grind | grind (ematch := 40) (gen := 40) (liaSteps := 300000) | lia) ?_
      intro x3i2
      unfold f_It_takes_44
      refine qk_if (fun cc5 => ?_) (fun cc5 => ?_)
      · skip
        refine qk_some ?_
        exact ⟨rfl, (by first | with_reducible assumption | grind | grind (ematch := 40) (gen := 40) (liaSteps := 300000) | lia)⟩
      · skip
        refine qk_some ?_
        exact ⟨rfl, (by first | with_reducible assumption | grind | grind (ematch := 40) (gen := 40) (liaSteps := 300000) | lia)⟩
    · skip
      refine r_It_2 T kv0 ?_
      refine r_It_e3 T kv0 (by first | with_reducible assumption | grind | grind (ematch := 40) (gen := 40) (liaSteps := 300000) | lia) (by first | with_reducible assumption | grind | grind (ematch := 40) (gen := 40) (liaSteps := 300000) | lia) ?_
      intro x5i2
      unfold f_It_takes_44
      refine qk_if (fun cc7 => ?_) (fun cc7 => ?_)
      · skip
        refine qk_some ?_
        exact ⟨rfl, (by first | with_reducible assumption | grind | grind (ematch := 40) (gen := 40) (liaSteps := 300000) | lia)⟩
      · skip
        refine qk_some ?_
        exact ⟨rfl, (by first | with_reducible assumption | grind | grind (ematch := 40) (gen := 40) (liaSteps := 300000) | lia)⟩
  · skip
    unfold f_It_takes_15
    refine qk_if (fun cc9 => ?_) (fun cc9 => ?_)
    · skip
      refine r_It_3 T kv0 ?_
      refine r_It_e4 T kv0 (by first | with_reducible assumption | grind | grind (ematch := 40) (gen := 40) (liaSteps := 300000) | lia) (by first | with_reducible assumption | grind | grind (ematch := 40) (gen := 40) (liaSteps := 300000) | lia) ?_
      intro x3i8
      unfold f_It_takes_44
      refine qk_if (fun cc11 => ?_) (fun cc11 => ?_)
      · skip
        refine qk_some ?_
        exact ⟨rfl, (by first | with_reducible assumption | grind | grind (ematch := 40) (gen := 40) (liaSteps := 300000) | lia)⟩
      · skip
        refine qk_some ?_
        exact ⟨rfl, (by first | with_reducible assumption | grind | grind (ematch := 40) (gen := 40) (liaSteps := 300000) | lia)⟩
    · skip
      refine r_It_2 T kv0 ?_
      refine r_It_e3 T kv0 (by first | with_reducible assumption | grind | grind (ematch := 40) (gen := 40) (liaSteps := 300000) | lia) (by first | with_reducible assumption | grind | grind (ematch := 40) (gen := 40) (liaSteps := 300000) | lia) ?_
      intro x5i8
      unfold f_It_takes_44
      refine qk_if (fun cc13 => ?_) (fun cc13 => ?_)
      · skip
        refine qk_some ?_
        exact ⟨rfl, (by first | with_reducible assumption | grind | grind (ematch := 40) (gen := 40) (liaSteps := 300000) | lia)⟩
      · skip
        refine qk_some ?_
        exact ⟨rfl, (by first | with_reducible assumption | grind | grind (ematch := 40) (gen := 40) (liaSteps := 300000) | lia)⟩
theorem c_It_takes {L : q_L} {W : Nat → Prop} {h0 : z_H} {π : Nat → Nat → Option Nat} {N : Nat} {h : z_H} {v0 : Nat} {v1 : Int32} {v2 : Int32} {β : Type} {f : Int32 × z_H → Option β} {Q : β → Prop} (T : q_U L W h0 π h) (kv0 : qκ L v0 = 5) (b0 : 0 ≤ v1) (b1 : v1 < 240) (H : ∀ y, (y = 0 ∨ y = 1) → qk (f (y, h)) Q) : qk (z_b (f_It_takes N v0 v1 v2 h) f) Q := by
  refine qk_b (p_It_takes T kv0 b0 b1) ?_
  rintro ⟨y, hz⟩ ⟨hy, g0⟩
  try dsimp only at *
  subst hy
  exact H y g0

set_option maxHeartbeats 1000000 in
theorem p_Cmd_reset {L : q_L} {W : Nat → Prop} {h0 : z_H} {π : Nat → Nat → Option Nat} {N : Nat} {h : z_H} {v0 : Nat} (T : q_U L W h0 π h) (kv0 : qκ L v0 = 2) (w0 : W v0) : qk (f_Cmd_reset N v0 h) (fun r => q_U L W h0 π r ∧ (∀ a k, ¬ (a = v0 ∧ (k = 5 ∨ k = 6 ∨ k = 8 ∨ k = 12 ∨ k = 13 ∨ k = 14)) → vI r a k = vI h a k) ∧ (vI r v0 5 = 0) ∧ (∀ a j, vA r a j = vA h a j)) := by
  unfold f_Cmd_reset
  refine w_Cmd_5 T kv0 (by first | with_reducible assumption | grind | grind (ematch := 40) (gen := 40) (liaSteps := 300000) | lia) (by first | with_reducible assumption | grind | grind (ematch := 40) (gen := 40) (liaSteps := 300000) | lia) (by first | with_reducible assumption | grind | grind (ematch := 40) (gen := 40) (liaSteps := 300000) | lia) ?_
  intro h1 Th1 ih1 ah1
  refine w_Cmd_6 Th1 kv0 (by first | with_reducible assumption | grind | grind (ematch := 40) (gen := 40) (liaSteps := 300000) | lia) ?_
  intro h2 Th2 ih2 ah2
  refine w_Cmd_8 Th2 kv0 (by first | with_reducible assumption | grind | grind (ematch := 40) (gen := 40) (liaSteps := 300000) | lia) (by first | with_reducible assumption | grind | grind (ematch := 40) (gen := 40) (liaSteps := 300000) | lia) (by first | with_reducible assumption | grind | grind (ematch := 40) (gen := 40) (liaSteps := 300000) | lia) ?_
  intro h3 Th3 ih3 ah3
  refine w_Cmd_12 Th3 kv0 (by first | with_reducible assumption | grind | grind (ematch := 40) (gen := 40) (liaSteps := 300000) | lia) ?_
  intro h4 Th4 ih4 ah4
  refine w_Cmd_13 Th4 kv0 (by first | with_reducible assumption | grind | grind (ematch := 40) (gen := 40) (liaSteps := 300000) | lia) ?_
  intro h5 Th5 ih5 ah5
  refine w_Cmd_14 Th5 kv0 (by first | with_reducible assumption | grind | grind (ematch := 40) (gen := 40) (liaSteps := 300000) | lia) ?_
  intro h6 Th6 ih6 ah6
  refine qk_some ?_
  exact ⟨Th6, (by first | with_reducible assumption | grind | grind (ematch := 40) (gen := 40) (liaSteps := 300000) | lia), (by first | with_reducible assumption | grind | grind (ematch := 40) (gen := 40) (liaSteps := 300000) | lia), (by first | with_reducible assumption | grind | grind (ematch := 40) (gen := 40) (liaSteps := 300000) | lia)⟩
theorem c_Cmd_reset {L : q_L} {W : Nat → Prop} {h0 : z_H} {π : Nat → Nat → Option Nat} {N : Nat} {h : z_H} {v0 : Nat} {β : Type} {f : z_H → Option β} {Q : β → Prop} (T : q_U L W h0 π h) (kv0 : qκ L v0 = 2) (w0 : W v0) (H : ∀ h', q_U L W h0 π h' → (∀ a k, ¬ (a = v0 ∧ (k = 5 ∨ k = 6 ∨ k = 8 ∨ k = 12 ∨ k = 13 ∨ k = 14)) → vI h' a k = vI h a k) → (vI h' v0 5 = 0) → (∀ a j, vA h' a j = vA h a j) → qk (f h') Q) : qk (z_b (f_Cmd_reset N v0 h) f) Q := by
  refine qk_b (p_Cmd_reset T kv0 w0) ?_
  rintro hz ⟨Tz, g0, g1, g2⟩
  exact H hz Tz g0 g1 g2

set_option maxHeartbeats 1000000 in
theorem p_Cmd_replaces {L : q_L} {W : Nat → Prop} {h0 : z_H} {π : Nat → Nat → Option Nat} {N : Nat} {h : z_H} {v0 : Nat} {v1 : Int32} (T : q_U L W h0 π h) (kv0 : qκ L v0 = 2)  : qk (f_Cmd_replaces N v0 v1 h) (fun r => r.2 = h ∧ (r.1 = 0 ∨ r.1 = 1)) := by
  unfold f_Cmd_replaces
  refine r_Cmd_14 T kv0 ?_
  intro x1 ex1
  subst ex1
  refine qk_bs ?_
  refine r_Cmd_12 T kv0 ?_
  intro x3 ex3
  subst ex3
  refine qk_if (fun cc1 => ?_) (fun cc1 => ?_)
  · skip
    refine qk_if (fun cc2 => ?_) (fun cc2 => ?_)
    · skip
      refine qk_some ?_
      exact ⟨rfl, (by first | with_reducible assumption | grind | grind (ematch := 40) (gen := 40) (liaSteps := 300000) | lia)⟩
    · skip
      refine qk_some ?_
      exact ⟨rfl, (by first | with_reducible assumption | grind | grind (ematch := 40) (gen := 40) (liaSteps := 300000) | lia)⟩
  · skip
    refine qk_if (fun cc3 => ?_) (fun cc3 => ?_)
    · skip
      refine qk_some ?_
      exact ⟨rfl, (by first | with_reducible assumption | grind | grind (ematch := 40) (gen := 40) (liaSteps := 300000) | lia)⟩
    · skip
      refine qk_some ?_
      exact ⟨rfl, (by first | with_reducible assumption | grind | grind (ematch := 40) (gen := 40) (liaSteps := 300000) | lia)⟩
theorem c_Cmd_replaces {L : q_L} {W : Nat → Prop} {h0 : z_H} {π : Nat → Nat → Option Nat} {N : Nat} {h : z_H} {v0 : Nat} {v1 : Int32} {β : Type} {f : Int32 × z_H → Option β} {Q : β → Prop} (T : q_U L W h0 π h) (kv0 : qκ L v0 = 2)  (H : ∀ y, (y = 0 ∨ y = 1) → qk (f (y, h)) Q) : qk (z_b (f_Cmd_replaces N v0 v1 h) f) Q := by
  refine qk_b (p_Cmd_replaces T kv0 ) ?_
  rintro ⟨y, hz⟩ ⟨hy, g0⟩
  try dsimp only at *
  subst hy
  exact H y g0
