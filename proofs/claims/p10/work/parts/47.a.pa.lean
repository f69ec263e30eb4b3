set_option maxHeartbeats 1000000 in
theorem p_Pa_begin_79_n {L : q_L} {W : Nat → Prop} {h0 : z_H} {π : Nat → Nat → Option Nat} {N : Nat} {lo : Nat → Int32} (hqn : q_Q lo 27) : ∀ (n : Nat) (v0 : Nat) (v3 : Int32) (h : z_H), q_U L W h0 π h → qκ L v0 = 7 → (W (v0 + 4)) → (0 ≤ v3) → (v3 ≤ 26) → (lo n ≤ v3) → qk (f_Pa_begin_79 N  n v0 v3 h) (fun r => q_U L W h0 π r ∧ (∀ a k, vI r a k = vI h a k) ∧ (∀ a j, 0 ≤ j → a ≠ v0 + 4 → vA r a j = vA h a j)) := by
  intro n
  induction n with
  | zero => intro v0 v3 h T kv0 w4 b0 b1 hms; have hz := hqn.1; exact absurd hms (by grind)
  | succ n ih =>
    intro v0 v3 h T kv0 w4 b0 b1 hms
    obtain ⟨hq1, hq2, hq3⟩ := hqn.2 n
    rw [f_Pa_begin_79]
    refine qk_if (fun cc1 => ?_) (fun cc1 => ?_)
    · skip
      refine qk_some ?_
      exact ⟨T, (by clear ih; first | with_reducible assumption | grind | grind (ematch := 40) (gen := 40) (splits := 40) | lia), (by clear ih; first | with_reducible assumption | grind | grind (ematch := 40) (gen := 40) (splits := 40) | lia)⟩
    · skip
      refine r_Pa_3 T kv0 ?_
      refine w_Pa_e4 T kv0 (by clear ih; first | with_reducible assumption | grind | grind (ematch := 40) (gen := 40) (splits := 40) | lia) (by clear ih; first | with_reducible assumption | grind | grind (ematch := 40) (gen := 40) (splits := 40) | lia) (by clear ih; first | with_reducible assumption | grind | grind (ematch := 40) (gen := 40) (splits := 40) | lia) (by clear ih; first | with_reducible assumption | grind | grind (ematch := 40) (gen := 40) (splits := 40) | lia) (by clear ih; first | with_reducible assumption | grind | grind (ematch := 40) (gen := 40) (splits := 40) | lia) ?_
      intro h3 Th3 ih3 ah3
      refine qk_bs ?_
      refine qk_mono (ih (v0) ((v3 + 1)) h3 Th3 kv0 (by clear ih; first | with_reducible assumption | grind | grind (ematch := 40) (gen := 40) (splits := 40) | lia) (by clear ih; first | with_reducible assumption | grind | grind (ematch := 40) (gen := 40) (splits := 40) | lia) (by clear ih; first | with_reducible assumption | grind | grind (ematch := 40) (gen := 40) (splits := 40) | lia) (by clear ih; first | with_reducible assumption | grind | grind (ematch := 40) (gen := 40) (splits := 40) | lia)) ?_
      rintro hz ⟨Tz, g0, g1⟩
      try dsimp only at *
      exact ⟨Tz, (by clear ih; first | with_reducible assumption | grind | grind (ematch := 40) (gen := 40) (splits := 40) | lia), (by clear ih; first | with_reducible assumption | grind | grind (ematch := 40) (gen := 40) (splits := 40) | lia)⟩
theorem p_Pa_begin_79 {L : q_L} {W : Nat → Prop} {h0 : z_H} {π : Nat → Nat → Option Nat} {N : Nat} {h : z_H} {v0 : Nat} {v3 : Int32} (T : q_U L W h0 π h) (kv0 : qκ L v0 = 7) (w4 : W (v0 + 4)) (b0 : 0 ≤ v3) (b1 : v3 ≤ 26) (hN : 100000 ≤ N) : qk (f_Pa_begin_79 N  N v0 v3 h) (fun r => q_U L W h0 π r ∧ (∀ a k, vI r a k = vI h a k) ∧ (∀ a j, 0 ≤ j → a ≠ v0 + 4 → vA r a j = vA h a j)) := by
  have hq := q_qnN hN
  refine p_Pa_begin_79_n (q_lo (M := 27) (by decide) (by decide)) N v0 v3 h T kv0 w4 b0 b1 ?_ 
  show 27 - q_n N ≤ _
  rw [hq]
  lia

set_option maxHeartbeats 4000000 in
theorem p_Pa_begin {L : q_L} {W : Nat → Prop} {h0 : z_H} {π : Nat → Nat → Option Nat} {N : Nat} {h : z_H} {v0 : Nat} {v1 : Nat} {v2 : Nat} (T : q_U L W h0 π h) (kv0 : qκ L v0 = 7) (kv1 : qκ L v1 = 11) (kv2 : qκ L v2 = 10) (wP : ∀ a, v0 ≤ a → a < v0 + 5 → W a) (wG : ∀ a, v2 ≤ a → a < v2 + 249 → W a) (hN : 100000 ≤ N) : qk (f_Pa_begin N v0 v1 v2 h) (fun r => ∃ π1, q_U L W h0 π1 r ∧ (∀ a k, ¬ (a = v0 ∧ k = 5) → ¬ (a = (v0 + 1) ∧ k = 0) → π1 a k = π a k) ∧ (π1 v0 5 = some v2) ∧ (π1 (v0 + 1) 0 = some (v2 + 1)) ∧ (vI r v2 3 = 0) ∧ (vI r (v2 + 3) 4 = 0) ∧ (vI r (v0 + 1) 1 = 0) ∧ (vI r v0 4 = 0) ∧ (∀ a k, ¬ ((v0 ≤ a ∧ a < v0 + 5) ∨ (v2 ≤ a ∧ a < v2 + 249)) → vI r a k = vI h a k) ∧ (∀ a j, 0 ≤ j → ¬ ((v0 ≤ a ∧ a < v0 + 5) ∨ (v2 ≤ a ∧ a < v2 + 249)) → vA r a j = vA h a j)) := by
  have hr_v1 := q_rowhi T kv1
  obtain ⟨kcu, kpr, cpa1, cpa2, cpa3, cpa4, cpa5⟩ := q_CPa T kv0
  obtain ⟨ktx, ctx, kit, cpg1, cpg2, cpg3⟩ := q_CProg T kv2
  unfold f_Pa_begin
  refine w_Pa_5 (q := v2) T kv0 (by first | with_reducible assumption | grind | grind (ematch := 40) (gen := 40) (splits := 40) | lia) ?_
  intro πh1 h1 Th1 ph1 ih1 ah1
  have q1_h1 : πh1 v0 5 = some v2 := by rw [ph1, if_pos ⟨rfl, rfl⟩]
  refine r_Pa_5 Th1 kv0 q1_h1 ?_
  refine r_Prog_0 Th1 kv2 ?_
  intro kx3 px3
  refine r_Row_o Th1 kx3 ?_
  refine c_Row_empty (v0 := (v2 + 1)) Th1 kx3 (by first | with_reducible assumption | grind | grind (ematch := 40) (gen := 40) (splits := 40) | lia) ?_
  intro r5 Tr5 gr5_0 gr5_1
  refine r_Pa_5 Tr5 kv0 q1_h1 ?_
  refine r_Prog_0 Tr5 kv2 ?_
  intro kx7 px7
  refine r_Row_1 Tr5 kv1 ?_
  intro x8 ex8 lx8 ux8 mx8
  subst ex8
  refine r_Row_o Tr5 kx7 ?_
  refine c_Row_addPart (v0 := (v2 + 1)) (v1 := v1) (v2 := 0) (v3 := (vI r5 v1 1)) Tr5 kx7 kv1 (by first | with_reducible assumption | grind | grind (ematch := 40) (gen := 40) (splits := 40) | lia) (by first | with_reducible assumption | grind | grind (ematch := 40) (gen := 40) (splits := 40) | lia) (by first | with_reducible assumption | grind | grind (ematch := 40) (gen := 40) (splits := 40) | lia) (by first | with_reducible assumption | grind | grind (ematch := 40) (gen := 40) (splits := 40) | lia) (by first | with_reducible assumption | grind | grind (ematch := 40) (gen := 40) (splits := 40) | lia) ?_
  intro r10 Tr10 gr10_0 gr10_1
  refine r_Pa_5 Tr10 kv0 q1_h1 ?_
  refine r_Prog_1 Tr10 kv2 ?_
  intro kx12
  refine w_It_4 Tr10 kx12 (by first | with_reducible assumption | grind | grind (ematch := 40) (gen := 40) (splits := 40) | lia) (by first | with_reducible assumption | grind | grind (ematch := 40) (gen := 40) (splits := 40) | lia) (by first | with_reducible assumption | grind | grind (ematch := 40) (gen := 40) (splits := 40) | lia) ?_
  intro h13 Th13 ih13 ah13
  refine r_Pa_5 Th13 kv0 q1_h1 ?_
  refine w_Prog_3 Th13 kv2 (by first | with_reducible assumption | grind | grind (ematch := 40) (gen := 40) (splits := 40) | lia) (by first | with_reducible assumption | grind | grind (ematch := 40) (gen := 40) (splits := 40) | lia) (by first | with_reducible assumption | grind | grind (ematch := 40) (gen := 40) (splits := 40) | lia) ?_
  intro h15 Th15 ih15 ah15
  refine r_Pa_0 Th15 kv0 ?_
  intro kx16
  refine r_Pa_5 Th15 kv0 q1_h1 ?_
  refine r_Prog_0 Th15 kv2 ?_
  intro kx18 px18
  refine w_Cur_0 (q := (v2 + 1)) Th15 kx16 (by first | with_reducible assumption | grind | grind (ematch := 40) (gen := 40) (splits := 40) | lia) ?_
  intro πh19 h19 Th19 ph19 ih19 ah19
  have q1_h19 : πh19 v0 5 = some v2 := by rw [ph19, if_neg (by grind)]; exact q1_h1
  have q2_h19 : πh19 (v0 + 1) 0 = some (v2 + 1) := by rw [ph19, if_pos ⟨rfl, rfl⟩]
  refine r_Pa_0 Th19 kv0 ?_
  intro kx20
  refine w_Cur_1 Th19 kx20 (by first | with_reducible assumption | grind | grind (ematch := 40) (gen := 40) (splits := 40) | lia) (by first | with_reducible assumption | grind | grind (ematch := 40) (gen := 40) (splits := 40) | lia) (by first | with_reducible assumption | grind | grind (ematch := 40) (gen := 40) (splits := 40) | lia) ?_
  intro h21 Th21 ih21 ah21
  refine w_Pa_4 Th21 kv0 (by first | with_reducible assumption | grind | grind (ematch := 40) (gen := 40) (splits := 40) | lia) (by first | with_reducible assumption | grind | grind (ematch := 40) (gen := 40) (splits := 40) | lia) (by first | with_reducible assumption | grind | grind (ematch := 40) (gen := 40) (splits := 40) | lia) ?_
  intro h22 Th22 ih22 ah22
  refine qk_mono (p_Pa_begin_79 (v0 := v0) (v3 := 0) Th22 kv0 (by first | with_reducible assumption | grind | grind (ematch := 40) (gen := 40) (splits := 40) | lia) (by first | with_reducible assumption | grind | grind (ematch := 40) (gen := 40) (splits := 40) | lia) (by first | with_reducible assumption | grind | grind (ematch := 40) (gen := 40) (splits := 40) | lia) (by first | with_reducible assumption | grind | grind (ematch := 40) (gen := 40) (splits := 40) | lia)) ?_
  rintro hz ⟨Tz, g0, g1⟩
  try dsimp only at *
  exact ⟨_, Tz, (by first | with_reducible assumption | grind | grind (ematch := 40) (gen := 40) (splits := 40) | lia), (by first | with_reducible assumption | grind | grind (ematch := 40) (gen := 40) (splits := 40) | lia), (by first | with_reducible assumption | grind | grind (ematch := 40) (gen := 40) (splits := 40) | lia), (by first | with_reducible assumption | grind | grind (ematch := 40) (gen := 40) (splits := 40) | lia), (by first | with_reducible assumption | grind | grind (ematch := 40) (gen := 40) (splits := 40) | lia), (by first | with_reducible assumption | grind | grind (ematch := 40) (gen := 40) (splits := 40) | lia), (by first | with_reducible assumption | grind | grind (ematch := 40) (gen := 40) (splits := 40) | lia), (by first | with_reducible assumption | grind | grind (ematch := 40) (gen := 40) (splits := 40) | lia), (by first | with_reducible assumption | grind | grind (ematch := 40) (gen := 40) (splits := 40) | lia)⟩
theorem c_Pa_begin {L : q_L} {W : Nat → Prop} {h0 : z_H} {π : Nat → Nat → Option Nat} {N : Nat} {h : z_H} {v0 : Nat} {v1 : Nat} {v2 : Nat} {β : Type} {f : z_H → Option β} {Q : β → Prop} (T : q_U L W h0 π h) (kv0 : qκ L v0 = 7) (kv1 : qκ L v1 = 11) (kv2 : qκ L v2 = 10) (wP : ∀ a, v0 ≤ a → a < v0 + 5 → W a) (wG : ∀ a, v2 ≤ a → a < v2 + 249 → W a) (hN : 100000 ≤ N) (H : ∀ π1 h', q_U L W h0 π1 h' → (∀ a k, ¬ (a = v0 ∧ k = 5) → ¬ (a = (v0 + 1) ∧ k = 0) → π1 a k = π a k) → (π1 v0 5 = some v2) → (π1 (v0 + 1) 0 = some (v2 + 1)) → (vI h' v2 3 = 0) → (vI h' (v2 + 3) 4 = 0) → (vI h' (v0 + 1) 1 = 0) → (vI h' v0 4 = 0) → (∀ a k, ¬ ((v0 ≤ a ∧ a < v0 + 5) ∨ (v2 ≤ a ∧ a < v2 + 249)) → vI h' a k = vI h a k) → (∀ a j, 0 ≤ j → ¬ ((v0 ≤ a ∧ a < v0 + 5) ∨ (v2 ≤ a ∧ a < v2 + 249)) → vA h' a j = vA h a j) → qk (f h') Q) : qk (z_b (f_Pa_begin N v0 v1 v2 h) f) Q := by
  refine qk_b (p_Pa_begin T kv0 kv1 kv2 wP wG hN) ?_
  rintro hz ⟨π1, Tz, z0, z1, z2, g0, g1, g2, g3, g4, g5⟩
  exact H π1 hz Tz z0 z1 z2 g0 g1 g2 g3 g4 g5

set_option maxHeartbeats 4000000 in
theorem p_Pa_joinLabels_2_n {L : q_L} {W : Nat → Prop} {h0 : z_H} {π : Nat → Nat → Option Nat} {N : Nat} {pg : Nat} {lo : Nat → Int32} (hqn : q_Q lo 42) : ∀ (n : Nat) (v0 : Nat) (v1 : Int32) (h : z_H), q_U L W h0 π h → qκ L v0 = 7 → (qκ L pg = 10) → (π v0 5 = some pg) → (∀ a, v0 ≤ a → a < v0 + 5 → W a) → (∀ a, pg ≤ a → a < pg + 249 → W a) → (0 ≤ v1) → (v1 ≤ 41) → (∀ i : Int32, 0 ≤ i → i < v1 → vI h (pg + (9 + 6 * i.toNatClampNeg)) 3 = 98 ∨ vI h (pg + (9 + 6 * i.toNatClampNeg)) 3 = 116 → 0 ≤ vI h (pg + (9 + 6 * i.toNatClampNeg)) 7) → (lo n ≤ v1) → qk (f_Pa_joinLabels_2 N  n v0 v1 h) (fun r => q_U L W h0 π r.2 ∧ (r.1 = 0 ∨ r.1 = 1) ∧ (r.1 = 1 → ∀ i : Int32, 0 ≤ i → i < vI h pg 3 → vI h (pg + (9 + 6 * i.toNatClampNeg)) 3 = 98 ∨ vI h (pg + (9 + 6 * i.toNatClampNeg)) 3 = 116 → 0 ≤ vI r.2 (pg + (9 + 6 * i.toNatClampNeg)) 7) ∧ (∀ a k, ¬ (a = v0 + 1 ∧ (k = 1 ∨ k = 2)) → ¬ (pg + 9 ≤ a ∧ a < pg + 249 ∧ k = 7) → vI r.2 a k = vI h a k) ∧ (∀ a j, vA r.2 a j = vA h a j) ∧ (∀ a, pg + 9 ≤ a → a < pg + 249 → ¬ vI h a 3 = 98 → ¬ vI h a 3 = 116 → vI r.2 a 7 = vI h a 7)) := by
  intro n
  induction n with
  | zero => intro v0 v1 h T kv0 kpg ppg wP wG b0 b1 JB hms; have hz := hqn.1; exact absurd hms (by grind)
  | succ n ih =>
    intro v0 v1 h T kv0 kpg ppg wP wG b0 b1 JB hms
    obtain ⟨hq1, hq2, hq3⟩ := hqn.2 n
    rw [f_Pa_joinLabels_2]
    obtain ⟨kcu, kpr, cpa1, cpa2, cpa3, cpa4, cpa5⟩ := q_CPa T kv0
    obtain ⟨ktx, ctx, kit, cpg1, cpg2, cpg3⟩ := q_CProg T kpg
    refine r_Pa_5 T kv0 ppg ?_
    refine r_Prog_3 T kpg ?_
    intro x2 ex2 lx2 ux2
    subst ex2
    refine qk_if (fun cc1 => ?_) (fun cc1 => ?_)
    · skip
      refine qk_some ?_
      exact ⟨T, (by clear ih; first | with_reducible assumption | grind | grind (ematch := 40) (gen := 40) (splits := 40) | lia), (by clear ih; intro yy i i0 i1; exact JB i i0 (by lia)), (by clear ih; first | with_reducible assumption | grind | grind (ematch := 40) (gen := 40) (splits := 40) | lia), (by clear ih; first | with_reducible assumption | grind | grind (ematch := 40) (gen := 40) (splits := 40) | lia), (by clear ih; first | with_reducible assumption | grind | grind (ematch := 40) (gen := 40) (splits := 40) | lia)⟩
    · skip
      refine r_Pa_5 T kv0 ppg ?_
      refine r_Prog_2 T kpg ?_
      refine r_Prog_e8 T kpg (by clear ih; first | with_reducible assumption | grind | grind (ematch := 40) (gen := 40) (splits := 40) | lia) (by clear ih; first | with_reducible assumption | grind | grind (ematch := 40) (gen := 40) (splits := 40) | lia) ?_
      intro kx6 bx6
      refine r_Cmd_3 T kx6 ?_
      intro x7 ex7
      subst ex7
      refine qk_if (fun cc2 => ?_) (fun cc2 => ?_)
      · skip
        unfold f_Pa_joinLabels_41
        refine r_Cmd_8 T kx6 ?_
        intro x1i3 ex1i3 lx1i3 ux1i3
        subst ex1i3
        refine qk_if (fun cc4 => ?_) (fun cc4 => ?_)
        · skip
          refine r_Pa_5 T kv0 ppg ?_
          refine r_Prog_3 T kpg ?_
          intro x7i3 ex7i3 lx7i3 ux7i3
          subst ex7i3
          unfold f_Pa_joinLabels_69
          refine w_Cmd_7 T kx6 (by clear ih; first | with_reducible assumption | grind | grind (ematch := 40) (gen := 40) (splits := 40) | lia) (by clear ih; first | with_reducible assumption | grind | grind (ematch := 40) (gen := 40) (splits := 40) | lia) (by clear ih; first | with_reducible assumption | grind | grind (ematch := 40) (gen := 40) (splits := 40) | lia) ?_
          intro h1i5 Th1i5 ih1i5 ah1i5
          refine r_Cmd_7 Th1i5 kx6 ?_
          intro x2i5 ex2i5 lx2i5 ux2i5
          subst ex2i5
          refine qk_if (fun cc6 => ?_) (fun cc6 => ?_)
          · skip
            refine r_Pa_0 Th1i5 kv0 ?_
            intro kx5i5
            refine r_Cmd_4 Th1i5 kx6 ?_
            intro x6i5 ex6i5 lx6i5 ux6i5
            subst ex6i5
            refine w_Cur_1 Th1i5 kx5i5 (by clear ih; first | with_reducible assumption | grind | grind (ematch := 40) (gen := 40) (splits := 40) | lia) (by clear ih; first | with_reducible assumption | grind | grind (ematch := 40) (gen := 40) (splits := 40) | lia) (by clear ih; first | with_reducible assumption | grind | grind (ematch := 40) (gen := 40) (splits := 40) | lia) ?_
            intro h7i5 Th7i5 ih7i5 ah7i5
            refine r_Pa_0 Th7i5 kv0 ?_
            intro kx8i5
            refine r_Cur_o Th7i5 kx8i5 ?_
            refine c_Cur_refuse (v0 := (v0 + 1)) (v1 := 0) Th7i5 kx8i5 (by clear ih; first | with_reducible assumption | grind | grind (ematch := 40) (gen := 40) (splits := 40) | lia) ?_
            intro yr10i5 hr10i5 Tr10i5 gr10i5_0 gr10i5_1 gr10i5_2
            dsimp only
            refine qk_zB (by clear ih; first | with_reducible assumption | grind | grind (ematch := 40) (gen := 40) (splits := 40) | lia) ?_
            refine qk_some ?_
            exact ⟨Tr10i5, (by clear ih; first | with_reducible assumption | grind | grind (ematch := 40) (gen := 40) (splits := 40) | lia), (by clear ih; intro yy; exact absurd yy (by grind)), (by clear ih; first | with_reducible assumption | grind | grind (ematch := 40) (gen := 40) (splits := 40) | lia), (by clear ih; first | with_reducible assumption | grind | grind (ematch := 40) (gen := 40) (splits := 40) | lia), (by clear ih; first | with_reducible assumption | grind | grind (ematch := 40) (gen := 40) (splits := 40) | lia)⟩
          · skip
            refine qk_bs ?_
            refine qk_mono (ih (v0) ((v1 + 1)) h1i5 Th1i5 kv0 kpg ppg (by clear ih; first | with_reducible assumption | grind | grind (ematch := 40) (gen := 40) (splits := 40) | lia) (by clear ih; first | with_reducible assumption | grind | grind (ematch := 40) (gen := 40) (splits := 40) | lia) (by clear ih; first | with_reducible assumption | grind | grind (ematch := 40) (gen := 40) (splits := 40) | lia) (by clear ih; first | with_reducible assumption | grind | grind (ematch := 40) (gen := 40) (splits := 40) | lia) (by clear ih; first | exact q_jb0 b0 (by lia) JB (by assumption) (by assumption) | exact q_jb b0 (by lia) JB (by assumption) (by grind)) (by clear ih; first | with_reducible assumption | grind | grind (ematch := 40) (gen := 40) (splits := 40) | lia)) ?_
            rintro ⟨y, hz⟩ ⟨Tz, g0, g1, g2, g3, g4⟩
            try dsimp only at *
            exact ⟨Tz, (by clear ih; first | with_reducible assumption | grind | grind (ematch := 40) (gen := 40) (splits := 40) | lia), (by clear ih; intro yy i i0 i1 ik; exact g1 yy i i0 (by grind) (by grind)), (by clear ih; first | with_reducible assumption | grind | grind (ematch := 40) (gen := 40) (splits := 40) | lia), (by clear ih; first | with_reducible assumption | grind | grind (ematch := 40) (gen := 40) (splits := 40) | lia), (by clear ih; first | with_reducible assumption | grind | grind (ematch := 40) (gen := 40) (splits := 40) | lia)⟩
        · skip
          refine r_Pa_3 T kv0 ?_
          refine r_Cmd_8 T kx6 ?_
          intro x4i3 ex4i3 lx4i3 ux4i3
          subst ex4i3
          refine r_Pa_e4 T kv0 (by clear ih; first | with_reducible assumption | grind | grind (ematch := 40) (gen := 40) (splits := 40) | lia) (by clear ih; first | with_reducible assumption | grind | grind (ematch := 40) (gen := 40) (splits := 40) | lia) ?_
          intro x5i3 ex5i3 lx5i3 ux5i3
          subst ex5i3
          unfold f_Pa_joinLabels_69
          refine w_Cmd_7 T kx6 (by clear ih; first | with_reducible assumption | grind | grind (ematch := 40) (gen := 40) (splits := 40) | lia) (by clear ih; first | with_reducible assumption | grind | grind (ematch := 40) (gen := 40) (splits := 40) | lia) (by clear ih; first | with_reducible assumption | grind | grind (ematch := 40) (gen := 40) (splits := 40) | lia) ?_
          intro h1i8 Th1i8 ih1i8 ah1i8
          refine r_Cmd_7 Th1i8 kx6 ?_
          intro x2i8 ex2i8 lx2i8 ux2i8
          subst ex2i8
          refine qk_if (fun cc9 => ?_) (fun cc9 => ?_)
          · skip
            refine r_Pa_0 Th1i8 kv0 ?_
            intro kx5i8
            refine r_Cmd_4 Th1i8 kx6 ?_
            intro x6i8 ex6i8 lx6i8 ux6i8
            subst ex6i8
            refine w_Cur_1 Th1i8 kx5i8 (by clear ih; first | with_reducible assumption | grind | grind (ematch := 40) (gen := 40) (splits := 40) | lia) (by clear ih; first | with_reducible assumption | grind | grind (ematch := 40) (gen := 40) (splits := 40) | lia) (by clear ih; first | with_reducible assumption | grind | grind (ematch := 40) (gen := 40) (splits := 40) | lia) ?_
            intro h7i8 Th7i8 ih7i8 ah7i8
            refine r_Pa_0 Th7i8 kv0 ?_
            intro kx8i8
            refine r_Cur_o Th7i8 kx8i8 ?_
            refine c_Cur_refuse (v0 := (v0 + 1)) (v1 := 0) Th7i8 kx8i8 (by clear ih; first | with_reducible assumption | grind | grind (ematch := 40) (gen := 40) (splits := 40) | lia) ?_
            intro yr10i8 hr10i8 Tr10i8 gr10i8_0 gr10i8_1 gr10i8_2
            dsimp only
            refine qk_zB (by clear ih; first | with_reducible assumption | grind | grind (ematch := 40) (gen := 40) (splits := 40) | lia) ?_
            refine qk_some ?_
            exact ⟨Tr10i8, (by clear ih; first | with_reducible assumption | grind | grind (ematch := 40) (gen := 40) (splits := 40) | lia), (by clear ih; intro yy; exact absurd yy (by grind)), (by clear ih; first | with_reducible assumption | grind | grind (ematch := 40) (gen := 40) (splits := 40) | lia), (by clear ih; first | with_reducible assumption | grind | grind (ematch := 40) (gen := 40) (splits := 40) | lia), (by clear ih; first | with_reducible assumption | grind | grind (ematch := 40) (gen := 40) (splits := 40) | lia)⟩
          · skip
            refine qk_bs ?_
            refine qk_mono (ih (v0) ((v1 + 1)) h1i8 Th1i8 kv0 kpg ppg (by clear ih; first | with_reducible assumption | grind | grind (ematch := 40) (gen := 40) (splits := 40) | lia) (by clear ih; first | with_reducible assumption | grind | grind (ematch := 40) (gen := 40) (splits := 40) | lia) (by clear ih; first | with_reducible assumption | grind | grind (ematch := 40) (gen := 40) (splits := 40) | lia) (by clear ih; first | with_reducible assumption | grind | grind (ematch := 40) (gen := 40) (splits := 40) | lia) (by clear ih; first | exact q_jb0 b0 (by lia) JB (by assumption) (by assumption) | exact q_jb b0 (by lia) JB (by assumption) (by grind)) (by clear ih; first | with_reducible assumption | grind | grind (ematch := 40) (gen := 40) (splits := 40) | lia)) ?_
            rintro ⟨y, hz⟩ ⟨Tz, g0, g1, g2, g3, g4⟩
            try dsimp only at *
            exact ⟨Tz, (by clear ih; first | with_reducible assumption | grind | grind (ematch := 40) (gen := 40) (splits := 40) | lia), (by clear ih; intro yy i i0 i1 ik; exact g1 yy i i0 (by grind) (by grind)), (by clear ih; first | with_reducible assumption | grind | grind (ematch := 40) (gen := 40) (splits := 40) | lia), (by clear ih; first | with_reducible assumption | grind | grind (ematch := 40) (gen := 40) (splits := 40) | lia), (by clear ih; first | with_reducible assumption | grind | grind (ematch := 40) (gen := 40) (splits := 40) | lia)⟩
      · skip
        refine r_Cmd_3 T kx6 ?_
        intro x9 ex9
        subst ex9
        refine qk_if (fun cc11 => ?_) (fun cc11 => ?_)
        · skip
          unfold f_Pa_joinLabels_41
          refine r_Cmd_8 T kx6 ?_
          intro x1i12 ex1i12 lx1i12 ux1i12
          subst ex1i12
          refine qk_if (fun cc13 => ?_) (fun cc13 => ?_)
          · skip
            refine r_Pa_5 T kv0 ppg ?_
            refine r_Prog_3 T kpg ?_
            intro x7i12 ex7i12 lx7i12 ux7i12
            subst ex7i12
            unfold f_Pa_joinLabels_69
            refine w_Cmd_7 T kx6 (by clear ih; first | with_reducible assumption | grind | grind (ematch := 40) (gen := 40) (splits := 40) | lia) (by clear ih; first | with_reducible assumption | grind | grind (ematch := 40) (gen := 40) (splits := 40) | lia) (by clear ih; first | with_reducible assumption | grind | grind (ematch := 40) (gen := 40) (splits := 40) | lia) ?_
            intro h1i14 Th1i14 ih1i14 ah1i14
            refine r_Cmd_7 Th1i14 kx6 ?_
            intro x2i14 ex2i14 lx2i14 ux2i14
            subst ex2i14
            refine qk_if (fun cc15 => ?_) (fun cc15 => ?_)
            · skip
              refine r_Pa_0 Th1i14 kv0 ?_
              intro kx5i14
              refine r_Cmd_4 Th1i14 kx6 ?_
              intro x6i14 ex6i14 lx6i14 ux6i14
              subst ex6i14
              refine w_Cur_1 Th1i14 kx5i14 (by clear ih; first | with_reducible assumption | grind | grind (ematch := 40) (gen := 40) (splits := 40) | lia) (by clear ih; first | with_reducible assumption | grind | grind (ematch := 40) (gen := 40) (splits := 40) | lia) (by clear ih; first | with_reducible assumption | grind | grind (ematch := 40) (gen := 40) (splits := 40) | lia) ?_
              intro h7i14 Th7i14 ih7i14 ah7i14
              refine r_Pa_0 Th7i14 kv0 ?_
              intro kx8i14
              refine r_Cur_o Th7i14 kx8i14 ?_
              refine c_Cur_refuse (v0 := (v0 + 1)) (v1 := 0) Th7i14 kx8i14 (by clear ih; first | with_reducible assumption | grind | grind (ematch := 40) (gen := 40) (splits := 40) | lia) ?_
              intro yr10i14 hr10i14 Tr10i14 gr10i14_0 gr10i14_1 gr10i14_2
              dsimp only
              refine qk_zB (by clear ih; first | with_reducible assumption | grind | grind (ematch := 40) (gen := 40) (splits := 40) | lia) ?_
              refine qk_some ?_
              exact ⟨Tr10i14, (by clear ih; first | with_reducible assumption | grind | grind (ematch := 40) (gen := 40) (splits := 40) | lia), (by clear ih; intro yy; exact absurd yy (by grind)), (by clear ih; first | with_reducible assumption | grind | grind (ematch := 40) (gen := 40) (splits := 40) | lia), (by clear ih; first | with_reducible assumption | grind | grind (ematch := 40) (gen := 40) (splits := 40) | lia), (by clear ih; first | with_reducible assumption | grind | grind (ematch := 40) (gen := 40) (splits := 40) | lia)⟩
            · skip
              refine qk_bs ?_
              refine qk_mono (ih (v0) ((v1 + 1)) h1i14 Th1i14 kv0 kpg ppg (by clear ih; first | with_reducible assumption | grind | grind (ematch := 40) (gen := 40) (splits := 40) | lia) (by clear ih; first | with_reducible assumption | grind | grind (ematch := 40) (gen := 40) (splits := 40) | lia) (by clear ih; first | with_reducible assumption | grind | grind (ematch := 40) (gen := 40) (splits := 40) | lia) (by clear ih; first | with_reducible assumption | grind | grind (ematch := 40) (gen := 40) (splits := 40) | lia) (by clear ih; first | exact q_jb0 b0 (by lia) JB (by assumption) (by assumption) | exact q_jb b0 (by lia) JB (by assumption) (by grind)) (by clear ih; first | with_reducible assumption | grind | grind (ematch := 40) (gen := 40) (splits := 40) | lia)) ?_
              rintro ⟨y, hz⟩ ⟨Tz, g0, g1, g2, g3, g4⟩
              try dsimp only at *
              exact ⟨Tz, (by clear ih; first | with_reducible assumption | grind | grind (ematch := 40) (gen := 40) (splits := 40) | lia), (by clear ih; intro yy i i0 i1 ik; exact g1 yy i i0 (by grind) (by grind)), (by clear ih; first | with_reducible assumption | grind | grind (ematch := 40) (gen := 40) (splits := 40) | lia), (by clear ih; first | with_reducible assumption | grind | grind (ematch := 40) (gen := 40) (splits := 40) | lia), (by clear ih; first | with_reducible assumption | grind | grind (ematch := 40) (gen := 40) (splits := 40) | lia)⟩
          · skip
            refine r_Pa_3 T kv0 ?_
            refine r_Cmd_8 T kx6 ?_
            intro x4i12 ex4i12 lx4i12 ux4i12
            subst ex4i12
            refine r_Pa_e4 T kv0 (by clear ih; first | with_reducible assumption | grind | grind (ematch := 40) (gen := 40) (splits := 40) | lia) (by clear ih; first | with_reducible assumption | grind | grind (ematch := 40) (gen := 40) (splits := 40) | lia) ?_
            intro x5i12 ex5i12 lx5i12 ux5i12
            subst ex5i12
            unfold f_Pa_joinLabels_69
            refine w_Cmd_7 T kx6 (by clear ih; first | with_reducible assumption | grind | grind (ematch := 40) (gen := 40) (splits := 40) | lia) (by clear ih; first | with_reducible assumption | grind | grind (ematch := 40) (gen := 40) (splits := 40) | lia) (by clear ih; first | with_reducible assumption | grind | grind (ematch := 40) (gen := 40) (splits := 40) | lia) ?_
            intro h1i17 Th1i17 ih1i17 ah1i17
            refine r_Cmd_7 Th1i17 kx6 ?_
            intro x2i17 ex2i17 lx2i17 ux2i17
            subst ex2i17
            refine qk_if (fun cc18 => ?_) (fun cc18 => ?_)
            · skip
              refine r_Pa_0 Th1i17 kv0 ?_
              intro kx5i17
              refine r_Cmd_4 Th1i17 kx6 ?_
              intro x6i17 ex6i17 lx6i17 ux6i17
              subst ex6i17
              refine w_Cur_1 Th1i17 kx5i17 (by clear ih; first | with_reducible assumption | grind | grind (ematch := 40) (gen := 40) (splits := 40) | lia) (by clear ih; first | with_reducible assumption | grind | grind (ematch := 40) (gen := 40) (splits := 40) | lia) (by clear ih; first | with_reducible assumption | grind | grind (ematch := 40) (gen := 40) (splits := 40) | lia) ?_
              intro h7i17 Th7i17 ih7i17 ah7i17
              refine r_Pa_0 Th7i17 kv0 ?_
              intro kx8i17
              refine r_Cur_o Th7i17 kx8i17 ?_
              refine c_Cur_refuse (v0 := (v0 + 1)) (v1 := 0) Th7i17 kx8i17 (by clear ih; first | with_reducible assumption | grind | grind (ematch := 40) (gen := 40) (splits := 40) | lia) ?_
              intro yr10i17 hr10i17 Tr10i17 gr10i17_0 gr10i17_1 gr10i17_2
              dsimp only
              refine qk_zB (by clear ih; first | with_reducible assumption | grind | grind (ematch := 40) (gen := 40) (splits := 40) | lia) ?_
              refine qk_some ?_
              exact ⟨Tr10i17, (by clear ih; first | with_reducible assumption | grind | grind (ematch := 40) (gen := 40) (splits := 40) | lia), (by clear ih; intro yy; exact absurd yy (by grind)), (by clear ih; first | with_reducible assumption | grind | grind (ematch := 40) (gen := 40) (splits := 40) | lia), (by clear ih; first | with_reducible assumption | grind | grind (ematch := 40) (gen := 40) (splits := 40) | lia), (by clear ih; first | with_reducible assumption | grind | grind (ematch := 40) (gen := 40) (splits := 40) | lia)⟩
            · skip
              refine qk_bs ?_
              refine qk_mono (ih (v0) ((v1 + 1)) h1i17 Th1i17 kv0 kpg ppg (by clear ih; first | with_reducible assumption | grind | grind (ematch := 40) (gen := 40) (splits := 40) | lia) (by clear ih; first | with_reducible assumption | grind | grind (ematch := 40) (gen := 40) (splits := 40) | lia) (by clear ih; first | with_reducible assumption | grind | grind (ematch := 40) (gen := 40) (splits := 40) | lia) (by clear ih; first | with_reducible assumption | grind | grind (ematch := 40) (gen := 40) (splits := 40) | lia) (by clear ih; first | exact q_jb0 b0 (by lia) JB (by assumption) (by assumption) | exact q_jb b0 (by lia) JB (by assumption) (by grind)) (by clear ih; first | with_reducible assumption | grind | grind (ematch := 40) (gen := 40) (splits := 40) | lia)) ?_
              rintro ⟨y, hz⟩ ⟨Tz, g0, g1, g2, g3, g4⟩
              try dsimp only at *
              exact ⟨Tz, (by clear ih; first | with_reducible assumption | grind | grind (ematch := 40) (gen := 40) (splits := 40) | lia), (by clear ih; intro yy i i0 i1 ik; exact g1 yy i i0 (by grind) (by grind)), (by clear ih; first | with_reducible assumption | grind | grind (ematch := 40) (gen := 40) (splits := 40) | lia), (by clear ih; first | with_reducible assumption | grind | grind (ematch := 40) (gen := 40) (splits := 40) | lia), (by clear ih; first | with_reducible assumption | grind | grind (ematch := 40) (gen := 40) (splits := 40) | lia)⟩
        · skip
          refine qk_bs ?_
          refine qk_mono (ih (v0) ((v1 + 1)) h T kv0 kpg ppg (by clear ih; first | with_reducible assumption | grind | grind (ematch := 40) (gen := 40) (splits := 40) | lia) (by clear ih; first | with_reducible assumption | grind | grind (ematch := 40) (gen := 40) (splits := 40) | lia) (by clear ih; first | with_reducible assumption | grind | grind (ematch := 40) (gen := 40) (splits := 40) | lia) (by clear ih; first | with_reducible assumption | grind | grind (ematch := 40) (gen := 40) (splits := 40) | lia) (by clear ih; first | exact q_jb0 b0 (by lia) JB (by assumption) (by assumption) | exact q_jb b0 (by lia) JB (by assumption) (by grind)) (by clear ih; first | with_reducible assumption | grind | grind (ematch := 40) (gen := 40) (splits := 40) | lia)) ?_
          rintro ⟨y, hz⟩ ⟨Tz, g0, g1, g2, g3, g4⟩
          try dsimp only at *
          exact ⟨Tz, (by clear ih; first | with_reducible assumption | grind | grind (ematch := 40) (gen := 40) (splits := 40) | lia), (by clear ih; intro yy i i0 i1 ik; exact g1 yy i i0 (by grind) (by grind)), (by clear ih; first | with_reducible assumption | grind | grind (ematch := 40) (gen := 40) (splits := 40) | lia), (by clear ih; first | with_reducible assumption | grind | grind (ematch := 40) (gen := 40) (splits := 40) | lia), (by clear ih; first | with_reducible assumption | grind | grind (ematch := 40) (gen := 40) (splits := 40) | lia)⟩
theorem p_Pa_joinLabels_2 {L : q_L} {W : Nat → Prop} {h0 : z_H} {π : Nat → Nat → Option Nat} {N : Nat} {pg : Nat} {h : z_H} {v0 : Nat} {v1 : Int32} (T : q_U L W h0 π h) (kv0 : qκ L v0 = 7) (kpg : qκ L pg = 10) (ppg : π v0 5 = some pg) (wP : ∀ a, v0 ≤ a → a < v0 + 5 → W a) (wG : ∀ a, pg ≤ a → a < pg + 249 → W a) (b0 : 0 ≤ v1) (b1 : v1 ≤ 41) (JB : ∀ i : Int32, 0 ≤ i → i < v1 → vI h (pg + (9 + 6 * i.toNatClampNeg)) 3 = 98 ∨ vI h (pg + (9 + 6 * i.toNatClampNeg)) 3 = 116 → 0 ≤ vI h (pg + (9 + 6 * i.toNatClampNeg)) 7) (hN : 100000 ≤ N) : qk (f_Pa_joinLabels_2 N  N v0 v1 h) (fun r => q_U L W h0 π r.2 ∧ (r.1 = 0 ∨ r.1 = 1) ∧ (r.1 = 1 → ∀ i : Int32, 0 ≤ i → i < vI h pg 3 → vI h (pg + (9 + 6 * i.toNatClampNeg)) 3 = 98 ∨ vI h (pg + (9 + 6 * i.toNatClampNeg)) 3 = 116 → 0 ≤ vI r.2 (pg + (9 + 6 * i.toNatClampNeg)) 7) ∧ (∀ a k, ¬ (a = v0 + 1 ∧ (k = 1 ∨ k = 2)) → ¬ (pg + 9 ≤ a ∧ a < pg + 249 ∧ k = 7) → vI r.2 a k = vI h a k) ∧ (∀ a j, vA r.2 a j = vA h a j) ∧ (∀ a, pg + 9 ≤ a → a < pg + 249 → ¬ vI h a 3 = 98 → ¬ vI h a 3 = 116 → vI r.2 a 7 = vI h a 7)) := by
  have hq := q_qnN hN
  refine p_Pa_joinLabels_2_n (q_lo (M := 42) (by decide) (by decide)) N v0 v1 h T kv0 kpg ppg wP wG b0 b1 JB ?_ 
  show 42 - q_n N ≤ _
  rw [hq]
  lia

set_option maxHeartbeats 4000000 in
theorem p_Pa_joinLabels {L : q_L} {W : Nat → Prop} {h0 : z_H} {π : Nat → Nat → Option Nat} {N : Nat} {pg : Nat} {h : z_H} {v0 : Nat} (T : q_U L W h0 π h) (kv0 : qκ L v0 = 7) (kpg : qκ L pg = 10) (ppg : π v0 5 = some pg) (wP : ∀ a, v0 ≤ a → a < v0 + 5 → W a) (wG : ∀ a, pg ≤ a → a < pg + 249 → W a) (hN : 100000 ≤ N) : qk (f_Pa_joinLabels N v0 h) (fun r => q_U L W h0 π r.2 ∧ (r.1 = 0 ∨ r.1 = 1) ∧ (r.1 = 1 → ∀ i : Int32, 0 ≤ i → i < vI h pg 3 → vI h (pg + (9 + 6 * i.toNatClampNeg)) 3 = 98 ∨ vI h (pg + (9 + 6 * i.toNatClampNeg)) 3 = 116 → 0 ≤ vI r.2 (pg + (9 + 6 * i.toNatClampNeg)) 7) ∧ (∀ a k, ¬ (a = v0 + 1 ∧ (k = 1 ∨ k = 2)) → ¬ (pg + 9 ≤ a ∧ a < pg + 249 ∧ k = 7) → vI r.2 a k = vI h a k) ∧ (∀ a j, vA r.2 a j = vA h a j) ∧ (∀ a, pg + 9 ≤ a → a < pg + 249 → ¬ vI h a 3 = 98 → ¬ vI h a 3 = 116 → vI r.2 a 7 = vI h a 7)) := by
  unfold f_Pa_joinLabels
  refine qk_mono (p_Pa_joinLabels_2 (v0 := v0) (v1 := 0) (pg := pg) T kv0 kpg ppg (by first | with_reducible assumption | grind | grind (ematch := 40) (gen := 40) (splits := 40) | lia) (by first | with_reducible assumption | grind | grind (ematch := 40) (gen := 40) (splits := 40) | lia) (by first | with_reducible assumption | grind | grind (ematch := 40) (gen := 40) (splits := 40) | lia) (by first | with_reducible assumption | grind | grind (ematch := 40) (gen := 40) (splits := 40) | lia) (by intro i i0 i1; exact absurd i1 (by lia)) (by first | with_reducible assumption | grind | grind (ematch := 40) (gen := 40) (splits := 40) | lia)) ?_
  rintro ⟨y, hz⟩ ⟨Tz, g0, g1, g2, g3, g4⟩
  try dsimp only at *
  exact ⟨Tz, (by first | with_reducible assumption | grind | grind (ematch := 40) (gen := 40) (splits := 40) | lia), (by first | with_reducible assumption | grind | grind (ematch := 40) (gen := 40) (splits := 40) | lia), (by first | with_reducible assumption | grind | grind (ematch := 40) (gen := 40) (splits := 40) | lia), (by first | with_reducible assumption | grind | grind (ematch := 40) (gen := 40) (splits := 40) | lia), (by first | with_reducible assumption | grind | grind (ematch := 40) (gen := 40) (splits := 40) | lia)⟩
theorem c_Pa_joinLabels {L : q_L} {W : Nat → Prop} {h0 : z_H} {π : Nat → Nat → Option Nat} {N : Nat} {pg : Nat} {h : z_H} {v0 : Nat} {β : Type} {f : Int32 × z_H → Option β} {Q : β → Prop} (T : q_U L W h0 π h) (kv0 : qκ L v0 = 7) (kpg : qκ L pg = 10) (ppg : π v0 5 = some pg) (wP : ∀ a, v0 ≤ a → a < v0 + 5 → W a) (wG : ∀ a, pg ≤ a → a < pg + 249 → W a) (hN : 100000 ≤ N) (H : ∀ y h', q_U L W h0 π h' → (y = 0 ∨ y = 1) → (y = 1 → ∀ i : Int32, 0 ≤ i → i < vI h pg 3 → vI h (pg + (9 + 6 * i.toNatClampNeg)) 3 = 98 ∨ vI h (pg + (9 + 6 * i.toNatClampNeg)) 3 = 116 → 0 ≤ vI h' (pg + (9 + 6 * i.toNatClampNeg)) 7) → (∀ a k, ¬ (a = v0 + 1 ∧ (k = 1 ∨ k = 2)) → ¬ (pg + 9 ≤ a ∧ a < pg + 249 ∧ k = 7) → vI h' a k = vI h a k) → (∀ a j, vA h' a j = vA h a j) → (∀ a, pg + 9 ≤ a → a < pg + 249 → ¬ vI h a 3 = 98 → ¬ vI h a 3 = 116 → vI h' a 7 = vI h a 7) → qk (f (y, h')) Q) : qk (z_b (f_Pa_joinLabels N v0 h) f) Q := by
  refine qk_b (p_Pa_joinLabels T kv0 kpg ppg wP wG hN) ?_
  rintro ⟨y, hz⟩ ⟨Tz, g0, g1, g2, g3, g4⟩
  exact H y hz Tz g0 g1 g2 g3 g4
