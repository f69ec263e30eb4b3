set_option maxHeartbeats 4000000 in
theorem p_Pa_beginCommand {L : q_L} {W : Nat → Prop} {h0 : z_H} {π : Nat → Nat → Option Nat} {N : Nat} {pg : Nat} {h : z_H} {v0 : Nat} (T : q_U L W h0 π h) (kv0 : qκ L v0 = 7) (kpg : qκ L pg = 10) (ppg : π v0 5 = some pg) (ptx : π (v0 + 1) 0 = some (pg + 1)) (wP : ∀ a, v0 ≤ a → a < v0 + 5 → W a) (wG : ∀ a, pg ≤ a → a < pg + 249 → W a) : qk (f_Pa_beginCommand N v0 h) (fun r => ∃ π1, q_U L W h0 π1 r.2 ∧ (∀ a k, ¬ (a = v0 ∧ k = 6) → π1 a k = π a k) ∧ (r.1 = 0 ∨ r.1 = 1) ∧ (r.1 = 1 → π1 v0 6 = some (pg + (9 + 6 * Int32.toNatClampNeg (vI h pg 3)))) ∧ (r.1 = 1 → vI h pg 3 < 40 ∧ vI r.2 pg 3 = vI h pg 3 + 1) ∧ (r.1 = 1 → vI r.2 (pg + (9 + 6 * Int32.toNatClampNeg (vI h pg 3))) 5 = 0) ∧ (∀ a k, ¬ (a = (pg + (9 + 6 * Int32.toNatClampNeg (vI h pg 3))) ∨ (a = pg ∧ k = 3) ∨ (a = v0 + 1 ∧ k = 2)) → vI r.2 a k = vI h a k) ∧ (∀ a j, vA r.2 a j = vA h a j) ∧ (r.1 = 0 → ∀ a k, ¬ (a = v0 + 1 ∧ k = 2) → vI r.2 a k = vI h a k)) := by
  obtain ⟨kcu, kpr, cpa1, cpa2, cpa3, cpa4, cpa5⟩ := q_CPa T kv0
  obtain ⟨ktx, ctx, kit, cpg1, cpg2, cpg3⟩ := q_CProg T kpg
  unfold f_Pa_beginCommand
  refine r_Pa_5 T kv0 ppg ?_
  refine r_Prog_3 T kpg ?_
  intro x2 ex2 lx2 ux2
  subst ex2
  refine qk_if (fun cc1 => ?_) (fun cc1 => ?_)
  · skip
    refine r_Pa_0 T kv0 ?_
    intro kx16
    refine r_Cur_o T kx16 ?_
    refine c_Cur_refuse (v0 := (v0 + 1)) (v1 := 0) T kx16 (by first | with_reducible assumption | grind | grind (ematch := 40) (gen := 40) (splits := 40) | lia) ?_
    intro yr18 hr18 Tr18 gr18_0 gr18_1 gr18_2
    dsimp only
    refine qk_zB (by first | with_reducible assumption | grind | grind (ematch := 40) (gen := 40) (splits := 40) | lia) ?_
    refine qk_some ?_
    exact ⟨_, Tr18, (by first | with_reducible assumption | grind | grind (ematch := 40) (gen := 40) (splits := 40) | lia), (by first | with_reducible assumption | grind | grind (ematch := 40) (gen := 40) (splits := 40) | lia), (by first | with_reducible assumption | grind | grind (ematch := 40) (gen := 40) (splits := 40) | lia), (by first | with_reducible assumption | grind | grind (ematch := 40) (gen := 40) (splits := 40) | lia), (by first | with_reducible assumption | grind | grind (ematch := 40) (gen := 40) (splits := 40) | lia), (by first | with_reducible assumption | grind | grind (ematch := 40) (gen := 40) (splits := 40) | lia), (by first | with_reducible assumption | grind | grind (ematch := 40) (gen := 40) (splits := 40) | lia), (by first | with_reducible assumption | grind | grind (ematch := 40) (gen := 40) (splits := 40) | lia)⟩
  · skip
    refine r_Pa_5 T kv0 ppg ?_
    refine r_Prog_2 T kpg ?_
    refine r_Pa_5 T kv0 ppg ?_
    refine r_Prog_3 T kpg ?_
    intro x7 ex7 lx7 ux7
    subst ex7
    refine r_Prog_e8 T kpg (by first | with_reducible assumption | grind | grind (ematch := 40) (gen := 40) (splits := 40) | lia) (by first | with_reducible assumption | grind | grind (ematch := 40) (gen := 40) (splits := 40) | lia) ?_
    intro kx8 bx8
    refine w_Pa_6 (q := (pg + (9 + 6 * Int32.toNatClampNeg (vI h pg 3)))) T kv0 (by first | with_reducible assumption | grind | grind (ematch := 40) (gen := 40) (splits := 40) | lia) ?_
    intro πh9 h9 Th9 ph9 ih9 ah9
    have ppg_h9 : πh9 v0 5 = some pg := by rw [ph9, if_neg (by grind)]; exact ppg
    have ptx_h9 : πh9 (v0 + 1) 0 = some (pg + 1) := by rw [ph9, if_neg (by grind)]; exact ptx
    have q2_h9 : πh9 v0 6 = some (pg + (9 + 6 * Int32.toNatClampNeg (vI h pg 3))) := by rw [ph9, if_pos ⟨rfl, rfl⟩]
    refine r_Pa_6 Th9 kv0 q2_h9 ?_
    refine r_Cmd_o Th9 kx8 ?_
    refine c_Cmd_reset (v0 := (pg + (9 + 6 * Int32.toNatClampNeg (vI h pg 3)))) Th9 kx8 (by first | with_reducible assumption | grind | grind (ematch := 40) (gen := 40) (splits := 40) | lia) ?_
    intro r12 Tr12 gr12_0 gr12_1 gr12_2
    refine r_Pa_5 Tr12 kv0 ppg_h9 ?_
    refine r_Prog_3 Tr12 kpg ?_
    intro x14 ex14 lx14 ux14
    subst ex14
    refine w_Prog_3 Tr12 kpg (by first | with_reducible assumption | grind | grind (ematch := 40) (gen := 40) (splits := 40) | lia) (by first | with_reducible assumption | grind | grind (ematch := 40) (gen := 40) (splits := 40) | lia) (by first | with_reducible assumption | grind | grind (ematch := 40) (gen := 40) (splits := 40) | lia) ?_
    intro h15 Th15 ih15 ah15
    refine qk_some ?_
    exact ⟨_, Th15, (by first | with_reducible assumption | grind | grind (ematch := 40) (gen := 40) (splits := 40) | lia), (by first | with_reducible assumption | grind | grind (ematch := 40) (gen := 40) (splits := 40) | lia), (by first | with_reducible assumption | grind | grind (ematch := 40) (gen := 40) (splits := 40) | lia), (by first | with_reducible assumption | grind | grind (ematch := 40) (gen := 40) (splits := 40) | lia), (by first | with_reducible assumption | grind | grind (ematch := 40) (gen := 40) (splits := 40) | lia), (by first | with_reducible assumption | grind | grind (ematch := 40) (gen := 40) (splits := 40) | lia), (by first | with_reducible assumption | grind | grind (ematch := 40) (gen := 40) (splits := 40) | lia), (by first | with_reducible assumption | grind | grind (ematch := 40) (gen := 40) (splits := 40) | lia)⟩
theorem c_Pa_beginCommand {L : q_L} {W : Nat → Prop} {h0 : z_H} {π : Nat → Nat → Option Nat} {N : Nat} {pg : Nat} {h : z_H} {v0 : Nat} {β : Type} {f : Int32 × z_H → Option β} {Q : β → Prop} (T : q_U L W h0 π h) (kv0 : qκ L v0 = 7) (kpg : qκ L pg = 10) (ppg : π v0 5 = some pg) (ptx : π (v0 + 1) 0 = some (pg + 1)) (wP : ∀ a, v0 ≤ a → a < v0 + 5 → W a) (wG : ∀ a, pg ≤ a → a < pg + 249 → W a) (H : ∀ y π1 h', q_U L W h0 π1 h' → (∀ a k, ¬ (a = v0 ∧ k = 6) → π1 a k = π a k) → (y = 0 ∨ y = 1) → (y = 1 → π1 v0 6 = some (pg + (9 + 6 * Int32.toNatClampNeg (vI h pg 3)))) → (y = 1 → vI h pg 3 < 40 ∧ vI h' pg 3 = vI h pg 3 + 1) → (y = 1 → vI h' (pg + (9 + 6 * Int32.toNatClampNeg (vI h pg 3))) 5 = 0) → (∀ a k, ¬ (a = (pg + (9 + 6 * Int32.toNatClampNeg (vI h pg 3))) ∨ (a = pg ∧ k = 3) ∨ (a = v0 + 1 ∧ k = 2)) → vI h' a k = vI h a k) → (∀ a j, vA h' a j = vA h a j) → (y = 0 → ∀ a k, ¬ (a = v0 + 1 ∧ k = 2) → vI h' a k = vI h a k) → qk (f (y, h')) Q) : qk (z_b (f_Pa_beginCommand N v0 h) f) Q := by
  refine qk_b (p_Pa_beginCommand T kv0 kpg ppg ptx wP wG) ?_
  rintro ⟨y, hz⟩ ⟨π1, Tz, z0, g0, g1, g2, g3, g4, g5, g6⟩
  exact H y π1 hz Tz z0 g0 g1 g2 g3 g4 g5 g6
