set_option maxHeartbeats 16000000 in
theorem p_Pa_readAction {L : q_L} {W : Nat → Prop} {h0 : z_H} {π : Nat → Nat → Option Nat} {N : Nat} {pg : Nat} {cm : Nat} {h : z_H} {v0 : Nat} (T : q_U L W h0 π h) (kv0 : qκ L v0 = 7) (kpg : qκ L pg = 10) (ppg : π v0 5 = some pg) (kcm : qκ L cm = 2) (pcm : π v0 6 = some cm) (ptx : π (v0 + 1) 0 = some (pg + 1)) (ppc : π (v0 + 2) 0 = some (v0 + 1)) (wP : ∀ a, v0 ≤ a → a < v0 + 5 → W a) (wG : ∀ a, pg ≤ a → a < pg + 249 → W a) (hc1 : pg + 9 ≤ cm) (hc2 : cm + 6 ≤ pg + 249) (z : vI h (pg + 3) 4 ≤ vI h (v0 + 1) 1) (V2 : (1 ≤ vI h cm 5 → vI h (cm + 1) 1 = 2 → q_PW h (pg + 3) (cm + 2)) ∧ (2 ≤ vI h cm 5 → vI h (cm + 3) 1 = 2 → q_PW h (pg + 3) (cm + 4))) (s1 : 1 ≤ vI h pg 3) (hN : 100000 ≤ N) : qk (f_Pa_readAction N v0 h) (fun r => ∃ π1, q_U L W h0 π1 r.2 ∧ (∀ a k, ¬ (a = (v0 + 2) ∧ k = 1) → ¬ (a = (v0 + 2) ∧ k = 2) → π1 a k = π a k) ∧ (r.1 = 0 ∨ r.1 = 1) ∧ (r.1 = 1 → q_CV r.2 cm (pg + 3)) ∧ (r.1 = 1 → vI r.2 (pg + 3) 4 ≤ vI r.2 (v0 + 1) 1) ∧ (∀ a k, ¬ ((a = cm ∧ k ≠ 5 ∧ k ≠ 7) ∨ a = cm + 5 ∨ a = v0 + 1 ∨ a = v0 + 2 ∨ a = pg + 3 ∨ (a = v0 ∧ k = 4)) → vI r.2 a k = vI h a k) ∧ (r.1 = 1 → (vI r.2 cm 3 = 123 → vI r.2 v0 4 = vI h v0 4 + 1 ∧ vI h v0 4 < 4 ∧ vA r.2 (v0 + 3) (vI h v0 4) = vI h pg 3 - 1) ∧ vI h v0 4 ≤ vI r.2 v0 4) ∧ (∀ a j, 0 ≤ j → ¬ (a = pg + 3 + 1 ∨ a = pg + 3 + 2 ∨ a = v0 + 4 ∨ (a = v0 + 3 ∧ vI h v0 4 ≤ j)) → vA r.2 a j = vA h a j) ∧ (∀ j, 0 ≤ j → j < vI h (pg + 3) 4 → vA r.2 (pg + 3 + 1) j = vA h (pg + 3 + 1) j ∧ vA r.2 (pg + 3 + 2) j = vA h (pg + 3 + 2) j) ∧ (vI h (pg + 3) 4 ≤ vI r.2 (pg + 3) 4)) := by
  obtain ⟨kcu, kpr, cpa1, cpa2, cpa3, cpa4, cpa5⟩ := q_CPa T kv0
  obtain ⟨ktx, ctx, kit, cpg1, cpg2, cpg3⟩ := q_CProg T kpg
  obtain ⟨kc1, kc3, kc5, cc9⟩ := q_CCmd T kcm
  have cit := q_CIt T kit
  unfold q_C_It at cit
  have tit := T.2.2.2.1 (pg + 3) 4
  rw [cit.1.1, cit.1.2] at tit
  unfold f_Pa_readAction
  refine r_Pa_0 T kv0 ?_
  intro kx1
  refine r_Cur_o T kx1 ?_
  refine c_Cur_look (v0 := (v0 + 1)) (v1 := 0) (tx := (pg + 1)) T kx1 ktx ptx (by first | with_reducible assumption | grind | grind (ematch := 40) (gen := 40) (splits := 40) | lia) (by first | with_reducible assumption | grind | grind (ematch := 40) (gen := 40) (splits := 40) | lia) (by first | with_reducible assumption | grind | grind (ematch := 40) (gen := 40) (splits := 40) | lia) ?_
  intro yr3 gr3_0 gr3_1 gr3_2 gr3_3 gr3_4
  simp only [Int32.add_zero] at gr3_2 gr3_3 gr3_4
  dsimp only
  refine qk_bs ?_
  refine r_Pa_6 T kv0 pcm ?_
  refine w_Cmd_3 T kcm (by first | with_reducible assumption | grind | grind (ematch := 40) (gen := 40) (splits := 40) | lia) ?_
  intro h6 Th6 ih6 ah6
  refine r_Pa_6 Th6 kv0 pcm ?_
  refine r_Pa_0 Th6 kv0 ?_
  intro kx8
  refine r_Cur_1 Th6 kx8 ?_
  intro x9 ex9 lx9 ux9
  subst ex9
  refine w_Cmd_4 Th6 kcm (by first | with_reducible assumption | grind | grind (ematch := 40) (gen := 40) (splits := 40) | lia) (by first | with_reducible assumption | grind | grind (ematch := 40) (gen := 40) (splits := 40) | lia) (by first | with_reducible assumption | grind | grind (ematch := 40) (gen := 40) (splits := 40) | lia) ?_
  intro h10 Th10 ih10 ah10
  refine qk_if (fun cc1 => ?_) (fun cc1 => ?_)
  · skip
    refine r_Pa_o Th10 kv0 ?_
    refine c_Pa_placeLabel (v0 := v0) (pg := pg) (cm := cm) Th10 kv0 kpg ppg kcm pcm ptx (by first | with_reducible assumption | grind | grind (ematch := 40) (gen := 40) (splits := 40) | lia) (by first | with_reducible assumption | grind | grind (ematch := 40) (gen := 40) (splits := 40) | lia) (by first | with_reducible assumption | grind | grind (ematch := 40) (gen := 40) (splits := 40) | lia) (by first | with_reducible assumption | grind | grind (ematch := 40) (gen := 40) (splits := 40) | lia) (by first | with_reducible assumption | grind | grind (ematch := 40) (gen := 40) (splits := 40) | lia) ?_
    intro yr13 hr13 Tr13 gr13_0 gr13_1 gr13_2 gr13_3
    dsimp only
    refine qk_if (fun cc2 => ?_) (fun cc2 => ?_)
    · skip
      refine qk_some ?_
      exact ⟨_, Tr13, (by first | with_reducible assumption | grind | grind (ematch := 40) (gen := 40) (splits := 40) | lia), (by first | with_reducible assumption | grind | grind (ematch := 40) (gen := 40) (splits := 40) | lia), (by intro yy; exact absurd (show (0 : Int32) = 1 from yy) (by decide)), (by first | with_reducible assumption | grind | grind (ematch := 40) (gen := 40) (splits := 40) | lia), (by first | with_reducible assumption | grind | grind (ematch := 40) (gen := 40) (splits := 40) | lia), (by first | with_reducible assumption | grind | grind (ematch := 40) (gen := 40) (splits := 40) | lia), (by first | with_reducible assumption | grind | grind (ematch := 40) (gen := 40) (splits := 40) | lia), (by first | with_reducible assumption | grind | grind (ematch := 40) (gen := 40) (splits := 40) | lia), (by first | with_reducible assumption | grind | grind (ematch := 40) (gen := 40) (splits := 40) | lia)⟩
    · skip
      refine r_Pa_o Tr13 kv0 ?_
      refine c_Pa_endCommand (v0 := v0) (pg := pg) Tr13 kv0 kpg ppg ptx (by first | with_reducible assumption | grind | grind (ematch := 40) (gen := 40) (splits := 40) | lia) (by first | with_reducible assumption | grind | grind (ematch := 40) (gen := 40) (splits := 40) | lia) ?_
      intro yr16 hr16 Tr16 gr16_0 gr16_1 gr16_2
      dsimp only
      refine qk_if (fun cc3 => ?_) (fun cc3 => ?_)
      · skip
        refine qk_some ?_
        exact ⟨_, Tr16, (by first | with_reducible assumption | grind | grind (ematch := 40) (gen := 40) (splits := 40) | lia), (by first | with_reducible assumption | grind | grind (ematch := 40) (gen := 40) (splits := 40) | lia), (by intro yy; exact absurd (show (0 : Int32) = 1 from yy) (by decide)), (by first | with_reducible assumption | grind | grind (ematch := 40) (gen := 40) (splits := 40) | lia), (by first | with_reducible assumption | grind | grind (ematch := 40) (gen := 40) (splits := 40) | lia), (by first | with_reducible assumption | grind | grind (ematch := 40) (gen := 40) (splits := 40) | lia), (by first | with_reducible assumption | grind | grind (ematch := 40) (gen := 40) (splits := 40) | lia), (by first | with_reducible assumption | grind | grind (ematch := 40) (gen := 40) (splits := 40) | lia), (by first | with_reducible assumption | grind | grind (ematch := 40) (gen := 40) (splits := 40) | lia)⟩
      · skip
        refine qk_some ?_
        exact ⟨_, Tr16, (by first | with_reducible assumption | grind | grind (ematch := 40) (gen := 40) (splits := 40) | lia), (by first | with_reducible assumption | grind | grind (ematch := 40) (gen := 40) (splits := 40) | lia), (by intro yy; refine ⟨fun b1 b2 => q_PW_eq (V2.1 (by grind) (by grind)) (by grind) (by grind) (by grind), fun b1 b2 => q_PW_eq (V2.2 (by grind) (by grind)) (by grind) (by grind) (by grind), fun b1 => ?_⟩; exact absurd b1 (by grind)), (by first | with_reducible assumption | grind | grind (ematch := 40) (gen := 40) (splits := 40) | lia), (by first | with_reducible assumption | grind | grind (ematch := 40) (gen := 40) (splits := 40) | lia), (by first | with_reducible assumption | grind | grind (ematch := 40) (gen := 40) (splits := 40) | lia), (by first | with_reducible assumption | grind | grind (ematch := 40) (gen := 40) (splits := 40) | lia), (by first | with_reducible assumption | grind | grind (ematch := 40) (gen := 40) (splits := 40) | lia), (by first | with_reducible assumption | grind | grind (ematch := 40) (gen := 40) (splits := 40) | lia)⟩
  · skip
    refine qk_if (fun cc4 => ?_) (fun cc4 => ?_)
    · skip
      refine r_Pa_0 Th10 kv0 ?_
      intro kx19
      refine r_Cur_1 Th10 kx19 ?_
      intro x20 ex20 lx20 ux20
      subst ex20
      refine w_Cur_1 Th10 kx19 (by first | with_reducible assumption | grind | grind (ematch := 40) (gen := 40) (splits := 40) | lia) (q_inc01 (Th10.2.2.2.1 _ 1) (q_CCur Th10 kx19)) (by first | exact q_inc1 (by first | with_reducible assumption | grind -lia | grind) (q_inc00 (Th10.2.2.2.1 _ 1) (q_CCur Th10 kx19)) | exact q_inc1b (by first | with_reducible assumption | grind -lia | grind) (q_inc00 (Th10.2.2.2.1 _ 1) (q_CCur Th10 kx19))) ?_
      intro h21 Th21 ih21 ah21
      refine r_Pa_o Th21 kv0 ?_
      refine c_Pa_endCommand (v0 := v0) (pg := pg) Th21 kv0 kpg ppg ptx (by first | with_reducible assumption | grind | grind (ematch := 40) (gen := 40) (splits := 40) | lia) (by first | with_reducible assumption | grind | grind (ematch := 40) (gen := 40) (splits := 40) | lia) ?_
      intro yr23 hr23 Tr23 gr23_0 gr23_1 gr23_2
      dsimp only
      refine qk_zB (by first | with_reducible assumption | grind | grind (ematch := 40) (gen := 40) (splits := 40) | lia) ?_
      refine qk_some ?_
      exact ⟨_, Tr23, (by first | with_reducible assumption | grind | grind (ematch := 40) (gen := 40) (splits := 40) | lia), (by first | with_reducible assumption | grind | grind (ematch := 40) (gen := 40) (splits := 40) | lia), (by intro yy; refine ⟨fun b1 b2 => q_PW_eq (V2.1 (by grind) (by grind)) (by grind) (by grind) (by grind), fun b1 b2 => q_PW_eq (V2.2 (by grind) (by grind)) (by grind) (by grind) (by grind), fun b1 => ?_⟩; exact absurd b1 (by grind)), (by first | with_reducible assumption | grind | grind (ematch := 40) (gen := 40) (splits := 40) | lia), (by first | with_reducible assumption | grind | grind (ematch := 40) (gen := 40) (splits := 40) | lia), (by first | with_reducible assumption | grind | grind (ematch := 40) (gen := 40) (splits := 40) | lia), (by first | with_reducible assumption | grind | grind (ematch := 40) (gen := 40) (splits := 40) | lia), (by first | with_reducible assumption | grind | grind (ematch := 40) (gen := 40) (splits := 40) | lia), (by first | with_reducible assumption | grind | grind (ematch := 40) (gen := 40) (splits := 40) | lia)⟩
    · skip
      refine qk_if (fun cc5 => ?_) (fun cc5 => ?_)
      · skip
        refine r_Pa_0 Th10 kv0 ?_
        intro kx26
        refine r_Cur_1 Th10 kx26 ?_
        intro x27 ex27 lx27 ux27
        subst ex27
        refine w_Cur_1 Th10 kx26 (by first | with_reducible assumption | grind | grind (ematch := 40) (gen := 40) (splits := 40) | lia) (q_inc01 (Th10.2.2.2.1 _ 1) (q_CCur Th10 kx26)) (by first | exact q_inc1 (by first | with_reducible assumption | grind -lia | grind) (q_inc00 (Th10.2.2.2.1 _ 1) (q_CCur Th10 kx26)) | exact q_inc1b (by first | with_reducible assumption | grind -lia | grind) (q_inc00 (Th10.2.2.2.1 _ 1) (q_CCur Th10 kx26))) ?_
        intro h28 Th28 ih28 ah28
        refine r_Pa_o Th28 kv0 ?_
        refine c_Pa_endCommand (v0 := v0) (pg := pg) Th28 kv0 kpg ppg ptx (by first | with_reducible assumption | grind | grind (ematch := 40) (gen := 40) (splits := 40) | lia) (by first | with_reducible assumption | grind | grind (ematch := 40) (gen := 40) (splits := 40) | lia) ?_
        intro yr30 hr30 Tr30 gr30_0 gr30_1 gr30_2
        dsimp only
        refine qk_zB (by first | with_reducible assumption | grind | grind (ematch := 40) (gen := 40) (splits := 40) | lia) ?_
        refine qk_some ?_
        exact ⟨_, Tr30, (by first | with_reducible assumption | grind | grind (ematch := 40) (gen := 40) (splits := 40) | lia), (by first | with_reducible assumption | grind | grind (ematch := 40) (gen := 40) (splits := 40) | lia), (by intro yy; refine ⟨fun b1 b2 => q_PW_eq (V2.1 (by grind) (by grind)) (by grind) (by grind) (by grind), fun b1 b2 => q_PW_eq (V2.2 (by grind) (by grind)) (by grind) (by grind) (by grind), fun b1 => ?_⟩; exact absurd b1 (by grind)), (by first | with_reducible assumption | grind | grind (ematch := 40) (gen := 40) (splits := 40) | lia), (by first | with_reducible assumption | grind | grind (ematch := 40) (gen := 40) (splits := 40) | lia), (by first | with_reducible assumption | grind | grind (ematch := 40) (gen := 40) (splits := 40) | lia), (by first | with_reducible assumption | grind | grind (ematch := 40) (gen := 40) (splits := 40) | lia), (by first | with_reducible assumption | grind | grind (ematch := 40) (gen := 40) (splits := 40) | lia), (by first | with_reducible assumption | grind | grind (ematch := 40) (gen := 40) (splits := 40) | lia)⟩
      · skip
        refine qk_if (fun cc6 => ?_) (fun cc6 => ?_)
        · skip
          refine r_Pa_0 Th10 kv0 ?_
          intro kx33
          refine r_Cur_1 Th10 kx33 ?_
          intro x34 ex34 lx34 ux34
          subst ex34
          refine w_Cur_1 Th10 kx33 (by first | with_reducible assumption | grind | grind (ematch := 40) (gen := 40) (splits := 40) | lia) (q_inc01 (Th10.2.2.2.1 _ 1) (q_CCur Th10 kx33)) (by first | exact q_inc1 (by first | with_reducible assumption | grind -lia | grind) (q_inc00 (Th10.2.2.2.1 _ 1) (q_CCur Th10 kx33)) | exact q_inc1b (by first | with_reducible assumption | grind -lia | grind) (q_inc00 (Th10.2.2.2.1 _ 1) (q_CCur Th10 kx33))) ?_
          intro h35 Th35 ih35 ah35
          refine r_Pa_o Th35 kv0 ?_
          refine c_Pa_endCommand (v0 := v0) (pg := pg) Th35 kv0 kpg ppg ptx (by first | with_reducible assumption | grind | grind (ematch := 40) (gen := 40) (splits := 40) | lia) (by first | with_reducible assumption | grind | grind (ematch := 40) (gen := 40) (splits := 40) | lia) ?_
          intro yr37 hr37 Tr37 gr37_0 gr37_1 gr37_2
          dsimp only
          refine qk_zB (by first | with_reducible assumption | grind | grind (ematch := 40) (gen := 40) (splits := 40) | lia) ?_
          refine qk_some ?_
          exact ⟨_, Tr37, (by first | with_reducible assumption | grind | grind (ematch := 40) (gen := 40) (splits := 40) | lia), (by first | with_reducible assumption | grind | grind (ematch := 40) (gen := 40) (splits := 40) | lia), (by intro yy; refine ⟨fun b1 b2 => q_PW_eq (V2.1 (by grind) (by grind)) (by grind) (by grind) (by grind), fun b1 b2 => q_PW_eq (V2.2 (by grind) (by grind)) (by grind) (by grind) (by grind), fun b1 => ?_⟩; exact absurd b1 (by grind)), (by first | with_reducible assumption | grind | grind (ematch := 40) (gen := 40) (splits := 40) | lia), (by first | with_reducible assumption | grind | grind (ematch := 40) (gen := 40) (splits := 40) | lia), (by first | with_reducible assumption | grind | grind (ematch := 40) (gen := 40) (splits := 40) | lia), (by first | with_reducible assumption | grind | grind (ematch := 40) (gen := 40) (splits := 40) | lia), (by first | with_reducible assumption | grind | grind (ematch := 40) (gen := 40) (splits := 40) | lia), (by first | with_reducible assumption | grind | grind (ematch := 40) (gen := 40) (splits := 40) | lia)⟩
        · skip
          refine qk_if (fun cc7 => ?_) (fun cc7 => ?_)
          · skip
            refine r_Pa_0 Th10 kv0 ?_
            intro kx40
            refine r_Cur_1 Th10 kx40 ?_
            intro x41 ex41 lx41 ux41
            subst ex41
            refine w_Cur_1 Th10 kx40 (by first | with_reducible assumption | grind | grind (ematch := 40) (gen := 40) (splits := 40) | lia) (q_inc01 (Th10.2.2.2.1 _ 1) (q_CCur Th10 kx40)) (by first | exact q_inc1 (by first | with_reducible assumption | grind -lia | grind) (q_inc00 (Th10.2.2.2.1 _ 1) (q_CCur Th10 kx40)) | exact q_inc1b (by first | with_reducible assumption | grind -lia | grind) (q_inc00 (Th10.2.2.2.1 _ 1) (q_CCur Th10 kx40))) ?_
            intro h42 Th42 ih42 ah42
            refine r_Pa_o Th42 kv0 ?_
            refine c_Pa_endCommand (v0 := v0) (pg := pg) Th42 kv0 kpg ppg ptx (by first | with_reducible assumption | grind | grind (ematch := 40) (gen := 40) (splits := 40) | lia) (by first | with_reducible assumption | grind | grind (ematch := 40) (gen := 40) (splits := 40) | lia) ?_
            intro yr44 hr44 Tr44 gr44_0 gr44_1 gr44_2
            dsimp only
            refine qk_zB (by first | with_reducible assumption | grind | grind (ematch := 40) (gen := 40) (splits := 40) | lia) ?_
            refine qk_some ?_
            exact ⟨_, Tr44, (by first | with_reducible assumption | grind | grind (ematch := 40) (gen := 40) (splits := 40) | lia), (by first | with_reducible assumption | grind | grind (ematch := 40) (gen := 40) (splits := 40) | lia), (by intro yy; refine ⟨fun b1 b2 => q_PW_eq (V2.1 (by grind) (by grind)) (by grind) (by grind) (by grind), fun b1 b2 => q_PW_eq (V2.2 (by grind) (by grind)) (by grind) (by grind) (by grind), fun b1 => ?_⟩; exact absurd b1 (by grind)), (by first | with_reducible assumption | grind | grind (ematch := 40) (gen := 40) (splits := 40) | lia), (by first | with_reducible assumption | grind | grind (ematch := 40) (gen := 40) (splits := 40) | lia), (by first | with_reducible assumption | grind | grind (ematch := 40) (gen := 40) (splits := 40) | lia), (by first | with_reducible assumption | grind | grind (ematch := 40) (gen := 40) (splits := 40) | lia), (by first | with_reducible assumption | grind | grind (ematch := 40) (gen := 40) (splits := 40) | lia), (by first | with_reducible assumption | grind | grind (ematch := 40) (gen := 40) (splits := 40) | lia)⟩
          · skip
            refine qk_if (fun cc8 => ?_) (fun cc8 => ?_)
            · skip
              refine r_Pa_0 Th10 kv0 ?_
              intro kx47
              refine r_Cur_1 Th10 kx47 ?_
              intro x48 ex48 lx48 ux48
              subst ex48
              refine w_Cur_1 Th10 kx47 (by first | with_reducible assumption | grind | grind (ematch := 40) (gen := 40) (splits := 40) | lia) (q_inc01 (Th10.2.2.2.1 _ 1) (q_CCur Th10 kx47)) (by first | exact q_inc1 (by first | with_reducible assumption | grind -lia | grind) (q_inc00 (Th10.2.2.2.1 _ 1) (q_CCur Th10 kx47)) | exact q_inc1b (by first | with_reducible assumption | grind -lia | grind) (q_inc00 (Th10.2.2.2.1 _ 1) (q_CCur Th10 kx47))) ?_
              intro h49 Th49 ih49 ah49
              refine r_Pa_o Th49 kv0 ?_
              refine c_Pa_endCommand (v0 := v0) (pg := pg) Th49 kv0 kpg ppg ptx (by first | with_reducible assumption | grind | grind (ematch := 40) (gen := 40) (splits := 40) | lia) (by first | with_reducible assumption | grind | grind (ematch := 40) (gen := 40) (splits := 40) | lia) ?_
              intro yr51 hr51 Tr51 gr51_0 gr51_1 gr51_2
              dsimp only
              refine qk_zB (by first | with_reducible assumption | grind | grind (ematch := 40) (gen := 40) (splits := 40) | lia) ?_
              refine qk_some ?_
              exact ⟨_, Tr51, (by first | with_reducible assumption | grind | grind (ematch := 40) (gen := 40) (splits := 40) | lia), (by first | with_reducible assumption | grind | grind (ematch := 40) (gen := 40) (splits := 40) | lia), (by intro yy; refine ⟨fun b1 b2 => q_PW_eq (V2.1 (by grind) (by grind)) (by grind) (by grind) (by grind), fun b1 b2 => q_PW_eq (V2.2 (by grind) (by grind)) (by grind) (by grind) (by grind), fun b1 => ?_⟩; exact absurd b1 (by grind)), (by first | with_reducible assumption | grind | grind (ematch := 40) (gen := 40) (splits := 40) | lia), (by first | with_reducible assumption | grind | grind (ematch := 40) (gen := 40) (splits := 40) | lia), (by first | with_reducible assumption | grind | grind (ematch := 40) (gen := 40) (splits := 40) | lia), (by first | with_reducible assumption | grind | grind (ematch := 40) (gen := 40) (splits := 40) | lia), (by first | with_reducible assumption | grind | grind (ematch := 40) (gen := 40) (splits := 40) | lia), (by first | with_reducible assumption | grind | grind (ematch := 40) (gen := 40) (splits := 40) | lia)⟩
            · skip
              refine qk_if (fun cc9 => ?_) (fun cc9 => ?_)
              · skip
                refine r_Pa_0 Th10 kv0 ?_
                intro kx54
                refine r_Cur_1 Th10 kx54 ?_
                intro x55 ex55 lx55 ux55
                subst ex55
                refine w_Cur_1 Th10 kx54 (by first | with_reducible assumption | grind | grind (ematch := 40) (gen := 40) (splits := 40) | lia) (q_inc01 (Th10.2.2.2.1 _ 1) (q_CCur Th10 kx54)) (by first | exact q_inc1 (by first | with_reducible assumption | grind -lia | grind) (q_inc00 (Th10.2.2.2.1 _ 1) (q_CCur Th10 kx54)) | exact q_inc1b (by first | with_reducible assumption | grind -lia | grind) (q_inc00 (Th10.2.2.2.1 _ 1) (q_CCur Th10 kx54))) ?_
                intro h56 Th56 ih56 ah56
                refine r_Pa_o Th56 kv0 ?_
                refine c_Pa_endCommand (v0 := v0) (pg := pg) Th56 kv0 kpg ppg ptx (by first | with_reducible assumption | grind | grind (ematch := 40) (gen := 40) (splits := 40) | lia) (by first | with_reducible assumption | grind | grind (ematch := 40) (gen := 40) (splits := 40) | lia) ?_
                intro yr58 hr58 Tr58 gr58_0 gr58_1 gr58_2
                dsimp only
                refine qk_zB (by first | with_reducible assumption | grind | grind (ematch := 40) (gen := 40) (splits := 40) | lia) ?_
                refine qk_some ?_
                exact ⟨_, Tr58, (by first | with_reducible assumption | grind | grind (ematch := 40) (gen := 40) (splits := 40) | lia), (by first | with_reducible assumption | grind | grind (ematch := 40) (gen := 40) (splits := 40) | lia), (by intro yy; refine ⟨fun b1 b2 => q_PW_eq (V2.1 (by grind) (by grind)) (by grind) (by grind) (by grind), fun b1 b2 => q_PW_eq (V2.2 (by grind) (by grind)) (by grind) (by grind) (by grind), fun b1 => ?_⟩; exact absurd b1 (by grind)), (by first | with_reducible assumption | grind | grind (ematch := 40) (gen := 40) (splits := 40) | lia), (by first | with_reducible assumption | grind | grind (ematch := 40) (gen := 40) (splits := 40) | lia), (by first | with_reducible assumption | grind | grind (ematch := 40) (gen := 40) (splits := 40) | lia), (by first | with_reducible assumption | grind | grind (ematch := 40) (gen := 40) (splits := 40) | lia), (by first | with_reducible assumption | grind | grind (ematch := 40) (gen := 40) (splits := 40) | lia), (by first | with_reducible assumption | grind | grind (ematch := 40) (gen := 40) (splits := 40) | lia)⟩
              · skip
                refine qk_if (fun cc10 => ?_) (fun cc10 => ?_)
                · skip
                  refine r_Pa_o Th10 kv0 ?_
                  refine c_Pa_readText (v0 := v0) (pg := pg) (cm := cm) Th10 kv0 kpg ppg kcm pcm ptx (by first | with_reducible assumption | grind | grind (ematch := 40) (gen := 40) (splits := 40) | lia) (by first | with_reducible assumption | grind | grind (ematch := 40) (gen := 40) (splits := 40) | lia) (by first | with_reducible assumption | grind | grind (ematch := 40) (gen := 40) (splits := 40) | lia) (by first | with_reducible assumption | grind | grind (ematch := 40) (gen := 40) (splits := 40) | lia) (by first | with_reducible assumption | grind | grind (ematch := 40) (gen := 40) (splits := 40) | lia) (by first | with_reducible assumption | grind | grind (ematch := 40) (gen := 40) (splits := 40) | lia) ?_
                  intro yr62 hr62 Tr62 gr62_0 gr62_1 gr62_2 gr62_3
                  dsimp only
                  refine qk_zB (by first | with_reducible assumption | grind | grind (ematch := 40) (gen := 40) (splits := 40) | lia) ?_
                  refine qk_some ?_
                  exact ⟨_, Tr62, (by first | with_reducible assumption | grind | grind (ematch := 40) (gen := 40) (splits := 40) | lia), (by first | with_reducible assumption | grind | grind (ematch := 40) (gen := 40) (splits := 40) | lia), (by intro yy; refine ⟨fun b1 b2 => q_PW_eq (V2.1 (by grind) (by grind)) (by grind) (by grind) (by grind), fun b1 b2 => q_PW_eq (V2.2 (by grind) (by grind)) (by grind) (by grind) (by grind), fun b1 => ?_⟩; exact absurd b1 (by grind)), (by first | with_reducible assumption | grind | grind (ematch := 40) (gen := 40) (splits := 40) | lia), (by first | with_reducible assumption | grind | grind (ematch := 40) (gen := 40) (splits := 40) | lia), (by first | with_reducible assumption | grind | grind (ematch := 40) (gen := 40) (splits := 40) | lia), (by first | with_reducible assumption | grind | grind (ematch := 40) (gen := 40) (splits := 40) | lia), (by first | with_reducible assumption | grind | grind (ematch := 40) (gen := 40) (splits := 40) | lia), (by first | with_reducible assumption | grind | grind (ematch := 40) (gen := 40) (splits := 40) | lia)⟩
                · skip
                  refine qk_if (fun cc11 => ?_) (fun cc11 => ?_)
                  · skip
                    refine r_Pa_o Th10 kv0 ?_
                    refine c_Pa_readBranch (v0 := v0) (pg := pg) (cm := cm) Th10 kv0 kpg ppg kcm pcm ptx (by first | with_reducible assumption | grind | grind (ematch := 40) (gen := 40) (splits := 40) | lia) (by first | with_reducible assumption | grind | grind (ematch := 40) (gen := 40) (splits := 40) | lia) (by first | with_reducible assumption | grind | grind (ematch := 40) (gen := 40) (splits := 40) | lia) (by first | with_reducible assumption | grind | grind (ematch := 40) (gen := 40) (splits := 40) | lia) (by first | with_reducible assumption | grind | grind (ematch := 40) (gen := 40) (splits := 40) | lia) ?_
                    intro yr66 hr66 Tr66 gr66_0 gr66_1 gr66_2 gr66_3
                    dsimp only
                    refine qk_if (fun cc12 => ?_) (fun cc12 => ?_)
                    · skip
                      refine qk_some ?_
                      exact ⟨_, Tr66, (by first | with_reducible assumption | grind | grind (ematch := 40) (gen := 40) (splits := 40) | lia), (by first | with_reducible assumption | grind | grind (ematch := 40) (gen := 40) (splits := 40) | lia), (by intro yy; exact absurd (show (0 : Int32) = 1 from yy) (by decide)), (by first | with_reducible assumption | grind | grind (ematch := 40) (gen := 40) (splits := 40) | lia), (by first | with_reducible assumption | grind | grind (ematch := 40) (gen := 40) (splits := 40) | lia), (by first | with_reducible assumption | grind | grind (ematch := 40) (gen := 40) (splits := 40) | lia), (by first | with_reducible assumption | grind | grind (ematch := 40) (gen := 40) (splits := 40) | lia), (by first | with_reducible assumption | grind | grind (ematch := 40) (gen := 40) (splits := 40) | lia), (by first | with_reducible assumption | grind | grind (ematch := 40) (gen := 40) (splits := 40) | lia)⟩
                    · skip
                      refine r_Pa_o Tr66 kv0 ?_
                      refine c_Pa_endCommand (v0 := v0) (pg := pg) Tr66 kv0 kpg ppg ptx (by first | with_reducible assumption | grind | grind (ematch := 40) (gen := 40) (splits := 40) | lia) (by first | with_reducible assumption | grind | grind (ematch := 40) (gen := 40) (splits := 40) | lia) ?_
                      intro yr69 hr69 Tr69 gr69_0 gr69_1 gr69_2
                      dsimp only
                      refine qk_if (fun cc13 => ?_) (fun cc13 => ?_)
                      · skip
                        refine qk_some ?_
                        exact ⟨_, Tr69, (by first | with_reducible assumption | grind | grind (ematch := 40) (gen := 40) (splits := 40) | lia), (by first | with_reducible assumption | grind | grind (ematch := 40) (gen := 40) (splits := 40) | lia), (by intro yy; exact absurd (show (0 : Int32) = 1 from yy) (by decide)), (by first | with_reducible assumption | grind | grind (ematch := 40) (gen := 40) (splits := 40) | lia), (by first | with_reducible assumption | grind | grind (ematch := 40) (gen := 40) (splits := 40) | lia), (by first | with_reducible assumption | grind | grind (ematch := 40) (gen := 40) (splits := 40) | lia), (by first | with_reducible assumption | grind | grind (ematch := 40) (gen := 40) (splits := 40) | lia), (by first | with_reducible assumption | grind | grind (ematch := 40) (gen := 40) (splits := 40) | lia), (by first | with_reducible assumption | grind | grind (ematch := 40) (gen := 40) (splits := 40) | lia)⟩
                      · skip
                        refine qk_some ?_
                        exact ⟨_, Tr69, (by first | with_reducible assumption | grind | grind (ematch := 40) (gen := 40) (splits := 40) | lia), (by first | with_reducible assumption | grind | grind (ematch := 40) (gen := 40) (splits := 40) | lia), (by intro yy; refine ⟨fun b1 b2 => q_PW_eq (V2.1 (by grind) (by grind)) (by grind) (by grind) (by grind), fun b1 b2 => q_PW_eq (V2.2 (by grind) (by grind)) (by grind) (by grind) (by grind), fun b1 => ?_⟩; exact absurd b1 (by grind)), (by first | with_reducible assumption | grind | grind (ematch := 40) (gen := 40) (splits := 40) | lia), (by first | with_reducible assumption | grind | grind (ematch := 40) (gen := 40) (splits := 40) | lia), (by first | with_reducible assumption | grind | grind (ematch := 40) (gen := 40) (splits := 40) | lia), (by first | with_reducible assumption | grind | grind (ematch := 40) (gen := 40) (splits := 40) | lia), (by first | with_reducible assumption | grind | grind (ematch := 40) (gen := 40) (splits := 40) | lia), (by first | with_reducible assumption | grind | grind (ematch := 40) (gen := 40) (splits := 40) | lia)⟩
                  · skip
                    refine qk_if (fun cc14 => ?_) (fun cc14 => ?_)
                    · skip
                      refine r_Pa_o Th10 kv0 ?_
                      refine c_Pa_readText (v0 := v0) (pg := pg) (cm := cm) Th10 kv0 kpg ppg kcm pcm ptx (by first | with_reducible assumption | grind | grind (ematch := 40) (gen := 40) (splits := 40) | lia) (by first | with_reducible assumption | grind | grind (ematch := 40) (gen := 40) (splits := 40) | lia) (by first | with_reducible assumption | grind | grind (ematch := 40) (gen := 40) (splits := 40) | lia) (by first | with_reducible assumption | grind | grind (ematch := 40) (gen := 40) (splits := 40) | lia) (by first | with_reducible assumption | grind | grind (ematch := 40) (gen := 40) (splits := 40) | lia) (by first | with_reducible assumption | grind | grind (ematch := 40) (gen := 40) (splits := 40) | lia) ?_
                      intro yr73 hr73 Tr73 gr73_0 gr73_1 gr73_2 gr73_3
                      dsimp only
                      refine qk_zB (by first | with_reducible assumption | grind | grind (ematch := 40) (gen := 40) (splits := 40) | lia) ?_
                      refine qk_some ?_
                      exact ⟨_, Tr73, (by first | with_reducible assumption | grind | grind (ematch := 40) (gen := 40) (splits := 40) | lia), (by first | with_reducible assumption | grind | grind (ematch := 40) (gen := 40) (splits := 40) | lia), (by intro yy; refine ⟨fun b1 b2 => q_PW_eq (V2.1 (by grind) (by grind)) (by grind) (by grind) (by grind), fun b1 b2 => q_PW_eq (V2.2 (by grind) (by grind)) (by grind) (by grind) (by grind), fun b1 => ?_⟩; exact absurd b1 (by grind)), (by first | with_reducible assumption | grind | grind (ematch := 40) (gen := 40) (splits := 40) | lia), (by first | with_reducible assumption | grind | grind (ematch := 40) (gen := 40) (splits := 40) | lia), (by first | with_reducible assumption | grind | grind (ematch := 40) (gen := 40) (splits := 40) | lia), (by first | with_reducible assumption | grind | grind (ematch := 40) (gen := 40) (splits := 40) | lia), (by first | with_reducible assumption | grind | grind (ematch := 40) (gen := 40) (splits := 40) | lia), (by first | with_reducible assumption | grind | grind (ematch := 40) (gen := 40) (splits := 40) | lia)⟩
                    · skip
                      refine qk_if (fun cc15 => ?_) (fun cc15 => ?_)
                      · skip
                        refine r_Pa_0 Th10 kv0 ?_
                        intro kx76
                        refine r_Cur_1 Th10 kx76 ?_
                        intro x77 ex77 lx77 ux77
                        subst ex77
                        refine w_Cur_1 Th10 kx76 (by first | with_reducible assumption | grind | grind (ematch := 40) (gen := 40) (splits := 40) | lia) (q_inc01 (Th10.2.2.2.1 _ 1) (q_CCur Th10 kx76)) (by first | exact q_inc1 (by first | with_reducible assumption | grind -lia | grind) (q_inc00 (Th10.2.2.2.1 _ 1) (q_CCur Th10 kx76)) | exact q_inc1b (by first | with_reducible assumption | grind -lia | grind) (q_inc00 (Th10.2.2.2.1 _ 1) (q_CCur Th10 kx76))) ?_
                        intro h78 Th78 ih78 ah78
                        refine r_Pa_o Th78 kv0 ?_
                        refine c_Pa_endCommand (v0 := v0) (pg := pg) Th78 kv0 kpg ppg ptx (by first | with_reducible assumption | grind | grind (ematch := 40) (gen := 40) (splits := 40) | lia) (by first | with_reducible assumption | grind | grind (ematch := 40) (gen := 40) (splits := 40) | lia) ?_
                        intro yr80 hr80 Tr80 gr80_0 gr80_1 gr80_2
                        dsimp only
                        refine qk_zB (by first | with_reducible assumption | grind | grind (ematch := 40) (gen := 40) (splits := 40) | lia) ?_
                        refine qk_some ?_
                        exact ⟨_, Tr80, (by first | with_reducible assumption | grind | grind (ematch := 40) (gen := 40) (splits := 40) | lia), (by first | with_reducible assumption | grind | grind (ematch := 40) (gen := 40) (splits := 40) | lia), (by intro yy; refine ⟨fun b1 b2 => q_PW_eq (V2.1 (by grind) (by grind)) (by grind) (by grind) (by grind), fun b1 b2 => q_PW_eq (V2.2 (by grind) (by grind)) (by grind) (by grind) (by grind), fun b1 => ?_⟩; exact absurd b1 (by grind)), (by first | with_reducible assumption | grind | grind (ematch := 40) (gen := 40) (splits := 40) | lia), (by first | with_reducible assumption | grind | grind (ematch := 40) (gen := 40) (splits := 40) | lia), (by first | with_reducible assumption | grind | grind (ematch := 40) (gen := 40) (splits := 40) | lia), (by first | with_reducible assumption | grind | grind (ematch := 40) (gen := 40) (splits := 40) | lia), (by first | with_reducible assumption | grind | grind (ematch := 40) (gen := 40) (splits := 40) | lia), (by first | with_reducible assumption | grind | grind (ematch := 40) (gen := 40) (splits := 40) | lia)⟩
                      · skip
                        refine qk_if (fun cc16 => ?_) (fun cc16 => ?_)
                        · skip
                          refine r_Pa_0 Th10 kv0 ?_
                          intro kx83
                          refine r_Cur_1 Th10 kx83 ?_
                          intro x84 ex84 lx84 ux84
                          subst ex84
                          refine w_Cur_1 Th10 kx83 (by first | with_reducible assumption | grind | grind (ematch := 40) (gen := 40) (splits := 40) | lia) (q_inc01 (Th10.2.2.2.1 _ 1) (q_CCur Th10 kx83)) (by first | exact q_inc1 (by first | with_reducible assumption | grind -lia | grind) (q_inc00 (Th10.2.2.2.1 _ 1) (q_CCur Th10 kx83)) | exact q_inc1b (by first | with_reducible assumption | grind -lia | grind) (q_inc00 (Th10.2.2.2.1 _ 1) (q_CCur Th10 kx83))) ?_
                          intro h85 Th85 ih85 ah85
                          refine r_Pa_o Th85 kv0 ?_
                          refine c_Pa_endCommand (v0 := v0) (pg := pg) Th85 kv0 kpg ppg ptx (by first | with_reducible assumption | grind | grind (ematch := 40) (gen := 40) (splits := 40) | lia) (by first | with_reducible assumption | grind | grind (ematch := 40) (gen := 40) (splits := 40) | lia) ?_
                          intro yr87 hr87 Tr87 gr87_0 gr87_1 gr87_2
                          dsimp only
                          refine qk_zB (by first | with_reducible assumption | grind | grind (ematch := 40) (gen := 40) (splits := 40) | lia) ?_
                          refine qk_some ?_
                          exact ⟨_, Tr87, (by first | with_reducible assumption | grind | grind (ematch := 40) (gen := 40) (splits := 40) | lia), (by first | with_reducible assumption | grind | grind (ematch := 40) (gen := 40) (splits := 40) | lia), (by intro yy; refine ⟨fun b1 b2 => q_PW_eq (V2.1 (by grind) (by grind)) (by grind) (by grind) (by grind), fun b1 b2 => q_PW_eq (V2.2 (by grind) (by grind)) (by grind) (by grind) (by grind), fun b1 => ?_⟩; exact absurd b1 (by grind)), (by first | with_reducible assumption | grind | grind (ematch := 40) (gen := 40) (splits := 40) | lia), (by first | with_reducible assumption | grind | grind (ematch := 40) (gen := 40) (splits := 40) | lia), (by first | with_reducible assumption | grind | grind (ematch := 40) (gen := 40) (splits := 40) | lia), (by first | with_reducible assumption | grind | grind (ematch := 40) (gen := 40) (splits := 40) | lia), (by first | with_reducible assumption | grind | grind (ematch := 40) (gen := 40) (splits := 40) | lia), (by first | with_reducible assumption | grind | grind (ematch := 40) (gen := 40) (splits := 40) | lia)⟩
                        · skip
                          refine qk_if (fun cc17 => ?_) (fun cc17 => ?_)
                          · skip
                            refine r_Pa_0 Th10 kv0 ?_
                            intro kx90
                            refine r_Cur_1 Th10 kx90 ?_
                            intro x91 ex91 lx91 ux91
                            subst ex91
                            refine w_Cur_1 Th10 kx90 (by first | with_reducible assumption | grind | grind (ematch := 40) (gen := 40) (splits := 40) | lia) (q_inc01 (Th10.2.2.2.1 _ 1) (q_CCur Th10 kx90)) (by first | exact q_inc1 (by first | with_reducible assumption | grind -lia | grind) (q_inc00 (Th10.2.2.2.1 _ 1) (q_CCur Th10 kx90)) | exact q_inc1b (by first | with_reducible assumption | grind -lia | grind) (q_inc00 (Th10.2.2.2.1 _ 1) (q_CCur Th10 kx90))) ?_
                            intro h92 Th92 ih92 ah92
                            refine r_Pa_o Th92 kv0 ?_
                            refine c_Pa_endCommand (v0 := v0) (pg := pg) Th92 kv0 kpg ppg ptx (by first | with_reducible assumption | grind | grind (ematch := 40) (gen := 40) (splits := 40) | lia) (by first | with_reducible assumption | grind | grind (ematch := 40) (gen := 40) (splits := 40) | lia) ?_
                            intro yr94 hr94 Tr94 gr94_0 gr94_1 gr94_2
                            dsimp only
                            refine qk_zB (by first | with_reducible assumption | grind | grind (ematch := 40) (gen := 40) (splits := 40) | lia) ?_
                            refine qk_some ?_
                            exact ⟨_, Tr94, (by first | with_reducible assumption | grind | grind (ematch := 40) (gen := 40) (splits := 40) | lia), (by first | with_reducible assumption | grind | grind (ematch := 40) (gen := 40) (splits := 40) | lia), (by intro yy; refine ⟨fun b1 b2 => q_PW_eq (V2.1 (by grind) (by grind)) (by grind) (by grind) (by grind), fun b1 b2 => q_PW_eq (V2.2 (by grind) (by grind)) (by grind) (by grind) (by grind), fun b1 => ?_⟩; exact absurd b1 (by grind)), (by first | with_reducible assumption | grind | grind (ematch := 40) (gen := 40) (splits := 40) | lia), (by first | with_reducible assumption | grind | grind (ematch := 40) (gen := 40) (splits := 40) | lia), (by first | with_reducible assumption | grind | grind (ematch := 40) (gen := 40) (splits := 40) | lia), (by first | with_reducible assumption | grind | grind (ematch := 40) (gen := 40) (splits := 40) | lia), (by first | with_reducible assumption | grind | grind (ematch := 40) (gen := 40) (splits := 40) | lia), (by first | with_reducible assumption | grind | grind (ematch := 40) (gen := 40) (splits := 40) | lia)⟩
                          · skip
                            refine qk_if (fun cc18 => ?_) (fun cc18 => ?_)
                            · skip
                              refine r_Pa_o Th10 kv0 ?_
                              refine c_Pa_readText (v0 := v0) (pg := pg) (cm := cm) Th10 kv0 kpg ppg kcm pcm ptx (by first | with_reducible assumption | grind | grind (ematch := 40) (gen := 40) (splits := 40) | lia) (by first | with_reducible assumption | grind | grind (ematch := 40) (gen := 40) (splits := 40) | lia) (by first | with_reducible assumption | grind | grind (ematch := 40) (gen := 40) (splits := 40) | lia) (by first | with_reducible assumption | grind | grind (ematch := 40) (gen := 40) (splits := 40) | lia) (by first | with_reducible assumption | grind | grind (ematch := 40) (gen := 40) (splits := 40) | lia) (by first | with_reducible assumption | grind | grind (ematch := 40) (gen := 40) (splits := 40) | lia) ?_
                              intro yr98 hr98 Tr98 gr98_0 gr98_1 gr98_2 gr98_3
                              dsimp only
                              refine qk_zB (by first | with_reducible assumption | grind | grind (ematch := 40) (gen := 40) (splits := 40) | lia) ?_
                              refine qk_some ?_
                              exact ⟨_, Tr98, (by first | with_reducible assumption | grind | grind (ematch := 40) (gen := 40) (splits := 40) | lia), (by first | with_reducible assumption | grind | grind (ematch := 40) (gen := 40) (splits := 40) | lia), (by intro yy; refine ⟨fun b1 b2 => q_PW_eq (V2.1 (by grind) (by grind)) (by grind) (by grind) (by grind), fun b1 b2 => q_PW_eq (V2.2 (by grind) (by grind)) (by grind) (by grind) (by grind), fun b1 => ?_⟩; exact absurd b1 (by grind)), (by first | with_reducible assumption | grind | grind (ematch := 40) (gen := 40) (splits := 40) | lia), (by first | with_reducible assumption | grind | grind (ematch := 40) (gen := 40) (splits := 40) | lia), (by first | with_reducible assumption | grind | grind (ematch := 40) (gen := 40) (splits := 40) | lia), (by first | with_reducible assumption | grind | grind (ematch := 40) (gen := 40) (splits := 40) | lia), (by first | with_reducible assumption | grind | grind (ematch := 40) (gen := 40) (splits := 40) | lia), (by first | with_reducible assumption | grind | grind (ematch := 40) (gen := 40) (splits := 40) | lia)⟩
                            · skip
                              refine qk_if (fun cc19 => ?_) (fun cc19 => ?_)
                              · skip
                                refine r_Pa_0 Th10 kv0 ?_
                                intro kx101
                                refine r_Cur_1 Th10 kx101 ?_
                                intro x102 ex102 lx102 ux102
                                subst ex102
                                refine w_Cur_1 Th10 kx101 (by first | with_reducible assumption | grind | grind (ematch := 40) (gen := 40) (splits := 40) | lia) (q_inc01 (Th10.2.2.2.1 _ 1) (q_CCur Th10 kx101)) (by first | exact q_inc1 (by first | with_reducible assumption | grind -lia | grind) (q_inc00 (Th10.2.2.2.1 _ 1) (q_CCur Th10 kx101)) | exact q_inc1b (by first | with_reducible assumption | grind -lia | grind) (q_inc00 (Th10.2.2.2.1 _ 1) (q_CCur Th10 kx101))) ?_
                                intro h103 Th103 ih103 ah103
                                refine r_Pa_o Th103 kv0 ?_
                                refine c_Pa_endCommand (v0 := v0) (pg := pg) Th103 kv0 kpg ppg ptx (by first | with_reducible assumption | grind | grind (ematch := 40) (gen := 40) (splits := 40) | lia) (by first | with_reducible assumption | grind | grind (ematch := 40) (gen := 40) (splits := 40) | lia) ?_
                                intro yr105 hr105 Tr105 gr105_0 gr105_1 gr105_2
                                dsimp only
                                refine qk_zB (by first | with_reducible assumption | grind | grind (ematch := 40) (gen := 40) (splits := 40) | lia) ?_
                                refine qk_some ?_
                                exact ⟨_, Tr105, (by first | with_reducible assumption | grind | grind (ematch := 40) (gen := 40) (splits := 40) | lia), (by first | with_reducible assumption | grind | grind (ematch := 40) (gen := 40) (splits := 40) | lia), (by intro yy; refine ⟨fun b1 b2 => q_PW_eq (V2.1 (by grind) (by grind)) (by grind) (by grind) (by grind), fun b1 b2 => q_PW_eq (V2.2 (by grind) (by grind)) (by grind) (by grind) (by grind), fun b1 => ?_⟩; exact absurd b1 (by grind)), (by first | with_reducible assumption | grind | grind (ematch := 40) (gen := 40) (splits := 40) | lia), (by first | with_reducible assumption | grind | grind (ematch := 40) (gen := 40) (splits := 40) | lia), (by first | with_reducible assumption | grind | grind (ematch := 40) (gen := 40) (splits := 40) | lia), (by first | with_reducible assumption | grind | grind (ematch := 40) (gen := 40) (splits := 40) | lia), (by first | with_reducible assumption | grind | grind (ematch := 40) (gen := 40) (splits := 40) | lia), (by first | with_reducible assumption | grind | grind (ematch := 40) (gen := 40) (splits := 40) | lia)⟩
                              · skip
                                refine qk_if (fun cc20 => ?_) (fun cc20 => ?_)
                                · skip
                                  refine r_Pa_0 Th10 kv0 ?_
                                  intro kx108
                                  refine r_Cur_1 Th10 kx108 ?_
                                  intro x109 ex109 lx109 ux109
                                  subst ex109
                                  refine w_Cur_1 Th10 kx108 (by first | with_reducible assumption | grind | grind (ematch := 40) (gen := 40) (splits := 40) | lia) (q_inc01 (Th10.2.2.2.1 _ 1) (q_CCur Th10 kx108)) (by first | exact q_inc1 (by first | with_reducible assumption | grind -lia | grind) (q_inc00 (Th10.2.2.2.1 _ 1) (q_CCur Th10 kx108)) | exact q_inc1b (by first | with_reducible assumption | grind -lia | grind) (q_inc00 (Th10.2.2.2.1 _ 1) (q_CCur Th10 kx108))) ?_
                                  intro h110 Th110 ih110 ah110
                                  refine r_Pa_o Th110 kv0 ?_
                                  refine c_Pa_endCommand (v0 := v0) (pg := pg) Th110 kv0 kpg ppg ptx (by first | with_reducible assumption | grind | grind (ematch := 40) (gen := 40) (splits := 40) | lia) (by first | with_reducible assumption | grind | grind (ematch := 40) (gen := 40) (splits := 40) | lia) ?_
                                  intro yr112 hr112 Tr112 gr112_0 gr112_1 gr112_2
                                  dsimp only
                                  refine qk_zB (by first | with_reducible assumption | grind | grind (ematch := 40) (gen := 40) (splits := 40) | lia) ?_
                                  refine qk_some ?_
                                  exact ⟨_, Tr112, (by first | with_reducible assumption | grind | grind (ematch := 40) (gen := 40) (splits := 40) | lia), (by first | with_reducible assumption | grind | grind (ematch := 40) (gen := 40) (splits := 40) | lia), (by intro yy; refine ⟨fun b1 b2 => q_PW_eq (V2.1 (by grind) (by grind)) (by grind) (by grind) (by grind), fun b1 b2 => q_PW_eq (V2.2 (by grind) (by grind)) (by grind) (by grind) (by grind), fun b1 => ?_⟩; exact absurd b1 (by grind)), (by first | with_reducible assumption | grind | grind (ematch := 40) (gen := 40) (splits := 40) | lia), (by first | with_reducible assumption | grind | grind (ematch := 40) (gen := 40) (splits := 40) | lia), (by first | with_reducible assumption | grind | grind (ematch := 40) (gen := 40) (splits := 40) | lia), (by first | with_reducible assumption | grind | grind (ematch := 40) (gen := 40) (splits := 40) | lia), (by first | with_reducible assumption | grind | grind (ematch := 40) (gen := 40) (splits := 40) | lia), (by first | with_reducible assumption | grind | grind (ematch := 40) (gen := 40) (splits := 40) | lia)⟩
                                · skip
                                  refine qk_if (fun cc21 => ?_) (fun cc21 => ?_)
                                  · skip
                                    refine r_Pa_0 Th10 kv0 ?_
                                    intro kx115
                                    refine r_Cur_1 Th10 kx115 ?_
                                    intro x116 ex116 lx116 ux116
                                    subst ex116
                                    refine w_Cur_1 Th10 kx115 (by first | with_reducible assumption | grind | grind (ematch := 40) (gen := 40) (splits := 40) | lia) (q_inc01 (Th10.2.2.2.1 _ 1) (q_CCur Th10 kx115)) (by first | exact q_inc1 (by first | with_reducible assumption | grind -lia | grind) (q_inc00 (Th10.2.2.2.1 _ 1) (q_CCur Th10 kx115)) | exact q_inc1b (by first | with_reducible assumption | grind -lia | grind) (q_inc00 (Th10.2.2.2.1 _ 1) (q_CCur Th10 kx115))) ?_
                                    intro h117 Th117 ih117 ah117
                                    refine r_Pa_o Th117 kv0 ?_
                                    refine c_Pa_endCommand (v0 := v0) (pg := pg) Th117 kv0 kpg ppg ptx (by first | with_reducible assumption | grind | grind (ematch := 40) (gen := 40) (splits := 40) | lia) (by first | with_reducible assumption | grind | grind (ematch := 40) (gen := 40) (splits := 40) | lia) ?_
                                    intro yr119 hr119 Tr119 gr119_0 gr119_1 gr119_2
                                    dsimp only
                                    refine qk_zB (by first | with_reducible assumption | grind | grind (ematch := 40) (gen := 40) (splits := 40) | lia) ?_
                                    refine qk_some ?_
                                    exact ⟨_, Tr119, (by first | with_reducible assumption | grind | grind (ematch := 40) (gen := 40) (splits := 40) | lia), (by first | with_reducible assumption | grind | grind (ematch := 40) (gen := 40) (splits := 40) | lia), (by intro yy; refine ⟨fun b1 b2 => q_PW_eq (V2.1 (by grind) (by grind)) (by grind) (by grind) (by grind), fun b1 b2 => q_PW_eq (V2.2 (by grind) (by grind)) (by grind) (by grind) (by grind), fun b1 => ?_⟩; exact absurd b1 (by grind)), (by first | with_reducible assumption | grind | grind (ematch := 40) (gen := 40) (splits := 40) | lia), (by first | with_reducible assumption | grind | grind (ematch := 40) (gen := 40) (splits := 40) | lia), (by first | with_reducible assumption | grind | grind (ematch := 40) (gen := 40) (splits := 40) | lia), (by first | with_reducible assumption | grind | grind (ematch := 40) (gen := 40) (splits := 40) | lia), (by first | with_reducible assumption | grind | grind (ematch := 40) (gen := 40) (splits := 40) | lia), (by first | with_reducible assumption | grind | grind (ematch := 40) (gen := 40) (splits := 40) | lia)⟩
                                  · skip
                                    refine qk_if (fun cc22 => ?_) (fun cc22 => ?_)
                                    · skip
                                      refine r_Pa_o Th10 kv0 ?_
                                      refine c_Pa_readSubstitution (v0 := v0) (pg := pg) (cm := cm) Th10 kv0 kpg ppg kcm pcm ptx ppc (by first | with_reducible assumption | grind | grind (ematch := 40) (gen := 40) (splits := 40) | lia) (by first | with_reducible assumption | grind | grind (ematch := 40) (gen := 40) (splits := 40) | lia) (by first | with_reducible assumption | grind | grind (ematch := 40) (gen := 40) (splits := 40) | lia) (by first | with_reducible assumption | grind | grind (ematch := 40) (gen := 40) (splits := 40) | lia) (by first | with_reducible assumption | grind | grind (ematch := 40) (gen := 40) (splits := 40) | lia) (by first | with_reducible assumption | grind | grind (ematch := 40) (gen := 40) (splits := 40) | lia) (by first | with_reducible assumption | grind | grind (ematch := 40) (gen := 40) (splits := 40) | lia) ?_
                                      intro yr123 πr123 hr123 Tr123 zr123  gr123_0 gr123_1 gr123_2 gr123_3 gr123_4 gr123_5 gr123_6
                                      have ppg_r123 : πr123 v0 5 = some pg := by rw [zr123 v0 5 (by grind) (by grind)]; exact ppg
                                      have pcm_r123 : πr123 v0 6 = some cm := by rw [zr123 v0 6 (by grind) (by grind)]; exact pcm
                                      have ptx_r123 : πr123 (v0 + 1) 0 = some (pg + 1) := by rw [zr123 (v0 + 1) 0 (by grind) (by grind)]; exact ptx
                                      have ppc_r123 : πr123 (v0 + 2) 0 = some (v0 + 1) := by rw [zr123 (v0 + 2) 0 (by grind) (by grind)]; exact ppc
                                      dsimp only
                                      refine qk_if (fun cc23 => ?_) (fun cc23 => ?_)
                                      · skip
                                        refine qk_some ?_
                                        exact ⟨_, Tr123, (by first | with_reducible assumption | grind | grind (ematch := 40) (gen := 40) (splits := 40) | lia), (by first | with_reducible assumption | grind | grind (ematch := 40) (gen := 40) (splits := 40) | lia), (by intro yy; exact absurd (show (0 : Int32) = 1 from yy) (by decide)), (by first | with_reducible assumption | grind | grind (ematch := 40) (gen := 40) (splits := 40) | lia), (by first | with_reducible assumption | grind | grind (ematch := 40) (gen := 40) (splits := 40) | lia), (by first | with_reducible assumption | grind | grind (ematch := 40) (gen := 40) (splits := 40) | lia), (by first | with_reducible assumption | grind | grind (ematch := 40) (gen := 40) (splits := 40) | lia), (by first | with_reducible assumption | grind | grind (ematch := 40) (gen := 40) (splits := 40) | lia), (by first | with_reducible assumption | grind | grind (ematch := 40) (gen := 40) (splits := 40) | lia)⟩
                                      · skip
                                        refine r_Pa_o Tr123 kv0 ?_
                                        refine c_Pa_endCommand (v0 := v0) (pg := pg) Tr123 kv0 kpg ppg_r123 ptx_r123 (by first | with_reducible assumption | grind | grind (ematch := 40) (gen := 40) (splits := 40) | lia) (by first | with_reducible assumption | grind | grind (ematch := 40) (gen := 40) (splits := 40) | lia) ?_
                                        intro yr126 hr126 Tr126 gr126_0 gr126_1 gr126_2
                                        dsimp only
                                        refine qk_if (fun cc24 => ?_) (fun cc24 => ?_)
                                        · skip
                                          refine qk_some ?_
                                          exact ⟨_, Tr126, (by first | with_reducible assumption | grind | grind (ematch := 40) (gen := 40) (splits := 40) | lia), (by first | with_reducible assumption | grind | grind (ematch := 40) (gen := 40) (splits := 40) | lia), (by intro yy; exact absurd (show (0 : Int32) = 1 from yy) (by decide)), (by first | with_reducible assumption | grind | grind (ematch := 40) (gen := 40) (splits := 40) | lia), (by first | with_reducible assumption | grind | grind (ematch := 40) (gen := 40) (splits := 40) | lia), (by first | with_reducible assumption | grind | grind (ematch := 40) (gen := 40) (splits := 40) | lia), (by first | with_reducible assumption | grind | grind (ematch := 40) (gen := 40) (splits := 40) | lia), (by first | with_reducible assumption | grind | grind (ematch := 40) (gen := 40) (splits := 40) | lia), (by first | with_reducible assumption | grind | grind (ematch := 40) (gen := 40) (splits := 40) | lia)⟩
                                        · skip
                                          refine qk_some ?_
                                          exact ⟨_, Tr126, (by first | with_reducible assumption | grind | grind (ematch := 40) (gen := 40) (splits := 40) | lia), (by first | with_reducible assumption | grind | grind (ematch := 40) (gen := 40) (splits := 40) | lia), (by intro yy; refine ⟨fun b1 b2 => q_PW_eq (V2.1 (by first | grind | grind (splits := 40) (ematch := 20) (gen := 20)) (by first | grind | grind (splits := 40) (ematch := 20) (gen := 20))) (by first | grind | grind (splits := 40) (ematch := 20) (gen := 20)) (by first | grind | grind (splits := 40) (ematch := 20) (gen := 20)) (by first | grind | grind (splits := 40) (ematch := 20) (gen := 20)), fun b1 b2 => q_PW_eq (V2.2 (by first | grind | grind (splits := 40) (ematch := 20) (gen := 20)) (by first | grind | grind (splits := 40) (ematch := 20) (gen := 20))) (by first | grind | grind (splits := 40) (ematch := 20) (gen := 20)) (by first | grind | grind (splits := 40) (ematch := 20) (gen := 20)) (by first | grind | grind (splits := 40) (ematch := 20) (gen := 20)), fun b1 => ?_⟩; first | exact q_PW_eq (gr123_1 (by grind)) (by grind) (by grind) (by grind)), (by first | with_reducible assumption | grind | grind (ematch := 40) (gen := 40) (splits := 40) | lia), (by first | with_reducible assumption | grind | grind (ematch := 40) (gen := 40) (splits := 40) | lia), (by first | with_reducible assumption | grind | grind (ematch := 40) (gen := 40) (splits := 40) | lia), (by first | with_reducible assumption | grind | grind (ematch := 40) (gen := 40) (splits := 40) | lia), (by first | with_reducible assumption | grind | grind (ematch := 40) (gen := 40) (splits := 40) | lia), (by first | with_reducible assumption | grind | grind (ematch := 40) (gen := 40) (splits := 40) | lia)⟩
                                    · skip
                                      refine qk_if (fun cc25 => ?_) (fun cc25 => ?_)
                                      · skip
                                        refine r_Pa_o Th10 kv0 ?_
                                        refine c_Pa_readBranch (v0 := v0) (pg := pg) (cm := cm) Th10 kv0 kpg ppg kcm pcm ptx (by first | with_reducible assumption | grind | grind (ematch := 40) (gen := 40) (splits := 40) | lia) (by first | with_reducible assumption | grind | grind (ematch := 40) (gen := 40) (splits := 40) | lia) (by first | with_reducible assumption | grind | grind (ematch := 40) (gen := 40) (splits := 40) | lia) (by first | with_reducible assumption | grind | grind (ematch := 40) (gen := 40) (splits := 40) | lia) (by first | with_reducible assumption | grind | grind (ematch := 40) (gen := 40) (splits := 40) | lia) ?_
                                        intro yr130 hr130 Tr130 gr130_0 gr130_1 gr130_2 gr130_3
                                        dsimp only
                                        refine qk_if (fun cc26 => ?_) (fun cc26 => ?_)
                                        · skip
                                          refine qk_some ?_
                                          exact ⟨_, Tr130, (by first | with_reducible assumption | grind | grind (ematch := 40) (gen := 40) (splits := 40) | lia), (by first | with_reducible assumption | grind | grind (ematch := 40) (gen := 40) (splits := 40) | lia), (by intro yy; exact absurd (show (0 : Int32) = 1 from yy) (by decide)), (by first | with_reducible assumption | grind | grind (ematch := 40) (gen := 40) (splits := 40) | lia), (by first | with_reducible assumption | grind | grind (ematch := 40) (gen := 40) (splits := 40) | lia), (by first | with_reducible assumption | grind | grind (ematch := 40) (gen := 40) (splits := 40) | lia), (by first | with_reducible assumption | grind | grind (ematch := 40) (gen := 40) (splits := 40) | lia), (by first | with_reducible assumption | grind | grind (ematch := 40) (gen := 40) (splits := 40) | lia), (by first | with_reducible assumption | grind | grind (ematch := 40) (gen := 40) (splits := 40) | lia)⟩
                                        · skip
                                          refine r_Pa_o Tr130 kv0 ?_
                                          refine c_Pa_endCommand (v0 := v0) (pg := pg) Tr130 kv0 kpg ppg ptx (by first | with_reducible assumption | grind | grind (ematch := 40) (gen := 40) (splits := 40) | lia) (by first | with_reducible assumption | grind | grind (ematch := 40) (gen := 40) (splits := 40) | lia) ?_
                                          intro yr133 hr133 Tr133 gr133_0 gr133_1 gr133_2
                                          dsimp only
                                          refine qk_if (fun cc27 => ?_) (fun cc27 => ?_)
                                          · skip
                                            refine qk_some ?_
                                            exact ⟨_, Tr133, (by first | with_reducible assumption | grind | grind (ematch := 40) (gen := 40) (splits := 40) | lia), (by first | with_reducible assumption | grind | grind (ematch := 40) (gen := 40) (splits := 40) | lia), (by intro yy; exact absurd (show (0 : Int32) = 1 from yy) (by decide)), (by first | with_reducible assumption | grind | grind (ematch := 40) (gen := 40) (splits := 40) | lia), (by first | with_reducible assumption | grind | grind (ematch := 40) (gen := 40) (splits := 40) | lia), (by first | with_reducible assumption | grind | grind (ematch := 40) (gen := 40) (splits := 40) | lia), (by first | with_reducible assumption | grind | grind (ematch := 40) (gen := 40) (splits := 40) | lia), (by first | with_reducible assumption | grind | grind (ematch := 40) (gen := 40) (splits := 40) | lia), (by first | with_reducible assumption | grind | grind (ematch := 40) (gen := 40) (splits := 40) | lia)⟩
                                          · skip
                                            refine qk_some ?_
                                            exact ⟨_, Tr133, (by first | with_reducible assumption | grind | grind (ematch := 40) (gen := 40) (splits := 40) | lia), (by first | with_reducible assumption | grind | grind (ematch := 40) (gen := 40) (splits := 40) | lia), (by intro yy; refine ⟨fun b1 b2 => q_PW_eq (V2.1 (by grind) (by grind)) (by grind) (by grind) (by grind), fun b1 b2 => q_PW_eq (V2.2 (by grind) (by grind)) (by grind) (by grind) (by grind), fun b1 => ?_⟩; exact absurd b1 (by grind)), (by first | with_reducible assumption | grind | grind (ematch := 40) (gen := 40) (splits := 40) | lia), (by first | with_reducible assumption | grind | grind (ematch := 40) (gen := 40) (splits := 40) | lia), (by first | with_reducible assumption | grind | grind (ematch := 40) (gen := 40) (splits := 40) | lia), (by first | with_reducible assumption | grind | grind (ematch := 40) (gen := 40) (splits := 40) | lia), (by first | with_reducible assumption | grind | grind (ematch := 40) (gen := 40) (splits := 40) | lia), (by first | with_reducible assumption | grind | grind (ematch := 40) (gen := 40) (splits := 40) | lia)⟩
                                      · skip
                                        refine qk_if (fun cc28 => ?_) (fun cc28 => ?_)
                                        · skip
                                          refine r_Pa_0 Th10 kv0 ?_
                                          intro kx136
                                          refine r_Cur_1 Th10 kx136 ?_
                                          intro x137 ex137 lx137 ux137
                                          subst ex137
                                          refine w_Cur_1 Th10 kx136 (by first | with_reducible assumption | grind | grind (ematch := 40) (gen := 40) (splits := 40) | lia) (q_inc01 (Th10.2.2.2.1 _ 1) (q_CCur Th10 kx136)) (by first | exact q_inc1 (by first | with_reducible assumption | grind -lia | grind) (q_inc00 (Th10.2.2.2.1 _ 1) (q_CCur Th10 kx136)) | exact q_inc1b (by first | with_reducible assumption | grind -lia | grind) (q_inc00 (Th10.2.2.2.1 _ 1) (q_CCur Th10 kx136))) ?_
                                          intro h138 Th138 ih138 ah138
                                          refine r_Pa_o Th138 kv0 ?_
                                          refine c_Pa_endCommand (v0 := v0) (pg := pg) Th138 kv0 kpg ppg ptx (by first | with_reducible assumption | grind | grind (ematch := 40) (gen := 40) (splits := 40) | lia) (by first | with_reducible assumption | grind | grind (ematch := 40) (gen := 40) (splits := 40) | lia) ?_
                                          intro yr140 hr140 Tr140 gr140_0 gr140_1 gr140_2
                                          dsimp only
                                          refine qk_zB (by first | with_reducible assumption | grind | grind (ematch := 40) (gen := 40) (splits := 40) | lia) ?_
                                          refine qk_some ?_
                                          exact ⟨_, Tr140, (by first | with_reducible assumption | grind | grind (ematch := 40) (gen := 40) (splits := 40) | lia), (by first | with_reducible assumption | grind | grind (ematch := 40) (gen := 40) (splits := 40) | lia), (by intro yy; refine ⟨fun b1 b2 => q_PW_eq (V2.1 (by grind) (by grind)) (by grind) (by grind) (by grind), fun b1 b2 => q_PW_eq (V2.2 (by grind) (by grind)) (by grind) (by grind) (by grind), fun b1 => ?_⟩; exact absurd b1 (by grind)), (by first | with_reducible assumption | grind | grind (ematch := 40) (gen := 40) (splits := 40) | lia), (by first | with_reducible assumption | grind | grind (ematch := 40) (gen := 40) (splits := 40) | lia), (by first | with_reducible assumption | grind | grind (ematch := 40) (gen := 40) (splits := 40) | lia), (by first | with_reducible assumption | grind | grind (ematch := 40) (gen := 40) (splits := 40) | lia), (by first | with_reducible assumption | grind | grind (ematch := 40) (gen := 40) (splits := 40) | lia), (by first | with_reducible assumption | grind | grind (ematch := 40) (gen := 40) (splits := 40) | lia)⟩
                                        · skip
                                          refine qk_if (fun cc29 => ?_) (fun cc29 => ?_)
                                          · skip
                                            refine r_Pa_o Th10 kv0 ?_
                                            refine c_Pa_readExchange (v0 := v0) (pg := pg) (cm := cm) Th10 kv0 kpg ppg kcm pcm ptx (by first | with_reducible assumption | grind | grind (ematch := 40) (gen := 40) (splits := 40) | lia) (by first | with_reducible assumption | grind | grind (ematch := 40) (gen := 40) (splits := 40) | lia) (by first | with_reducible assumption | grind | grind (ematch := 40) (gen := 40) (splits := 40) | lia) (by first | with_reducible assumption | grind | grind (ematch := 40) (gen := 40) (splits := 40) | lia) (by first | with_reducible assumption | grind | grind (ematch := 40) (gen := 40) (splits := 40) | lia) (by first | with_reducible assumption | grind | grind (ematch := 40) (gen := 40) (splits := 40) | lia) ?_
                                            intro yr144 hr144 Tr144 gr144_0 gr144_1 gr144_2 gr144_3
                                            dsimp only
                                            refine qk_if (fun cc30 => ?_) (fun cc30 => ?_)
                                            · skip
                                              refine qk_some ?_
                                              exact ⟨_, Tr144, (by first | with_reducible assumption | grind | grind (ematch := 40) (gen := 40) (splits := 40) | lia), (by first | with_reducible assumption | grind | grind (ematch := 40) (gen := 40) (splits := 40) | lia), (by intro yy; exact absurd (show (0 : Int32) = 1 from yy) (by decide)), (by first | with_reducible assumption | grind | grind (ematch := 40) (gen := 40) (splits := 40) | lia), (by first | with_reducible assumption | grind | grind (ematch := 40) (gen := 40) (splits := 40) | lia), (by first | with_reducible assumption | grind | grind (ematch := 40) (gen := 40) (splits := 40) | lia), (by first | with_reducible assumption | grind | grind (ematch := 40) (gen := 40) (splits := 40) | lia), (by first | with_reducible assumption | grind | grind (ematch := 40) (gen := 40) (splits := 40) | lia), (by first | with_reducible assumption | grind | grind (ematch := 40) (gen := 40) (splits := 40) | lia)⟩
                                            · skip
                                              refine r_Pa_o Tr144 kv0 ?_
                                              refine c_Pa_endCommand (v0 := v0) (pg := pg) Tr144 kv0 kpg ppg ptx (by first | with_reducible assumption | grind | grind (ematch := 40) (gen := 40) (splits := 40) | lia) (by first | with_reducible assumption | grind | grind (ematch := 40) (gen := 40) (splits := 40) | lia) ?_
                                              intro yr147 hr147 Tr147 gr147_0 gr147_1 gr147_2
                                              dsimp only
                                              refine qk_if (fun cc31 => ?_) (fun cc31 => ?_)
                                              · skip
                                                refine qk_some ?_
                                                exact ⟨_, Tr147, (by first | with_reducible assumption | grind | grind (ematch := 40) (gen := 40) (splits := 40) | lia), (by first | with_reducible assumption | grind | grind (ematch := 40) (gen := 40) (splits := 40) | lia), (by intro yy; exact absurd (show (0 : Int32) = 1 from yy) (by decide)), (by first | with_reducible assumption | grind | grind (ematch := 40) (gen := 40) (splits := 40) | lia), (by first | with_reducible assumption | grind | grind (ematch := 40) (gen := 40) (splits := 40) | lia), (by first | with_reducible assumption | grind | grind (ematch := 40) (gen := 40) (splits := 40) | lia), (by first | with_reducible assumption | grind | grind (ematch := 40) (gen := 40) (splits := 40) | lia), (by first | with_reducible assumption | grind | grind (ematch := 40) (gen := 40) (splits := 40) | lia), (by first | with_reducible assumption | grind | grind (ematch := 40) (gen := 40) (splits := 40) | lia)⟩
                                              · skip
                                                refine qk_some ?_
                                                exact ⟨_, Tr147, (by first | with_reducible assumption | grind | grind (ematch := 40) (gen := 40) (splits := 40) | lia), (by first | with_reducible assumption | grind | grind (ematch := 40) (gen := 40) (splits := 40) | lia), (by intro yy; refine ⟨fun b1 b2 => q_PW_eq (V2.1 (by grind) (by grind)) (by grind) (by grind) (by grind), fun b1 b2 => q_PW_eq (V2.2 (by grind) (by grind)) (by grind) (by grind) (by grind), fun b1 => ?_⟩; exact absurd b1 (by grind)), (by first | with_reducible assumption | grind | grind (ematch := 40) (gen := 40) (splits := 40) | lia), (by first | with_reducible assumption | grind | grind (ematch := 40) (gen := 40) (splits := 40) | lia), (by first | with_reducible assumption | grind | grind (ematch := 40) (gen := 40) (splits := 40) | lia), (by first | with_reducible assumption | grind | grind (ematch := 40) (gen := 40) (splits := 40) | lia), (by first | with_reducible assumption | grind | grind (ematch := 40) (gen := 40) (splits := 40) | lia), (by first | with_reducible assumption | grind | grind (ematch := 40) (gen := 40) (splits := 40) | lia)⟩
                                          · skip
                                            refine qk_if (fun cc32 => ?_) (fun cc32 => ?_)
                                            · skip
                                              refine r_Pa_o Th10 kv0 ?_
                                              refine c_Pa_openBlock (v0 := v0) (pg := pg) Th10 kv0 kpg ppg ptx (by first | with_reducible assumption | grind | grind (ematch := 40) (gen := 40) (splits := 40) | lia) (by first | with_reducible assumption | grind | grind (ematch := 40) (gen := 40) (splits := 40) | lia) (by first | with_reducible assumption | grind | grind (ematch := 40) (gen := 40) (splits := 40) | lia) (by first | with_reducible assumption | grind | grind (ematch := 40) (gen := 40) (splits := 40) | lia) ?_
                                              intro yr151 hr151 Tr151 gr151_0 gr151_1 gr151_2 gr151_3 gr151_4
                                              dsimp only
                                              refine qk_zB (by first | with_reducible assumption | grind | grind (ematch := 40) (gen := 40) (splits := 40) | lia) ?_
                                              refine qk_some ?_
                                              exact ⟨_, Tr151, (by first | with_reducible assumption | grind | grind (ematch := 40) (gen := 40) (splits := 40) | lia), (by first | with_reducible assumption | grind | grind (ematch := 40) (gen := 40) (splits := 40) | lia), (by intro yy; refine ⟨fun b1 b2 => q_PW_eq (V2.1 (by grind) (by grind)) (by grind) (by grind) (by grind), fun b1 b2 => q_PW_eq (V2.2 (by grind) (by grind)) (by grind) (by grind) (by grind), fun b1 => ?_⟩; exact absurd b1 (by grind)), (by first | with_reducible assumption | grind | grind (ematch := 40) (gen := 40) (splits := 40) | lia), (by first | with_reducible assumption | grind | grind (ematch := 40) (gen := 40) (splits := 40) | lia), (by first | with_reducible assumption | grind | grind (ematch := 40) (gen := 40) (splits := 40) | lia), (by first | with_reducible assumption | grind | grind (ematch := 40) (gen := 40) (splits := 40) | lia), (by first | with_reducible assumption | grind | grind (ematch := 40) (gen := 40) (splits := 40) | lia), (by first | with_reducible assumption | grind | grind (ematch := 40) (gen := 40) (splits := 40) | lia)⟩
                                            · skip
                                              refine r_Pa_0 Th10 kv0 ?_
                                              intro kx153
                                              refine r_Cur_o Th10 kx153 ?_
                                              refine c_Cur_refuse (v0 := (v0 + 1)) (v1 := 0) Th10 kx153 (by first | with_reducible assumption | grind | grind (ematch := 40) (gen := 40) (splits := 40) | lia) ?_
                                              intro yr155 hr155 Tr155 gr155_0 gr155_1 gr155_2
                                              dsimp only
                                              refine qk_zB (by first | with_reducible assumption | grind | grind (ematch := 40) (gen := 40) (splits := 40) | lia) ?_
                                              refine qk_some ?_
                                              exact ⟨_, Tr155, (by first | with_reducible assumption | grind | grind (ematch := 40) (gen := 40) (splits := 40) | lia), (by first | with_reducible assumption | grind | grind (ematch := 40) (gen := 40) (splits := 40) | lia), (by intro yy; refine ⟨fun b1 b2 => q_PW_eq (V2.1 (by grind) (by grind)) (by grind) (by grind) (by grind), fun b1 b2 => q_PW_eq (V2.2 (by grind) (by grind)) (by grind) (by grind) (by grind), fun b1 => ?_⟩; exact absurd b1 (by grind)), (by first | with_reducible assumption | grind | grind (ematch := 40) (gen := 40) (splits := 40) | lia), (by first | with_reducible assumption | grind | grind (ematch := 40) (gen := 40) (splits := 40) | lia), (by first | with_reducible assumption | grind | grind (ematch := 40) (gen := 40) (splits := 40) | lia), (by first | with_reducible assumption | grind | grind (ematch := 40) (gen := 40) (splits := 40) | lia), (by first | with_reducible assumption | grind | grind (ematch := 40) (gen := 40) (splits := 40) | lia), (by first | with_reducible assumption | grind | grind (ematch := 40) (gen := 40) (splits := 40) | lia)⟩
theorem c_Pa_readAction {L : q_L} {W : Nat → Prop} {h0 : z_H} {π : Nat → Nat → Option Nat} {N : Nat} {pg : Nat} {cm : Nat} {h : z_H} {v0 : Nat} {β : Type} {f : Int32 × z_H → Option β} {Q : β → Prop} (T : q_U L W h0 π h) (kv0 : qκ L v0 = 7) (kpg : qκ L pg = 10) (ppg : π v0 5 = some pg) (kcm : qκ L cm = 2) (pcm : π v0 6 = some cm) (ptx : π (v0 + 1) 0 = some (pg + 1)) (ppc : π (v0 + 2) 0 = some (v0 + 1)) (wP : ∀ a, v0 ≤ a → a < v0 + 5 → W a) (wG : ∀ a, pg ≤ a → a < pg + 249 → W a) (hc1 : pg + 9 ≤ cm) (hc2 : cm + 6 ≤ pg + 249) (z : vI h (pg + 3) 4 ≤ vI h (v0 + 1) 1) (V2 : (1 ≤ vI h cm 5 → vI h (cm + 1) 1 = 2 → q_PW h (pg + 3) (cm + 2)) ∧ (2 ≤ vI h cm 5 → vI h (cm + 3) 1 = 2 → q_PW h (pg + 3) (cm + 4))) (s1 : 1 ≤ vI h pg 3) (hN : 100000 ≤ N) (H : ∀ y π1 h', q_U L W h0 π1 h' → (∀ a k, ¬ (a = (v0 + 2) ∧ k = 1) → ¬ (a = (v0 + 2) ∧ k = 2) → π1 a k = π a k) → (y = 0 ∨ y = 1) → (y = 1 → q_CV h' cm (pg + 3)) → (y = 1 → vI h' (pg + 3) 4 ≤ vI h' (v0 + 1) 1) → (∀ a k, ¬ ((a = cm ∧ k ≠ 5 ∧ k ≠ 7) ∨ a = cm + 5 ∨ a = v0 + 1 ∨ a = v0 + 2 ∨ a = pg + 3 ∨ (a = v0 ∧ k = 4)) → vI h' a k = vI h a k) → (y = 1 → (vI h' cm 3 = 123 → vI h' v0 4 = vI h v0 4 + 1 ∧ vI h v0 4 < 4 ∧ vA h' (v0 + 3) (vI h v0 4) = vI h pg 3 - 1) ∧ vI h v0 4 ≤ vI h' v0 4) → (∀ a j, 0 ≤ j → ¬ (a = pg + 3 + 1 ∨ a = pg + 3 + 2 ∨ a = v0 + 4 ∨ (a = v0 + 3 ∧ vI h v0 4 ≤ j)) → vA h' a j = vA h a j) → (∀ j, 0 ≤ j → j < vI h (pg + 3) 4 → vA h' (pg + 3 + 1) j = vA h (pg + 3 + 1) j ∧ vA h' (pg + 3 + 2) j = vA h (pg + 3 + 2) j) → (vI h (pg + 3) 4 ≤ vI h' (pg + 3) 4) → qk (f (y, h')) Q) : qk (z_b (f_Pa_readAction N v0 h) f) Q := by
  refine qk_b (p_Pa_readAction T kv0 kpg ppg kcm pcm ptx ppc wP wG hc1 hc2 z V2 s1 hN) ?_
  rintro ⟨y, hz⟩ ⟨π1, Tz, z0, g0, g1, g2, g3, g4, g5, g6, g7⟩
  exact H y π1 hz Tz z0 g0 g1 g2 g3 g4 g5 g6 g7
