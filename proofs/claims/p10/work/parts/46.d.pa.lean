set_option maxHeartbeats 8000000 in
theorem p_Pa_readAddresses {L : q_L} {W : Nat → Prop} {h0 : z_H} {π : Nat → Nat → Option Nat} {N : Nat} {pg : Nat} {cm : Nat} {h : z_H} {v0 : Nat} (T : q_U L W h0 π h) (kv0 : qκ L v0 = 7) (kpg : qκ L pg = 10) (ppg : π v0 5 = some pg) (kcm : qκ L cm = 2) (pcm : π v0 6 = some cm) (ptx : π (v0 + 1) 0 = some (pg + 1)) (ppc : π (v0 + 2) 0 = some (v0 + 1)) (wP : ∀ a, v0 ≤ a → a < v0 + 5 → W a) (wG : ∀ a, pg ≤ a → a < pg + 249 → W a) (hc1 : pg + 9 ≤ cm) (hc2 : cm + 6 ≤ pg + 249) (z : vI h (pg + 3) 4 ≤ vI h (v0 + 1) 1) (a5 : vI h cm 5 = 0) (hN : 100000 ≤ N) : qk (f_Pa_readAddresses N v0 h) (fun r => ∃ π1, q_U L W h0 π1 r.2 ∧ (∀ a k, ¬ (a = (v0 + 2) ∧ k = 1) → ¬ (a = (v0 + 2) ∧ k = 2) → π1 a k = π a k) ∧ (r.1 = 0 ∨ r.1 = 1) ∧ (r.1 = 1 → (1 ≤ vI r.2 cm 5 → vI r.2 (cm + 1) 1 = 2 → q_PW r.2 (pg + 3) (cm + 2)) ∧ (2 ≤ vI r.2 cm 5 → vI r.2 (cm + 3) 1 = 2 → q_PW r.2 (pg + 3) (cm + 4))) ∧ (r.1 = 1 → vI r.2 (pg + 3) 4 ≤ vI r.2 (v0 + 1) 1) ∧ (∀ a k, ¬ ((cm ≤ a ∧ a < cm + 5) ∨ a = v0 + 1 ∨ a = v0 + 2 ∨ a = pg + 3) → vI r.2 a k = vI h a k) ∧ (∀ a j, 0 ≤ j → ¬ (a = pg + 3 + 1 ∨ a = pg + 3 + 2) → vA r.2 a j = vA h a j) ∧ (∀ j, 0 ≤ j → j < vI h (pg + 3) 4 → vA r.2 (pg + 3 + 1) j = vA h (pg + 3 + 1) j ∧ vA r.2 (pg + 3 + 2) j = vA h (pg + 3 + 2) j) ∧ (vI h (pg + 3) 4 ≤ vI r.2 (pg + 3) 4)) := by
  obtain ⟨kcu, kpr, cpa1, cpa2, cpa3, cpa4, cpa5⟩ := q_CPa T kv0
  obtain ⟨ktx, ctx, kit, cpg1, cpg2, cpg3⟩ := q_CProg T kpg
  obtain ⟨kc1, kc3, kc5, cc9⟩ := q_CCmd T kcm
  have cit := q_CIt T kit
  unfold q_C_It at cit
  have tit := T.2.2.2.1 (pg + 3) 4
  rw [cit.1.1, cit.1.2] at tit
  unfold f_Pa_readAddresses
  refine r_Pa_0 T kv0 ?_
  intro kx1
  refine r_Cur_o T kx1 ?_
  refine c_Cur_look (v0 := (v0 + 1)) (v1 := 0) (tx := (pg + 1)) T kx1 ktx ptx (by first | with_reducible assumption | grind | grind (ematch := 40) (gen := 40) (splits := 40) | lia) (by first | with_reducible assumption | grind | grind (ematch := 40) (gen := 40) (splits := 40) | lia) (by first | with_reducible assumption | grind | grind (ematch := 40) (gen := 40) (splits := 40) | lia) ?_
  intro yr3 gr3_0 gr3_1 gr3_2 gr3_3 gr3_4
  simp only [Int32.add_zero] at gr3_2 gr3_3 gr3_4
  dsimp only
  refine c_Pa_startsAddress (v0 := (yr3)) T ?_
  intro yr4 gr4_0 gr4_1
  dsimp only
  refine qk_if (fun cc1 => ?_) (fun cc1 => ?_)
  · skip
    refine qk_mono (p_Pa_readAddresses_88 (v0 := v0) (pg := pg) (cm := cm) T kv0 kpg ppg kcm pcm ptx ppc (by first | with_reducible assumption | grind | grind (ematch := 40) (gen := 40) (splits := 40) | lia) (by first | with_reducible assumption | grind | grind (ematch := 40) (gen := 40) (splits := 40) | lia) (by first | with_reducible assumption | grind | grind (ematch := 40) (gen := 40) (splits := 40) | lia) (by first | with_reducible assumption | grind | grind (ematch := 40) (gen := 40) (splits := 40) | lia) (by first | with_reducible assumption | grind | grind (ematch := 40) (gen := 40) (splits := 40) | lia) (by exact ⟨fun b1 => absurd b1 (by first | grind | grind (splits := 30)), fun b1 => absurd b1 (by first | grind | grind (splits := 30))⟩) (by first | with_reducible assumption | grind | grind (ematch := 40) (gen := 40) (splits := 40) | lia)) ?_
    rintro ⟨y, hz⟩ ⟨Tz, g0, g1, g2, g3, g4⟩
    try dsimp only at *
    exact ⟨_, Tz, (by first | with_reducible assumption | grind | grind (ematch := 40) (gen := 40) (splits := 40) | lia), (by first | with_reducible assumption | grind | grind (ematch := 40) (gen := 40) (splits := 40) | lia), (by intro yy; exact g1 yy), (by first | with_reducible assumption | grind | grind (ematch := 40) (gen := 40) (splits := 40) | lia), (by first | with_reducible assumption | grind | grind (ematch := 40) (gen := 40) (splits := 40) | lia), (by first | with_reducible assumption | grind | grind (ematch := 40) (gen := 40) (splits := 40) | lia), (by first | with_reducible assumption | grind | grind (ematch := 40) (gen := 40) (splits := 40) | lia), (by first | with_reducible assumption | grind | grind (ematch := 40) (gen := 40) (splits := 40) | lia)⟩
  · skip
    refine r_Pa_6 T kv0 pcm ?_
    refine r_Cmd_0 T kcm ?_
    intro kx7
    refine r_Pa_o T kv0 ?_
    refine c_Pa_readAddress (v0 := v0) (v1 := (cm + 1)) (pg := pg) T kv0 kx7 kpg ppg ptx ppc (by first | with_reducible assumption | grind | grind (ematch := 40) (gen := 40) (splits := 40) | lia) (by first | with_reducible assumption | grind | grind (ematch := 40) (gen := 40) (splits := 40) | lia) (by first | with_reducible assumption | grind | grind (ematch := 40) (gen := 40) (splits := 40) | lia) (by first | with_reducible assumption | grind | grind (ematch := 40) (gen := 40) (splits := 40) | lia) (by first | with_reducible assumption | grind | grind (ematch := 40) (gen := 40) (splits := 40) | lia) (by first | with_reducible assumption | grind | grind (ematch := 40) (gen := 40) (splits := 40) | lia) ?_
    intro yr9 πr9 hr9 Tr9 zr9  gr9_0 gr9_1 gr9_2 gr9_3 gr9_4 gr9_5 gr9_6
    have ppg_r9 : πr9 v0 5 = some pg := by rw [zr9 v0 5 (by grind) (by grind)]; exact ppg
    have pcm_r9 : πr9 v0 6 = some cm := by rw [zr9 v0 6 (by grind) (by grind)]; exact pcm
    have ptx_r9 : πr9 (v0 + 1) 0 = some (pg + 1) := by rw [zr9 (v0 + 1) 0 (by grind) (by grind)]; exact ptx
    have ppc_r9 : πr9 (v0 + 2) 0 = some (v0 + 1) := by rw [zr9 (v0 + 2) 0 (by grind) (by grind)]; exact ppc
    dsimp only
    refine qk_if (fun cc3 => ?_) (fun cc3 => ?_)
    · skip
      refine qk_some ?_
      exact ⟨_, Tr9, (by first | with_reducible assumption | grind | grind (ematch := 40) (gen := 40) (splits := 40) | lia), (by first | with_reducible assumption | grind | grind (ematch := 40) (gen := 40) (splits := 40) | lia), (by intro yy; exact absurd (show (0 : Int32) = 1 from yy) (by decide)), (by first | with_reducible assumption | grind | grind (ematch := 40) (gen := 40) (splits := 40) | lia), (by first | with_reducible assumption | grind | grind (ematch := 40) (gen := 40) (splits := 40) | lia), (by first | with_reducible assumption | grind | grind (ematch := 40) (gen := 40) (splits := 40) | lia), (by first | with_reducible assumption | grind | grind (ematch := 40) (gen := 40) (splits := 40) | lia), (by first | with_reducible assumption | grind | grind (ematch := 40) (gen := 40) (splits := 40) | lia)⟩
    · skip
      refine r_Pa_6 Tr9 kv0 pcm_r9 ?_
      refine w_Cmd_5 Tr9 kcm (by first | with_reducible assumption | grind | grind (ematch := 40) (gen := 40) (splits := 40) | lia) (by first | with_reducible assumption | grind | grind (ematch := 40) (gen := 40) (splits := 40) | lia) (by first | with_reducible assumption | grind | grind (ematch := 40) (gen := 40) (splits := 40) | lia) ?_
      intro h12 Th12 ih12 ah12
      refine r_Pa_0 Th12 kv0 ?_
      intro kx13
      refine r_Cur_o Th12 kx13 ?_
      refine c_Cur_look (v0 := (v0 + 1)) (v1 := 0) (tx := (pg + 1)) Th12 kx13 ktx ptx_r9 (by first | with_reducible assumption | grind | grind (ematch := 40) (gen := 40) (splits := 40) | lia) (by first | with_reducible assumption | grind | grind (ematch := 40) (gen := 40) (splits := 40) | lia) (by first | with_reducible assumption | grind | grind (ematch := 40) (gen := 40) (splits := 40) | lia) ?_
      intro yr15 gr15_0 gr15_1 gr15_2 gr15_3 gr15_4
      simp only [Int32.add_zero] at gr15_2 gr15_3 gr15_4
      dsimp only
      refine qk_if (fun cc4 => ?_) (fun cc4 => ?_)
      · skip
        refine r_Pa_0 Th12 kv0 ?_
        intro kx17
        refine r_Cur_1 Th12 kx17 ?_
        intro x18 ex18 lx18 ux18
        subst ex18
        refine w_Cur_1 Th12 kx17 (by first | with_reducible assumption | grind | grind (ematch := 40) (gen := 40) (splits := 40) | lia) (q_inc01 (Th12.2.2.2.1 _ 1) (q_CCur Th12 kx17)) (by first | exact q_inc1 (by first | with_reducible assumption | grind -lia | grind) (q_inc00 (Th12.2.2.2.1 _ 1) (q_CCur Th12 kx17)) | exact q_inc1b (by first | with_reducible assumption | grind -lia | grind) (q_inc00 (Th12.2.2.2.1 _ 1) (q_CCur Th12 kx17))) ?_
        intro h19 Th19 ih19 ah19
        refine r_Pa_6 Th19 kv0 pcm_r9 ?_
        refine r_Cmd_1 Th19 kcm ?_
        intro kx21
        refine r_Pa_o Th19 kv0 ?_
        refine c_Pa_readAddress (v0 := v0) (v1 := (cm + 3)) (pg := pg) Th19 kv0 kx21 kpg ppg_r9 ptx_r9 ppc_r9 (by first | with_reducible assumption | grind | grind (ematch := 40) (gen := 40) (splits := 40) | lia) (by first | with_reducible assumption | grind | grind (ematch := 40) (gen := 40) (splits := 40) | lia) (by first | with_reducible assumption | grind | grind (ematch := 40) (gen := 40) (splits := 40) | lia) (by first | with_reducible assumption | grind | grind (ematch := 40) (gen := 40) (splits := 40) | lia) (by first | with_reducible assumption | grind | grind (ematch := 40) (gen := 40) (splits := 40) | lia) (by first | with_reducible assumption | grind | grind (ematch := 40) (gen := 40) (splits := 40) | lia) ?_
        intro yr23 πr23 hr23 Tr23 zr23  gr23_0 gr23_1 gr23_2 gr23_3 gr23_4 gr23_5 gr23_6
        have ppg_r23 : πr23 v0 5 = some pg := by rw [zr23 v0 5 (by grind) (by grind)]; exact ppg_r9
        have pcm_r23 : πr23 v0 6 = some cm := by rw [zr23 v0 6 (by grind) (by grind)]; exact pcm_r9
        have ptx_r23 : πr23 (v0 + 1) 0 = some (pg + 1) := by rw [zr23 (v0 + 1) 0 (by grind) (by grind)]; exact ptx_r9
        have ppc_r23 : πr23 (v0 + 2) 0 = some (v0 + 1) := by rw [zr23 (v0 + 2) 0 (by grind) (by grind)]; exact ppc_r9
        dsimp only
        refine qk_if (fun cc5 => ?_) (fun cc5 => ?_)
        · skip
          refine qk_some ?_
          exact ⟨_, Tr23, (by first | with_reducible assumption | grind | grind (ematch := 40) (gen := 40) (splits := 40) | lia), (by first | with_reducible assumption | grind | grind (ematch := 40) (gen := 40) (splits := 40) | lia), (by intro yy; exact absurd (show (0 : Int32) = 1 from yy) (by decide)), (by first | with_reducible assumption | grind | grind (ematch := 40) (gen := 40) (splits := 40) | lia), (by first | with_reducible assumption | grind | grind (ematch := 40) (gen := 40) (splits := 40) | lia), (by first | with_reducible assumption | grind | grind (ematch := 40) (gen := 40) (splits := 40) | lia), (by first | with_reducible assumption | grind | grind (ematch := 40) (gen := 40) (splits := 40) | lia), (by first | with_reducible assumption | grind | grind (ematch := 40) (gen := 40) (splits := 40) | lia)⟩
        · skip
          refine r_Pa_6 Tr23 kv0 pcm_r23 ?_
          refine w_Cmd_5 Tr23 kcm (by first | with_reducible assumption | grind | grind (ematch := 40) (gen := 40) (splits := 40) | lia) (by first | with_reducible assumption | grind | grind (ematch := 40) (gen := 40) (splits := 40) | lia) (by first | with_reducible assumption | grind | grind (ematch := 40) (gen := 40) (splits := 40) | lia) ?_
          intro h26 Th26 ih26 ah26
          refine qk_mono (p_Pa_readAddresses_88 (v0 := v0) (pg := pg) (cm := cm) Th26 kv0 kpg ppg_r23 kcm pcm_r23 ptx_r23 ppc_r23 (by first | with_reducible assumption | grind | grind (ematch := 40) (gen := 40) (splits := 40) | lia) (by first | with_reducible assumption | grind | grind (ematch := 40) (gen := 40) (splits := 40) | lia) (by first | with_reducible assumption | grind | grind (ematch := 40) (gen := 40) (splits := 40) | lia) (by first | with_reducible assumption | grind | grind (ematch := 40) (gen := 40) (splits := 40) | lia) (by first | with_reducible assumption | grind | grind (ematch := 40) (gen := 40) (splits := 40) | lia) (by exact ⟨fun b1 b2 => q_PW_eq (gr9_1 (by first | grind | grind (splits := 30)) (by first | grind | grind (splits := 30))) (by first | grind | grind (splits := 30)) (by first | grind | grind (splits := 30)) (by first | grind | grind (splits := 30)), fun b1 b2 => q_PW_eq (gr23_1 (by first | grind | grind (splits := 30)) (by first | grind | grind (splits := 30))) (by first | grind | grind (splits := 30)) (by first | grind | grind (splits := 30)) (by first | grind | grind (splits := 30))⟩) (by first | with_reducible assumption | grind | grind (ematch := 40) (gen := 40) (splits := 40) | lia)) ?_
          rintro ⟨y, hz⟩ ⟨Tz, g0, g1, g2, g3, g4⟩
          try dsimp only at *
          exact ⟨_, Tz, (by first | with_reducible assumption | grind | grind (ematch := 40) (gen := 40) (splits := 40) | lia), (by first | with_reducible assumption | grind | grind (ematch := 40) (gen := 40) (splits := 40) | lia), (by intro yy; exact g1 yy), (by first | with_reducible assumption | grind | grind (ematch := 40) (gen := 40) (splits := 40) | lia), (by first | with_reducible assumption | grind | grind (ematch := 40) (gen := 40) (splits := 40) | lia), (by first | with_reducible assumption | grind | grind (ematch := 40) (gen := 40) (splits := 40) | lia), (by first | with_reducible assumption | grind | grind (ematch := 40) (gen := 40) (splits := 40) | lia), (by first | with_reducible assumption | grind | grind (ematch := 40) (gen := 40) (splits := 40) | lia)⟩
      · skip
        refine qk_mono (p_Pa_readAddresses_88 (v0 := v0) (pg := pg) (cm := cm) Th12 kv0 kpg ppg_r9 kcm pcm_r9 ptx_r9 ppc_r9 (by first | with_reducible assumption | grind | grind (ematch := 40) (gen := 40) (splits := 40) | lia) (by first | with_reducible assumption | grind | grind (ematch := 40) (gen := 40) (splits := 40) | lia) (by first | with_reducible assumption | grind | grind (ematch := 40) (gen := 40) (splits := 40) | lia) (by first | with_reducible assumption | grind | grind (ematch := 40) (gen := 40) (splits := 40) | lia) (by first | with_reducible assumption | grind | grind (ematch := 40) (gen := 40) (splits := 40) | lia) (by exact ⟨fun b1 b2 => q_PW_eq (gr9_1 (by first | grind | grind (splits := 30)) (by first | grind | grind (splits := 30))) (by first | grind | grind (splits := 30)) (by first | grind | grind (splits := 30)) (by first | grind | grind (splits := 30)), fun b1 => absurd b1 (by first | grind | grind (splits := 30))⟩) (by first | with_reducible assumption | grind | grind (ematch := 40) (gen := 40) (splits := 40) | lia)) ?_
        rintro ⟨y, hz⟩ ⟨Tz, g0, g1, g2, g3, g4⟩
        try dsimp only at *
        exact ⟨_, Tz, (by first | with_reducible assumption | grind | grind (ematch := 40) (gen := 40) (splits := 40) | lia), (by first | with_reducible assumption | grind | grind (ematch := 40) (gen := 40) (splits := 40) | lia), (by intro yy; exact g1 yy), (by first | with_reducible assumption | grind | grind (ematch := 40) (gen := 40) (splits := 40) | lia), (by first | with_reducible assumption | grind | grind (ematch := 40) (gen := 40) (splits := 40) | lia), (by first | with_reducible assumption | grind | grind (ematch := 40) (gen := 40) (splits := 40) | lia), (by first | with_reducible assumption | grind | grind (ematch := 40) (gen := 40) (splits := 40) | lia), (by first | with_reducible assumption | grind | grind (ematch := 40) (gen := 40) (splits := 40) | lia)⟩
theorem c_Pa_readAddresses {L : q_L} {W : Nat → Prop} {h0 : z_H} {π : Nat → Nat → Option Nat} {N : Nat} {pg : Nat} {cm : Nat} {h : z_H} {v0 : Nat} {β : Type} {f : Int32 × z_H → Option β} {Q : β → Prop} (T : q_U L W h0 π h) (kv0 : qκ L v0 = 7) (kpg : qκ L pg = 10) (ppg : π v0 5 = some pg) (kcm : qκ L cm = 2) (pcm : π v0 6 = some cm) (ptx : π (v0 + 1) 0 = some (pg + 1)) (ppc : π (v0 + 2) 0 = some (v0 + 1)) (wP : ∀ a, v0 ≤ a → a < v0 + 5 → W a) (wG : ∀ a, pg ≤ a → a < pg + 249 → W a) (hc1 : pg + 9 ≤ cm) (hc2 : cm + 6 ≤ pg + 249) (z : vI h (pg + 3) 4 ≤ vI h (v0 + 1) 1) (a5 : vI h cm 5 = 0) (hN : 100000 ≤ N) (H : ∀ y π1 h', q_U L W h0 π1 h' → (∀ a k, ¬ (a = (v0 + 2) ∧ k = 1) → ¬ (a = (v0 + 2) ∧ k = 2) → π1 a k = π a k) → (y = 0 ∨ y = 1) → (y = 1 → (1 ≤ vI h' cm 5 → vI h' (cm + 1) 1 = 2 → q_PW h' (pg + 3) (cm + 2)) ∧ (2 ≤ vI h' cm 5 → vI h' (cm + 3) 1 = 2 → q_PW h' (pg + 3) (cm + 4))) → (y = 1 → vI h' (pg + 3) 4 ≤ vI h' (v0 + 1) 1) → (∀ a k, ¬ ((cm ≤ a ∧ a < cm + 5) ∨ a = v0 + 1 ∨ a = v0 + 2 ∨ a = pg + 3) → vI h' a k = vI h a k) → (∀ a j, 0 ≤ j → ¬ (a = pg + 3 + 1 ∨ a = pg + 3 + 2) → vA h' a j = vA h a j) → (∀ j, 0 ≤ j → j < vI h (pg + 3) 4 → vA h' (pg + 3 + 1) j = vA h (pg + 3 + 1) j ∧ vA h' (pg + 3 + 2) j = vA h (pg + 3 + 2) j) → (vI h (pg + 3) 4 ≤ vI h' (pg + 3) 4) → qk (f (y, h')) Q) : qk (z_b (f_Pa_readAddresses N v0 h) f) Q := by
  refine qk_b (p_Pa_readAddresses T kv0 kpg ppg kcm pcm ptx ppc wP wG hc1 hc2 z a5 hN) ?_
  rintro ⟨y, hz⟩ ⟨π1, Tz, z0, g0, g1, g2, g3, g4, g5, g6⟩
  exact H y π1 hz Tz z0 g0 g1 g2 g3 g4 g5 g6
