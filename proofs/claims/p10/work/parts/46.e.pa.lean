set_option maxHeartbeats 8000000 in
theorem p_Pa_readSubstitution {L : q_L} {W : Nat → Prop} {h0 : z_H} {π : Nat → Nat → Option Nat} {N : Nat} {pg : Nat} {cm : Nat} {h : z_H} {v0 : Nat} (T : q_U L W h0 π h) (kv0 : qκ L v0 = 7) (kpg : qκ L pg = 10) (ppg : π v0 5 = some pg) (kcm : qκ L cm = 2) (pcm : π v0 6 = some cm) (ptx : π (v0 + 1) 0 = some (pg + 1)) (ppc : π (v0 + 2) 0 = some (v0 + 1)) (wP : ∀ a, v0 ≤ a → a < v0 + 5 → W a) (wG : ∀ a, pg ≤ a → a < pg + 249 → W a) (hc1 : pg + 9 ≤ cm) (hc2 : cm + 6 ≤ pg + 249) (hat : vI h (v0 + 1) 1 < 240) (z : vI h (pg + 3) 4 ≤ vI h (v0 + 1) 1) (hN : 100000 ≤ N) : qk (f_Pa_readSubstitution N v0 h) (fun r => ∃ π1, q_U L W h0 π1 r.2 ∧ (∀ a k, ¬ (a = (v0 + 2) ∧ k = 1) → ¬ (a = (v0 + 2) ∧ k = 2) → π1 a k = π a k) ∧ (r.1 = 0 ∨ r.1 = 1) ∧ (r.1 = 1 → q_PW r.2 (pg + 3) (cm + 5)) ∧ (r.1 = 1 → vI r.2 (pg + 3) 4 ≤ vI r.2 (v0 + 1) 1) ∧ (∀ a k, ¬ ((a = cm ∧ (k = 9 ∨ k = 10 ∨ k = 12 ∨ k = 13 ∨ k = 14)) ∨ a = cm + 5 ∨ a = v0 + 1 ∨ a = v0 + 2 ∨ a = pg + 3) → vI r.2 a k = vI h a k) ∧ (∀ a j, 0 ≤ j → ¬ (a = pg + 3 + 1 ∨ a = pg + 3 + 2) → vA r.2 a j = vA h a j) ∧ (∀ j, 0 ≤ j → j < vI h (pg + 3) 4 → vA r.2 (pg + 3 + 1) j = vA h (pg + 3 + 1) j ∧ vA r.2 (pg + 3 + 2) j = vA h (pg + 3 + 2) j) ∧ (vI h (pg + 3) 4 ≤ vI r.2 (pg + 3) 4)) := by
  obtain ⟨kcu, kpr, cpa1, cpa2, cpa3, cpa4, cpa5⟩ := q_CPa T kv0
  obtain ⟨ktx, ctx, kit, cpg1, cpg2, cpg3⟩ := q_CProg T kpg
  obtain ⟨kc1, kc3, kc5, cc9⟩ := q_CCmd T kcm
  have cit := q_CIt T kit
  unfold q_C_It at cit
  have tit := T.2.2.2.1 (pg + 3) 4
  rw [cit.1.1, cit.1.2] at tit
  unfold f_Pa_readSubstitution
  refine r_Pa_0 T kv0 ?_
  intro kx1
  refine r_Cur_1 T kx1 ?_
  intro x2 ex2 lx2 ux2
  subst ex2
  refine w_Cur_1 T kx1 (by first | with_reducible assumption | grind | grind (ematch := 40) (gen := 40) (splits := 40) | lia) (q_inc01 (T.2.2.2.1 _ 1) (q_CCur T kx1)) (by first | exact q_inc1 (by first | with_reducible assumption | grind -lia | grind) (q_inc00 (T.2.2.2.1 _ 1) (q_CCur T kx1)) | exact q_inc1b (by first | with_reducible assumption | grind -lia | grind) (q_inc00 (T.2.2.2.1 _ 1) (q_CCur T kx1))) ?_
  intro h3 Th3 ih3 ah3
  refine r_Pa_0 Th3 kv0 ?_
  intro kx4
  refine r_Cur_o Th3 kx4 ?_
  refine c_Cur_pass (v0 := (v0 + 1)) (v1 := 47) (tx := (pg + 1)) Th3 kx4 ktx ptx (by first | with_reducible assumption | grind | grind (ematch := 40) (gen := 40) (splits := 40) | lia) (by first | with_reducible assumption | grind | grind (ematch := 40) (gen := 40) (splits := 40) | lia) (by first | with_reducible assumption | grind | grind (ematch := 40) (gen := 40) (splits := 40) | lia) ?_
  intro yr6 hr6 Tr6 gr6_0 gr6_1 gr6_2 gr6_3 gr6_4 gr6_5 gr6_6
  dsimp only
  refine qk_if (fun cc1 => ?_) (fun cc1 => ?_)
  · skip
    refine qk_some ?_
    exact ⟨_, Tr6, (by first | with_reducible assumption | grind | grind (ematch := 40) (gen := 40) (splits := 40) | lia), (by first | with_reducible assumption | grind | grind (ematch := 40) (gen := 40) (splits := 40) | lia), (by first | with_reducible assumption | (intro yy; first | (exact absurd yy (by grind)) | exact q_PW_eq ⟨gr14_1 (by grind), gr14_3 (by grind)⟩ (by grind) (by grind) (by grind)) | grind), (by first | with_reducible assumption | grind | grind (ematch := 40) (gen := 40) (splits := 40) | lia), (by first | with_reducible assumption | grind | grind (ematch := 40) (gen := 40) (splits := 40) | lia), (by first | with_reducible assumption | grind | grind (ematch := 40) (gen := 40) (splits := 40) | lia), (by first | with_reducible assumption | grind | grind (ematch := 40) (gen := 40) (splits := 40) | lia), (by first | with_reducible assumption | grind | grind (ematch := 40) (gen := 40) (splits := 40) | lia)⟩
  · skip
    refine r_Pa_1 Tr6 kv0 ?_
    intro kx8
    refine r_Pa_6 Tr6 kv0 pcm ?_
    refine r_Cmd_2 Tr6 kcm ?_
    intro kx10
    refine r_Pa_5 Tr6 kv0 ppg ?_
    refine r_Prog_1 Tr6 kpg ?_
    intro kx12
    refine r_Pr_o Tr6 kx8 ?_
    refine c_Pr_read (v0 := (v0 + 2)) (v1 := (cm + 5)) (v2 := (pg + 3)) (cu := (v0 + 1)) (tx := (pg + 1)) Tr6 kx8 kx10 kx12 kx4 ppc ktx ptx (by first | with_reducible assumption | grind | grind (ematch := 40) (gen := 40) (splits := 40) | lia) (by first | with_reducible assumption | grind | grind (ematch := 40) (gen := 40) (splits := 40) | lia) (by first | with_reducible assumption | grind | grind (ematch := 40) (gen := 40) (splits := 40) | lia) (by first | with_reducible assumption | grind | grind (ematch := 40) (gen := 40) (splits := 40) | lia) (by first | with_reducible assumption | grind | grind (ematch := 40) (gen := 40) (splits := 40) | lia) (by first | with_reducible assumption | grind | grind (ematch := 40) (gen := 40) (splits := 40) | lia) (by first | with_reducible assumption | grind | grind (ematch := 40) (gen := 40) (splits := 40) | lia) (by first | with_reducible assumption | grind | grind (ematch := 40) (gen := 40) (splits := 40) | lia) (by first | with_reducible assumption | grind | grind (ematch := 40) (gen := 40) (splits := 40) | lia) (by exact q_zc (s := vI h (pg + 3) 4) (a := vI h (v0 + 1) 1) (b := vI h3 (v0 + 1) 1) tit.1 (by grind) z hat (by grind) (by grind) (by grind)) (by first | with_reducible assumption | grind | grind (ematch := 40) (gen := 40) (splits := 40) | lia) ?_
    intro yr14 πr14 hr14 Tr14 zr14 zr14_0 zr14_1 gr14_0 gr14_1 gr14_2 gr14_3 gr14_4 gr14_5 gr14_6 gr14_7
    have ppg_r14 : πr14 v0 5 = some pg := by rw [zr14 v0 5 (by grind) (by grind)]; exact ppg
    have pcm_r14 : πr14 v0 6 = some cm := by rw [zr14 v0 6 (by grind) (by grind)]; exact pcm
    have ptx_r14 : πr14 (v0 + 1) 0 = some (pg + 1) := by rw [zr14 (v0 + 1) 0 (by grind) (by grind)]; exact ptx
    have ppc_r14 : πr14 (v0 + 2) 0 = some (v0 + 1) := by rw [zr14 (v0 + 2) 0 (by grind) (by grind)]; exact ppc
    dsimp only
    refine qk_if (fun cc2 => ?_) (fun cc2 => ?_)
    · skip
      refine qk_some ?_
      exact ⟨_, Tr14, (by first | with_reducible assumption | grind | grind (ematch := 40) (gen := 40) (splits := 40) | lia), (by first | with_reducible assumption | grind | grind (ematch := 40) (gen := 40) (splits := 40) | lia), (by first | with_reducible assumption | (intro yy; first | (exact absurd yy (by grind)) | exact q_PW_eq ⟨gr14_1 (by grind), gr14_3 (by grind)⟩ (by grind) (by grind) (by grind)) | grind), (by first | with_reducible assumption | grind | grind (ematch := 40) (gen := 40) (splits := 40) | lia), (by first | with_reducible assumption | grind | grind (ematch := 40) (gen := 40) (splits := 40) | lia), (by first | with_reducible assumption | grind | grind (ematch := 40) (gen := 40) (splits := 40) | lia), (by first | with_reducible assumption | grind | grind (ematch := 40) (gen := 40) (splits := 40) | lia), (by first | with_reducible assumption | grind | grind (ematch := 40) (gen := 40) (splits := 40) | lia)⟩
    · skip
      refine r_Pa_o Tr14 kv0 ?_
      refine c_Pa_readReplacement (v0 := v0) (pg := pg) (cm := cm) Tr14 kv0 kpg ppg_r14 kcm pcm_r14 ptx_r14 (by first | with_reducible assumption | grind | grind (ematch := 40) (gen := 40) (splits := 40) | lia) (by first | with_reducible assumption | grind | grind (ematch := 40) (gen := 40) (splits := 40) | lia) (by first | with_reducible assumption | grind | grind (ematch := 40) (gen := 40) (splits := 40) | lia) (by first | with_reducible assumption | grind | grind (ematch := 40) (gen := 40) (splits := 40) | lia) (by first | with_reducible assumption | grind | grind (ematch := 40) (gen := 40) (splits := 40) | lia) ?_
      intro yr17 hr17 Tr17 gr17_0 gr17_1 gr17_2 gr17_3
      dsimp only
      refine qk_if (fun cc3 => ?_) (fun cc3 => ?_)
      · skip
        refine qk_some ?_
        exact ⟨_, Tr17, (by first | with_reducible assumption | grind | grind (ematch := 40) (gen := 40) (splits := 40) | lia), (by first | with_reducible assumption | grind | grind (ematch := 40) (gen := 40) (splits := 40) | lia), (by first | with_reducible assumption | (intro yy; first | (exact absurd yy (by grind)) | exact q_PW_eq ⟨gr14_1 (by grind), gr14_3 (by grind)⟩ (by grind) (by grind) (by grind)) | grind), (by first | with_reducible assumption | grind | grind (ematch := 40) (gen := 40) (splits := 40) | lia), (by first | with_reducible assumption | grind | grind (ematch := 40) (gen := 40) (splits := 40) | lia), (by first | with_reducible assumption | grind | grind (ematch := 40) (gen := 40) (splits := 40) | lia), (by first | with_reducible assumption | grind | grind (ematch := 40) (gen := 40) (splits := 40) | lia), (by first | with_reducible assumption | grind | grind (ematch := 40) (gen := 40) (splits := 40) | lia)⟩
      · skip
        refine r_Pa_o Tr17 kv0 ?_
        refine c_Pa_readFlags (v0 := v0) (pg := pg) (cm := cm) Tr17 kv0 kpg ppg_r14 kcm pcm_r14 ptx_r14 (by first | with_reducible assumption | grind | grind (ematch := 40) (gen := 40) (splits := 40) | lia) (by first | with_reducible assumption | grind | grind (ematch := 40) (gen := 40) (splits := 40) | lia) (by first | with_reducible assumption | grind | grind (ematch := 40) (gen := 40) (splits := 40) | lia) (by first | with_reducible assumption | grind | grind (ematch := 40) (gen := 40) (splits := 40) | lia) (by first | with_reducible assumption | grind | grind (ematch := 40) (gen := 40) (splits := 40) | lia) ?_
        intro yr20 hr20 Tr20 gr20_0 gr20_1 gr20_2 gr20_3
        dsimp only
        refine qk_if (fun cc4 => ?_) (fun cc4 => ?_)
        · skip
          refine qk_some ?_
          exact ⟨_, Tr20, (by first | with_reducible assumption | grind | grind (ematch := 40) (gen := 40) (splits := 40) | lia), (by first | with_reducible assumption | grind | grind (ematch := 40) (gen := 40) (splits := 40) | lia), (by first | with_reducible assumption | (intro yy; first | (exact absurd yy (by grind)) | exact q_PW_eq ⟨gr14_1 (by grind), gr14_3 (by grind)⟩ (by grind) (by grind) (by grind)) | grind), (by first | with_reducible assumption | grind | grind (ematch := 40) (gen := 40) (splits := 40) | lia), (by first | with_reducible assumption | grind | grind (ematch := 40) (gen := 40) (splits := 40) | lia), (by first | with_reducible assumption | grind | grind (ematch := 40) (gen := 40) (splits := 40) | lia), (by first | with_reducible assumption | grind | grind (ematch := 40) (gen := 40) (splits := 40) | lia), (by first | with_reducible assumption | grind | grind (ematch := 40) (gen := 40) (splits := 40) | lia)⟩
        · skip
          refine qk_some ?_
          exact ⟨_, Tr20, (by first | with_reducible assumption | grind | grind (ematch := 40) (gen := 40) (splits := 40) | lia), (by first | with_reducible assumption | grind | grind (ematch := 40) (gen := 40) (splits := 40) | lia), (by first | with_reducible assumption | (intro yy; first | (exact absurd yy (by grind)) | exact q_PW_eq ⟨gr14_1 (by grind), gr14_3 (by grind)⟩ (by grind) (by grind) (by grind)) | grind), (by first | with_reducible assumption | grind | grind (ematch := 40) (gen := 40) (splits := 40) | lia), (by first | with_reducible assumption | grind | grind (ematch := 40) (gen := 40) (splits := 40) | lia), (by first | with_reducible assumption | grind | grind (ematch := 40) (gen := 40) (splits := 40) | lia), (by first | with_reducible assumption | grind | grind (ematch := 40) (gen := 40) (splits := 40) | lia), (by first | with_reducible assumption | grind | grind (ematch := 40) (gen := 40) (splits := 40) | lia)⟩
theorem c_Pa_readSubstitution {L : q_L} {W : Nat → Prop} {h0 : z_H} {π : Nat → Nat → Option Nat} {N : Nat} {pg : Nat} {cm : Nat} {h : z_H} {v0 : Nat} {β : Type} {f : Int32 × z_H → Option β} {Q : β → Prop} (T : q_U L W h0 π h) (kv0 : qκ L v0 = 7) (kpg : qκ L pg = 10) (ppg : π v0 5 = some pg) (kcm : qκ L cm = 2) (pcm : π v0 6 = some cm) (ptx : π (v0 + 1) 0 = some (pg + 1)) (ppc : π (v0 + 2) 0 = some (v0 + 1)) (wP : ∀ a, v0 ≤ a → a < v0 + 5 → W a) (wG : ∀ a, pg ≤ a → a < pg + 249 → W a) (hc1 : pg + 9 ≤ cm) (hc2 : cm + 6 ≤ pg + 249) (hat : vI h (v0 + 1) 1 < 240) (z : vI h (pg + 3) 4 ≤ vI h (v0 + 1) 1) (hN : 100000 ≤ N) (H : ∀ y π1 h', q_U L W h0 π1 h' → (∀ a k, ¬ (a = (v0 + 2) ∧ k = 1) → ¬ (a = (v0 + 2) ∧ k = 2) → π1 a k = π a k) → (y = 0 ∨ y = 1) → (y = 1 → q_PW h' (pg + 3) (cm + 5)) → (y = 1 → vI h' (pg + 3) 4 ≤ vI h' (v0 + 1) 1) → (∀ a k, ¬ ((a = cm ∧ (k = 9 ∨ k = 10 ∨ k = 12 ∨ k = 13 ∨ k = 14)) ∨ a = cm + 5 ∨ a = v0 + 1 ∨ a = v0 + 2 ∨ a = pg + 3) → vI h' a k = vI h a k) → (∀ a j, 0 ≤ j → ¬ (a = pg + 3 + 1 ∨ a = pg + 3 + 2) → vA h' a j = vA h a j) → (∀ j, 0 ≤ j → j < vI h (pg + 3) 4 → vA h' (pg + 3 + 1) j = vA h (pg + 3 + 1) j ∧ vA h' (pg + 3 + 2) j = vA h (pg + 3 + 2) j) → (vI h (pg + 3) 4 ≤ vI h' (pg + 3) 4) → qk (f (y, h')) Q) : qk (z_b (f_Pa_readSubstitution N v0 h) f) Q := by
  refine qk_b (p_Pa_readSubstitution T kv0 kpg ppg kcm pcm ptx ppc wP wG hc1 hc2 hat z hN) ?_
  rintro ⟨y, hz⟩ ⟨π1, Tz, z0, g0, g1, g2, g3, g4, g5, g6⟩
  exact H y π1 hz Tz z0 g0 g1 g2 g3 g4 g5 g6
