set_option maxHeartbeats 4000000 in
theorem p_Pa_readAddresses_88 {L : q_L} {W : Nat → Prop} {h0 : z_H} {π : Nat → Nat → Option Nat} {N : Nat} {pg : Nat} {cm : Nat} {h : z_H} {v0 : Nat} (T : q_U L W h0 π h) (kv0 : qκ L v0 = 7) (kpg : qκ L pg = 10) (ppg : π v0 5 = some pg) (kcm : qκ L cm = 2) (pcm : π v0 6 = some cm) (ptx : π (v0 + 1) 0 = some (pg + 1)) (ppc : π (v0 + 2) 0 = some (v0 + 1)) (wP : ∀ a, v0 ≤ a → a < v0 + 5 → W a) (wG : ∀ a, pg ≤ a → a < pg + 249 → W a) (hc1 : pg + 9 ≤ cm) (hc2 : cm + 6 ≤ pg + 249) (z : vI h (pg + 3) 4 ≤ vI h (v0 + 1) 1) (V2 : (1 ≤ vI h cm 5 → vI h (cm + 1) 1 = 2 → q_PW h (pg + 3) (cm + 2)) ∧ (2 ≤ vI h cm 5 → vI h (cm + 3) 1 = 2 → q_PW h (pg + 3) (cm + 4))) (hN : 100000 ≤ N) : qk (f_Pa_readAddresses_88 N v0 h) (fun r => q_U L W h0 π r.2 ∧ (r.1 = 1) ∧ (r.1 = 1 → (1 ≤ vI r.2 cm 5 → vI r.2 (cm + 1) 1 = 2 → q_PW r.2 (pg + 3) (cm + 2)) ∧ (2 ≤ vI r.2 cm 5 → vI r.2 (cm + 3) 1 = 2 → q_PW r.2 (pg + 3) (cm + 4))) ∧ (r.1 = 1 → vI r.2 (pg + 3) 4 ≤ vI r.2 (v0 + 1) 1) ∧ (∀ a k, ¬ ((a = cm ∧ k = 6) ∨ (a = v0 + 1 ∧ k = 1)) → vI r.2 a k = vI h a k) ∧ (∀ a j, vA r.2 a j = vA h a j)) := by
  obtain ⟨kcu, kpr, cpa1, cpa2, cpa3, cpa4, cpa5⟩ := q_CPa T kv0
  obtain ⟨ktx, ctx, kit, cpg1, cpg2, cpg3⟩ := q_CProg T kpg
  obtain ⟨kc1, kc3, kc5, cc9⟩ := q_CCmd T kcm
  have cit := q_CIt T kit
  unfold q_C_It at cit
  have tit := T.2.2.2.1 (pg + 3) 4
  rw [cit.1.1, cit.1.2] at tit
  unfold f_Pa_readAddresses_88
  refine r_Pa_o T kv0 ?_
  refine c_Pa_passBlanks (v0 := v0) (pg := pg) T kv0 kpg ppg ptx (by first | with_reducible assumption | grind | grind (ematch := 40) (gen := 40) (splits := 40) | lia) (by first | with_reducible assumption | grind | grind (ematch := 40) (gen := 40) (splits := 40) | lia) (by first | with_reducible assumption | grind | grind (ematch := 40) (gen := 40) (splits := 40) | lia) ?_
  intro r2 Tr2 gr2_0 gr2_1 gr2_2
  refine r_Pa_0 Tr2 kv0 ?_
  intro kx3
  refine r_Cur_o Tr2 kx3 ?_
  refine c_Cur_look (v0 := (v0 + 1)) (v1 := 0) (tx := (pg + 1)) Tr2 kx3 ktx ptx (by first | with_reducible assumption | grind | grind (ematch := 40) (gen := 40) (splits := 40) | lia) (by first | with_reducible assumption | grind | grind (ematch := 40) (gen := 40) (splits := 40) | lia) (by first | with_reducible assumption | grind | grind (ematch := 40) (gen := 40) (splits := 40) | lia) ?_
  intro yr5 gr5_0 gr5_1 gr5_2 gr5_3 gr5_4
  simp only [Int32.add_zero] at gr5_2 gr5_3 gr5_4
  dsimp only
  refine qk_if (fun cc1 => ?_) (fun cc1 => ?_)
  · skip
    refine r_Pa_6 Tr2 kv0 pcm ?_
    refine w_Cmd_6 Tr2 kcm (by first | with_reducible assumption | grind | grind (ematch := 40) (gen := 40) (splits := 40) | lia) ?_
    intro h8 Th8 ih8 ah8
    refine r_Pa_0 Th8 kv0 ?_
    intro kx9
    refine r_Cur_1 Th8 kx9 ?_
    intro x10 ex10 lx10 ux10
    subst ex10
    refine w_Cur_1 Th8 kx9 (by first | with_reducible assumption | grind | grind (ematch := 40) (gen := 40) (splits := 40) | lia) (q_inc01 (Th8.2.2.2.1 _ 1) (q_CCur Th8 kx9)) (by first | exact q_inc1 (by first | with_reducible assumption | grind -lia | grind) (q_inc00 (Th8.2.2.2.1 _ 1) (q_CCur Th8 kx9)) | exact q_inc1b (by first | with_reducible assumption | grind -lia | grind) (q_inc00 (Th8.2.2.2.1 _ 1) (q_CCur Th8 kx9))) ?_
    intro h11 Th11 ih11 ah11
    refine r_Pa_o Th11 kv0 ?_
    refine c_Pa_passBlanks (v0 := v0) (pg := pg) Th11 kv0 kpg ppg ptx (by first | with_reducible assumption | grind | grind (ematch := 40) (gen := 40) (splits := 40) | lia) (by first | with_reducible assumption | grind | grind (ematch := 40) (gen := 40) (splits := 40) | lia) (by first | with_reducible assumption | grind | grind (ematch := 40) (gen := 40) (splits := 40) | lia) ?_
    intro r13 Tr13 gr13_0 gr13_1 gr13_2
    refine qk_some ?_
    exact ⟨Tr13, (by first | with_reducible assumption | grind | grind (ematch := 40) (gen := 40) (splits := 40) | lia), (by intro yy; exact ⟨fun b1 b2 => q_PW_eq (V2.1 (by grind) (by grind)) (by grind) (by grind) (by grind), fun b1 b2 => q_PW_eq (V2.2 (by grind) (by grind)) (by grind) (by grind) (by grind)⟩), (by first | with_reducible assumption | grind | grind (ematch := 40) (gen := 40) (splits := 40) | lia), (by first | with_reducible assumption | grind | grind (ematch := 40) (gen := 40) (splits := 40) | lia), (by first | with_reducible assumption | grind | grind (ematch := 40) (gen := 40) (splits := 40) | lia)⟩
  · skip
    refine qk_some ?_
    exact ⟨Tr2, (by first | with_reducible assumption | grind | grind (ematch := 40) (gen := 40) (splits := 40) | lia), (by intro yy; exact ⟨fun b1 b2 => q_PW_eq (V2.1 (by grind) (by grind)) (by grind) (by grind) (by grind), fun b1 b2 => q_PW_eq (V2.2 (by grind) (by grind)) (by grind) (by grind) (by grind)⟩), (by first | with_reducible assumption | grind | grind (ematch := 40) (gen := 40) (splits := 40) | lia), (by first | with_reducible assumption | grind | grind (ematch := 40) (gen := 40) (splits := 40) | lia), (by first | with_reducible assumption | grind | grind (ematch := 40) (gen := 40) (splits := 40) | lia)⟩
theorem c_Pa_readAddresses_88 {L : q_L} {W : Nat → Prop} {h0 : z_H} {π : Nat → Nat → Option Nat} {N : Nat} {pg : Nat} {cm : Nat} {h : z_H} {v0 : Nat} {β : Type} {f : Int32 × z_H → Option β} {Q : β → Prop} (T : q_U L W h0 π h) (kv0 : qκ L v0 = 7) (kpg : qκ L pg = 10) (ppg : π v0 5 = some pg) (kcm : qκ L cm = 2) (pcm : π v0 6 = some cm) (ptx : π (v0 + 1) 0 = some (pg + 1)) (ppc : π (v0 + 2) 0 = some (v0 + 1)) (wP : ∀ a, v0 ≤ a → a < v0 + 5 → W a) (wG : ∀ a, pg ≤ a → a < pg + 249 → W a) (hc1 : pg + 9 ≤ cm) (hc2 : cm + 6 ≤ pg + 249) (z : vI h (pg + 3) 4 ≤ vI h (v0 + 1) 1) (V2 : (1 ≤ vI h cm 5 → vI h (cm + 1) 1 = 2 → q_PW h (pg + 3) (cm + 2)) ∧ (2 ≤ vI h cm 5 → vI h (cm + 3) 1 = 2 → q_PW h (pg + 3) (cm + 4))) (hN : 100000 ≤ N) (H : ∀ y h', q_U L W h0 π h' → (y = 1) → (y = 1 → (1 ≤ vI h' cm 5 → vI h' (cm + 1) 1 = 2 → q_PW h' (pg + 3) (cm + 2)) ∧ (2 ≤ vI h' cm 5 → vI h' (cm + 3) 1 = 2 → q_PW h' (pg + 3) (cm + 4))) → (y = 1 → vI h' (pg + 3) 4 ≤ vI h' (v0 + 1) 1) → (∀ a k, ¬ ((a = cm ∧ k = 6) ∨ (a = v0 + 1 ∧ k = 1)) → vI h' a k = vI h a k) → (∀ a j, vA h' a j = vA h a j) → qk (f (y, h')) Q) : qk (z_b (f_Pa_readAddresses_88 N v0 h) f) Q := by
  refine qk_b (p_Pa_readAddresses_88 T kv0 kpg ppg kcm pcm ptx ppc wP wG hc1 hc2 z V2 hN) ?_
  rintro ⟨y, hz⟩ ⟨Tz, g0, g1, g2, g3, g4⟩
  exact H y hz Tz g0 g1 g2 g3 g4
