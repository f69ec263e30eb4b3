set_option maxHeartbeats 4000000 in
theorem p_Pa_readAddress {L : q_L} {W : Nat → Prop} {h0 : z_H} {π : Nat → Nat → Option Nat} {N : Nat} {pg : Nat} {h : z_H} {v0 : Nat} {v1 : Nat} (T : q_U L W h0 π h) (kv0 : qκ L v0 = 7) (kv1 : qκ L v1 = 1) (kpg : qκ L pg = 10) (ppg : π v0 5 = some pg) (ptx : π (v0 + 1) 0 = some (pg + 1)) (ppc : π (v0 + 2) 0 = some (v0 + 1)) (wP : ∀ a, v0 ≤ a → a < v0 + 5 → W a) (wG : ∀ a, pg ≤ a → a < pg + 249 → W a) (hv1 : pg + 9 ≤ v1) (hv2 : v1 + 2 ≤ pg + 249) (z : vI h (pg + 3) 4 ≤ vI h (v0 + 1) 1) (hN : 100000 ≤ N) : qk (f_Pa_readAddress N v0 v1 h) (fun r => ∃ π1, q_U L W h0 π1 r.2 ∧ (∀ a k, ¬ (a = (v0 + 2) ∧ k = 1) → ¬ (a = (v0 + 2) ∧ k = 2) → π1 a k = π a k) ∧ (r.1 = 0 ∨ r.1 = 1) ∧ (r.1 = 1 → vI r.2 v1 1 = 2 → q_PW r.2 (pg + 3) (v1 + 1)) ∧ (r.1 = 1 → vI r.2 (pg + 3) 4 ≤ vI r.2 (v0 + 1) 1) ∧ (∀ a k, ¬ (a = v1 ∨ a = v1 + 1 ∨ a = v0 + 1 ∨ a = v0 + 2 ∨ a = pg + 3) → vI r.2 a k = vI h a k) ∧ (∀ a j, 0 ≤ j → ¬ (a = pg + 3 + 1 ∨ a = pg + 3 + 2) → vA r.2 a j = vA h a j) ∧ (∀ j, 0 ≤ j → j < vI h (pg + 3) 4 → vA r.2 (pg + 3 + 1) j = vA h (pg + 3 + 1) j ∧ vA r.2 (pg + 3 + 2) j = vA h (pg + 3 + 2) j) ∧ (vI h (pg + 3) 4 ≤ vI r.2 (pg + 3) 4)) := by
  obtain ⟨kcu, kpr, cpa1, cpa2, cpa3, cpa4, cpa5⟩ := q_CPa T kv0
  obtain ⟨ktx, ctx, kit, cpg1, cpg2, cpg3⟩ := q_CProg T kpg
  have cit := q_CIt T kit
  unfold q_C_It at cit
  have tit := T.2.2.2.1 (pg + 3) 4
  rw [cit.1.1, cit.1.2] at tit
  obtain ⟨kad, cad⟩ := q_CAddr T kv1
  unfold f_Pa_readAddress
  refine r_Pa_0 T kv0 ?_
  intro kx1
  refine r_Cur_o T kx1 ?_
  refine c_Cur_look (v0 := (v0 + 1)) (v1 := 0) (tx := (pg + 1)) T kx1 ktx ptx (by first | with_reducible assumption | grind | grind (ematch := 40) (gen := 40) (splits := 40) | lia) (by first | with_reducible assumption | grind | grind (ematch := 40) (gen := 40) (splits := 40) | lia) (by first | with_reducible assumption | grind | grind (ematch := 40) (gen := 40) (splits := 40) | lia) ?_
  intro yr3 gr3_0 gr3_1 gr3_2 gr3_3 gr3_4
  simp only [Int32.add_zero] at gr3_2 gr3_3 gr3_4
  dsimp only
  refine qk_bs ?_
  refine c_Pa_startsAddress (v0 := (yr3)) T ?_
  intro yr5 gr5_0 gr5_1
  dsimp only
  refine qk_if (fun cc1 => ?_) (fun cc1 => ?_)
  · skip
    refine r_Pa_0 T kv0 ?_
    intro kx34
    refine r_Cur_o T kx34 ?_
    refine c_Cur_refuse (v0 := (v0 + 1)) (v1 := 0) T kx34 (by first | with_reducible assumption | grind | grind (ematch := 40) (gen := 40) (splits := 40) | lia) ?_
    intro yr36 hr36 Tr36 gr36_0 gr36_1 gr36_2
    dsimp only
    refine qk_zB (by first | with_reducible assumption | grind | grind (ematch := 40) (gen := 40) (splits := 40) | lia) ?_
    refine qk_some ?_
    exact ⟨_, Tr36, (by first | with_reducible assumption | grind | grind (ematch := 40) (gen := 40) (splits := 40) | lia), (by first | with_reducible assumption | grind | grind (ematch := 40) (gen := 40) (splits := 40) | lia), (by first | with_reducible assumption | (intro yy zz; first | (exact absurd zz (by grind)) | (exact ⟨gr32_1 (by grind), gr32_3 (by grind)⟩)) | grind), (by first | with_reducible assumption | grind | grind (ematch := 40) (gen := 40) (splits := 40) | lia), (by first | with_reducible assumption | grind | grind (ematch := 40) (gen := 40) (splits := 40) | lia), (by first | with_reducible assumption | grind | grind (ematch := 40) (gen := 40) (splits := 40) | lia), (by first | with_reducible assumption | grind | grind (ematch := 40) (gen := 40) (splits := 40) | lia), (by first | with_reducible assumption | grind | grind (ematch := 40) (gen := 40) (splits := 40) | lia)⟩
  · skip
    refine r_Pa_0 T kv0 ?_
    intro kx7
    refine r_Cur_1 T kx7 ?_
    intro x8 ex8 lx8 ux8
    subst ex8
    refine w_Cur_1 T kx7 (by first | with_reducible assumption | grind | grind (ematch := 40) (gen := 40) (splits := 40) | lia) (q_inc01 (T.2.2.2.1 _ 1) (q_CCur T kx7)) (by first | exact q_inc1 (by first | with_reducible assumption | grind -lia | grind) (q_inc00 (T.2.2.2.1 _ 1) (q_CCur T kx7)) | exact q_inc1b (by first | with_reducible assumption | grind -lia | grind) (q_inc00 (T.2.2.2.1 _ 1) (q_CCur T kx7))) ?_
    intro h9 Th9 ih9 ah9
    refine qk_if (fun cc2 => ?_) (fun cc2 => ?_)
    · skip
      refine w_Addr_1 Th9 kv1 (by first | with_reducible assumption | grind | grind (ematch := 40) (gen := 40) (splits := 40) | lia) (by first | with_reducible assumption | grind | grind (ematch := 40) (gen := 40) (splits := 40) | lia) (by first | with_reducible assumption | grind | grind (ematch := 40) (gen := 40) (splits := 40) | lia) ?_
      intro h26 Th26 ih26 ah26
      refine r_Pa_1 Th26 kv0 ?_
      intro kx27
      refine r_Addr_0 Th26 kv1 ?_
      intro kx28
      refine r_Pa_5 Th26 kv0 ppg ?_
      refine r_Prog_1 Th26 kpg ?_
      intro kx30
      refine r_Pr_o Th26 kx27 ?_
      refine c_Pr_read (v0 := (v0 + 2)) (v1 := (v1 + 1)) (v2 := (pg + 3)) (cu := (v0 + 1)) (tx := (pg + 1)) Th26 kx27 kx28 kx30 kx7 ppc ktx ptx (by first | with_reducible assumption | grind | grind (ematch := 40) (gen := 40) (splits := 40) | lia) (by first | with_reducible assumption | grind | grind (ematch := 40) (gen := 40) (splits := 40) | lia) (by first | with_reducible assumption | grind | grind (ematch := 40) (gen := 40) (splits := 40) | lia) (by first | with_reducible assumption | grind | grind (ematch := 40) (gen := 40) (splits := 40) | lia) (by first | with_reducible assumption | grind | grind (ematch := 40) (gen := 40) (splits := 40) | lia) (by first | with_reducible assumption | grind | grind (ematch := 40) (gen := 40) (splits := 40) | lia) (by first | with_reducible assumption | grind | grind (ematch := 40) (gen := 40) (splits := 40) | lia) (by first | with_reducible assumption | grind | grind (ematch := 40) (gen := 40) (splits := 40) | lia) (by first | with_reducible assumption | grind | grind (ematch := 40) (gen := 40) (splits := 40) | lia) (by first | with_reducible assumption | grind | grind (ematch := 40) (gen := 40) (splits := 40) | lia) (by first | with_reducible assumption | grind | grind (ematch := 40) (gen := 40) (splits := 40) | lia) ?_
      intro yr32 πr32 hr32 Tr32 zr32 zr32_0 zr32_1 gr32_0 gr32_1 gr32_2 gr32_3 gr32_4 gr32_5 gr32_6 gr32_7
      have ppg_r32 : πr32 v0 5 = some pg := by rw [zr32 v0 5 (by grind) (by grind)]; exact ppg
      have ptx_r32 : πr32 (v0 + 1) 0 = some (pg + 1) := by rw [zr32 (v0 + 1) 0 (by grind) (by grind)]; exact ptx
      have ppc_r32 : πr32 (v0 + 2) 0 = some (v0 + 1) := by rw [zr32 (v0 + 2) 0 (by grind) (by grind)]; exact ppc
      dsimp only
      refine qk_zB (by first | with_reducible assumption | grind | grind (ematch := 40) (gen := 40) (splits := 40) | lia) ?_
      refine qk_some ?_
      exact ⟨_, Tr32, (by first | with_reducible assumption | grind | grind (ematch := 40) (gen := 40) (splits := 40) | lia), (by first | with_reducible assumption | grind | grind (ematch := 40) (gen := 40) (splits := 40) | lia), (by first | with_reducible assumption | (intro yy zz; first | (exact absurd zz (by grind)) | (exact ⟨gr32_1 (by grind), gr32_3 (by grind)⟩)) | grind), (by first | with_reducible assumption | grind | grind (ematch := 40) (gen := 40) (splits := 40) | lia), (by first | with_reducible assumption | grind | grind (ematch := 40) (gen := 40) (splits := 40) | lia), (by first | with_reducible assumption | grind | grind (ematch := 40) (gen := 40) (splits := 40) | lia), (by first | with_reducible assumption | grind | grind (ematch := 40) (gen := 40) (splits := 40) | lia), (by first | with_reducible assumption | grind | grind (ematch := 40) (gen := 40) (splits := 40) | lia)⟩
    · skip
      refine qk_if (fun cc3 => ?_) (fun cc3 => ?_)
      · skip
        refine w_Addr_1 Th9 kv1 (by first | with_reducible assumption | grind | grind (ematch := 40) (gen := 40) (splits := 40) | lia) (by first | with_reducible assumption | grind | grind (ematch := 40) (gen := 40) (splits := 40) | lia) (by first | with_reducible assumption | grind | grind (ematch := 40) (gen := 40) (splits := 40) | lia) ?_
        intro h25 Th25 ih25 ah25
        refine qk_some ?_
        exact ⟨_, Th25, (by first | with_reducible assumption | grind | grind (ematch := 40) (gen := 40) (splits := 40) | lia), (by first | with_reducible assumption | grind | grind (ematch := 40) (gen := 40) (splits := 40) | lia), (by first | with_reducible assumption | (intro yy zz; first | (exact absurd zz (by grind)) | (exact ⟨gr32_1 (by grind), gr32_3 (by grind)⟩)) | grind), (by first | with_reducible assumption | grind | grind (ematch := 40) (gen := 40) (splits := 40) | lia), (by first | with_reducible assumption | grind | grind (ematch := 40) (gen := 40) (splits := 40) | lia), (by first | with_reducible assumption | grind | grind (ematch := 40) (gen := 40) (splits := 40) | lia), (by first | with_reducible assumption | grind | grind (ematch := 40) (gen := 40) (splits := 40) | lia), (by first | with_reducible assumption | grind | grind (ematch := 40) (gen := 40) (splits := 40) | lia)⟩
      · skip
        refine w_Addr_1 Th9 kv1 (by first | with_reducible assumption | grind | grind (ematch := 40) (gen := 40) (splits := 40) | lia) (by first | with_reducible assumption | grind | grind (ematch := 40) (gen := 40) (splits := 40) | lia) (by first | with_reducible assumption | grind | grind (ematch := 40) (gen := 40) (splits := 40) | lia) ?_
        intro h12 Th12 ih12 ah12
        refine w_Addr_2 Th12 kv1 (by first | with_reducible assumption | grind | grind (ematch := 40) (gen := 40) (splits := 40) | lia) ?_
        intro h13 Th13 ih13 ah13
        refine r_Pa_0 Th13 kv0 ?_
        intro kx14
        refine r_Cur_o Th13 kx14 ?_
        refine c_Cur_look (v0 := (v0 + 1)) (v1 := 0) (tx := (pg + 1)) Th13 kx14 ktx ptx (by first | with_reducible assumption | grind | grind (ematch := 40) (gen := 40) (splits := 40) | lia) (by first | with_reducible assumption | grind | grind (ematch := 40) (gen := 40) (splits := 40) | lia) (by first | with_reducible assumption | grind | grind (ematch := 40) (gen := 40) (splits := 40) | lia) ?_
        intro yr16 gr16_0 gr16_1 gr16_2 gr16_3 gr16_4
        simp only [Int32.add_zero] at gr16_2 gr16_3 gr16_4
        dsimp only
        refine qk_bs ?_
        refine qk_if (fun cc4 => ?_) (fun cc4 => ?_)
        · skip
          refine qk_some ?_
          exact ⟨_, Th13, (by first | with_reducible assumption | grind | grind (ematch := 40) (gen := 40) (splits := 40) | lia), (by first | with_reducible assumption | grind | grind (ematch := 40) (gen := 40) (splits := 40) | lia), (by first | with_reducible assumption | (intro yy zz; first | (exact absurd zz (by grind)) | (exact ⟨gr32_1 (by grind), gr32_3 (by grind)⟩)) | grind), (by first | with_reducible assumption | grind | grind (ematch := 40) (gen := 40) (splits := 40) | lia), (by first | with_reducible assumption | grind | grind (ematch := 40) (gen := 40) (splits := 40) | lia), (by first | with_reducible assumption | grind | grind (ematch := 40) (gen := 40) (splits := 40) | lia), (by first | with_reducible assumption | grind | grind (ematch := 40) (gen := 40) (splits := 40) | lia), (by first | with_reducible assumption | grind | grind (ematch := 40) (gen := 40) (splits := 40) | lia)⟩
        · skip
          refine qk_if (fun cc5 => ?_) (fun cc5 => ?_)
          · skip
            refine qk_some ?_
            exact ⟨_, Th13, (by first | with_reducible assumption | grind | grind (ematch := 40) (gen := 40) (splits := 40) | lia), (by first | with_reducible assumption | grind | grind (ematch := 40) (gen := 40) (splits := 40) | lia), (by first | with_reducible assumption | (intro yy zz; first | (exact absurd zz (by grind)) | (exact ⟨gr32_1 (by grind), gr32_3 (by grind)⟩)) | grind), (by first | with_reducible assumption | grind | grind (ematch := 40) (gen := 40) (splits := 40) | lia), (by first | with_reducible assumption | grind | grind (ematch := 40) (gen := 40) (splits := 40) | lia), (by first | with_reducible assumption | grind | grind (ematch := 40) (gen := 40) (splits := 40) | lia), (by first | with_reducible assumption | grind | grind (ematch := 40) (gen := 40) (splits := 40) | lia), (by first | with_reducible assumption | grind | grind (ematch := 40) (gen := 40) (splits := 40) | lia)⟩
          · skip
            refine r_Addr_2 Th13 kv1 ?_
            intro x20 ex20
            subst ex20
            refine w_Addr_2 Th13 kv1 (by first | with_reducible assumption | grind | grind (ematch := 40) (gen := 40) (splits := 40) | lia) ?_
            intro h21 Th21 ih21 ah21
            refine r_Pa_0 Th21 kv0 ?_
            intro kx22
            refine r_Cur_1 Th21 kx22 ?_
            intro x23 ex23 lx23 ux23
            subst ex23
            refine w_Cur_1 Th21 kx22 (by first | with_reducible assumption | grind | grind (ematch := 40) (gen := 40) (splits := 40) | lia) (q_inc01 (Th21.2.2.2.1 _ 1) (q_CCur Th21 kx22)) (by first | exact q_inc1 (by first | with_reducible assumption | grind -lia | grind) (q_inc00 (Th21.2.2.2.1 _ 1) (q_CCur Th21 kx22)) | exact q_inc1b (by first | with_reducible assumption | grind -lia | grind) (q_inc00 (Th21.2.2.2.1 _ 1) (q_CCur Th21 kx22))) ?_
            intro h24 Th24 ih24 ah24
            refine qk_some ?_
            exact ⟨_, Th24, (by first | with_reducible assumption | grind | grind (ematch := 40) (gen := 40) (splits := 40) | lia), (by first | with_reducible assumption | grind | grind (ematch := 40) (gen := 40) (splits := 40) | lia), (by first | with_reducible assumption | (intro yy zz; first | (exact absurd zz (by grind)) | (exact ⟨gr32_1 (by grind), gr32_3 (by grind)⟩)) | grind), (by intro yy; exact q_zc (s := vI h (pg + 3) 4) (a := vI h (v0 + 1) 1) (b := vI h13 (v0 + 1) 1) (by first | grind -lia (splits := 40) | grind (splits := 40) (ematch := 40) (gen := 40)) (by first | grind -lia (splits := 40) | grind (splits := 40) (ematch := 40) (gen := 40)) z (by first | grind -lia (splits := 40) | grind (splits := 40) (ematch := 40) (gen := 40)) (by first | grind -lia (splits := 40) | grind (splits := 40) (ematch := 40) (gen := 40)) (by first | grind -lia (splits := 40) | grind (splits := 40) (ematch := 40) (gen := 40)) (by first | grind -lia (splits := 40) | grind (splits := 40) (ematch := 40) (gen := 40))), (by first | with_reducible assumption | grind | grind (ematch := 40) (gen := 40) (splits := 40) | lia), (by first | with_reducible assumption | grind | grind (ematch := 40) (gen := 40) (splits := 40) | lia), (by first | with_reducible assumption | grind | grind (ematch := 40) (gen := 40) (splits := 40) | lia), (by first | with_reducible assumption | grind | grind (ematch := 40) (gen := 40) (splits := 40) | lia)⟩
theorem c_Pa_readAddress {L : q_L} {W : Nat → Prop} {h0 : z_H} {π : Nat → Nat → Option Nat} {N : Nat} {pg : Nat} {h : z_H} {v0 : Nat} {v1 : Nat} {β : Type} {f : Int32 × z_H → Option β} {Q : β → Prop} (T : q_U L W h0 π h) (kv0 : qκ L v0 = 7) (kv1 : qκ L v1 = 1) (kpg : qκ L pg = 10) (ppg : π v0 5 = some pg) (ptx : π (v0 + 1) 0 = some (pg + 1)) (ppc : π (v0 + 2) 0 = some (v0 + 1)) (wP : ∀ a, v0 ≤ a → a < v0 + 5 → W a) (wG : ∀ a, pg ≤ a → a < pg + 249 → W a) (hv1 : pg + 9 ≤ v1) (hv2 : v1 + 2 ≤ pg + 249) (z : vI h (pg + 3) 4 ≤ vI h (v0 + 1) 1) (hN : 100000 ≤ N) (H : ∀ y π1 h', q_U L W h0 π1 h' → (∀ a k, ¬ (a = (v0 + 2) ∧ k = 1) → ¬ (a = (v0 + 2) ∧ k = 2) → π1 a k = π a k) → (y = 0 ∨ y = 1) → (y = 1 → vI h' v1 1 = 2 → q_PW h' (pg + 3) (v1 + 1)) → (y = 1 → vI h' (pg + 3) 4 ≤ vI h' (v0 + 1) 1) → (∀ a k, ¬ (a = v1 ∨ a = v1 + 1 ∨ a = v0 + 1 ∨ a = v0 + 2 ∨ a = pg + 3) → vI h' a k = vI h a k) → (∀ a j, 0 ≤ j → ¬ (a = pg + 3 + 1 ∨ a = pg + 3 + 2) → vA h' a j = vA h a j) → (∀ j, 0 ≤ j → j < vI h (pg + 3) 4 → vA h' (pg + 3 + 1) j = vA h (pg + 3 + 1) j ∧ vA h' (pg + 3 + 2) j = vA h (pg + 3 + 2) j) → (vI h (pg + 3) 4 ≤ vI h' (pg + 3) 4) → qk (f (y, h')) Q) : qk (z_b (f_Pa_readAddress N v0 v1 h) f) Q := by
  refine qk_b (p_Pa_readAddress T kv0 kv1 kpg ppg ptx ppc wP wG hv1 hv2 z hN) ?_
  rintro ⟨y, hz⟩ ⟨π1, Tz, z0, g0, g1, g2, g3, g4, g5, g6⟩
  exact H y π1 hz Tz z0 g0 g1 g2 g3 g4 g5 g6
