/-! what the class leaves -/
set_option maxHeartbeats 2000000 in
theorem p9_SF_script {L : q_L} {W : Nat → Prop} {h0 : z_H} {π : Nat → Nat → Option Nat} {N : Nat} {h : z_H} {v0 : Nat} {v1 : Int64} (T : q_U L W h0 π h) (kv0 : qκ L v0 = 12) (wS : ∀ a, a = v0 + 1 ∨ a = v0 + 2 → W a) (hN : 100000 ≤ N) : qk (f_SF_script N v0 v1 h) (fun r => q_U L W h0 π r.2 ∧ (q_okc v1 1 8 = 0 → r.1 = .inr xE1 ∧ vI r.2 (v0 + 1) 1 = vI h (v0 + 1) 1) ∧ (q_okc v1 1 8 ≠ 0 → 240 < vI h (v0 + 1) 1 + q_cn v1 8 → r.1 = .inr xE2 ∧ vI r.2 (v0 + 1) 1 = vI h (v0 + 1) 1) ∧ (q_okc v1 1 8 ≠ 0 → vI h (v0 + 1) 1 + q_cn v1 8 ≤ 240 → r.1 = .inl (vI h (v0 + 1) 1 + q_cn v1 8) ∧ vI r.2 (v0 + 1) 1 = vI h (v0 + 1) 1 + q_cn v1 8) ∧ (∀ a k, ¬ (a = v0 + 1 ∧ k = 1) → vI r.2 a k = vI h a k) ∧ (∀ a j, 0 ≤ j → a ≠ v0 + 2 → vA r.2 a j = vA h a j)) := by
  have csf := q_CSF T kv0
  unfold q_C_SF at csf
  have hrs := q_rowhi T csf.1
  have hcn := q_cnr_8 v1
  unfold f_SF_script
  refine c_SF_isText (v0 := v1) (v2 := 1) T (by first | with_reducible assumption | grind | grind (ematch := 40) (gen := 40) (splits := 40) | lia) ?_
  intro yr1 gr1_0
  dsimp only
  refine qk_if (fun cc1 => ?_) (fun cc1 => ?_)
  · skip
    refine qk_some ?_
    exact ⟨T, (by first | with_reducible assumption | grind | grind (ematch := 40) (gen := 40) (splits := 40) | lia), (by first | with_reducible assumption | grind | grind (ematch := 40) (gen := 40) (splits := 40) | lia), (by first | with_reducible assumption | grind | grind (ematch := 40) (gen := 40) (splits := 40) | lia), (by first | with_reducible assumption | grind | grind (ematch := 40) (gen := 40) (splits := 40) | lia), (by first | with_reducible assumption | grind | grind (ematch := 40) (gen := 40) (splits := 40) | lia)⟩
  · skip
    refine r_SF_0 T kv0 ?_
    intro kx3 px3
    refine c_SF_textLength (v0 := v1) T (by first | with_reducible assumption | grind | grind (ematch := 40) (gen := 40) (splits := 40) | lia) ?_
    intro yr4 gr4_0
    dsimp only
    refine r_Row_o T kx3 ?_
    refine c_Row_hasRoom (v0 := (v0 + 1)) (v1 := (yr4)) T kx3 ?_
    intro yr6 gr6_0 gr6_1
    dsimp only
    refine qk_if (fun cc2 => ?_) (fun cc2 => ?_)
    · skip
      refine qk_some ?_
      exact ⟨T, (by first | with_reducible assumption | grind | grind (ematch := 40) (gen := 40) (splits := 40) | lia), (by first | with_reducible assumption | grind | grind (ematch := 40) (gen := 40) (splits := 40) | lia), (by first | with_reducible assumption | grind | grind (ematch := 40) (gen := 40) (splits := 40) | lia), (by first | with_reducible assumption | grind | grind (ematch := 40) (gen := 40) (splits := 40) | lia), (by first | with_reducible assumption | grind | grind (ematch := 40) (gen := 40) (splits := 40) | lia)⟩
    · skip
      refine r_SF_0 T kv0 ?_
      intro kx8 px8
      refine c_SF_addText (v0 := (v0 + 1)) (v1 := v1) T kx8 (by first | with_reducible assumption | grind | grind (ematch := 40) (gen := 40) (splits := 40) | lia) (by first | with_reducible assumption | grind | grind (ematch := 40) (gen := 40) (splits := 40) | lia) (by first | with_reducible assumption | grind | grind (ematch := 40) (gen := 40) (splits := 40) | lia) ?_
      intro r9 Tr9 gr9_0 gr9_1 gr9_2
      refine r_SF_0 Tr9 kv0 ?_
      intro kx10 px10
      refine r_Row_1 Tr9 kx10 ?_
      intro x11 ex11 lx11 ux11 mx11
      subst ex11
      refine qk_some ?_
      exact ⟨Tr9, (by first | with_reducible assumption | grind | grind (ematch := 40) (gen := 40) (splits := 40) | lia), (by first | with_reducible assumption | grind | grind (ematch := 40) (gen := 40) (splits := 40) | lia), (by first | with_reducible assumption | grind | grind (ematch := 40) (gen := 40) (splits := 40) | lia), (by first | with_reducible assumption | grind | grind (ematch := 40) (gen := 40) (splits := 40) | lia), (by first | with_reducible assumption | grind | grind (ematch := 40) (gen := 40) (splits := 40) | lia)⟩

set_option maxHeartbeats 2000000 in
theorem p9_SF_clear {L : q_L} {W : Nat → Prop} {h0 : z_H} {π : Nat → Nat → Option Nat} {N : Nat} {h : z_H} {v0 : Nat} {v1 : Int32} (T : q_U L W h0 π h) (kv0 : qκ L v0 = 12) (wS : ∀ a, a = v0 ∨ a = v0 + 1 → W a) : qk (f_SF_clear N v0 v1 h) (fun r => q_U L W h0 π r.2 ∧ (v1 = 0 → r.1 = .inl (vI h (v0 + 1) 1) ∧ vI r.2 (v0 + 1) 1 = 0 ∧ vI r.2 v0 5 = vI h v0 5) ∧ (v1 = 1 → r.1 = .inl (vI h v0 5) ∧ vI r.2 v0 5 = 0 ∧ vI r.2 (v0 + 1) 1 = vI h (v0 + 1) 1) ∧ (v1 ≠ 0 → v1 ≠ 1 → r.1 = .inr xE1 ∧ vI r.2 v0 5 = vI h v0 5 ∧ vI r.2 (v0 + 1) 1 = vI h (v0 + 1) 1) ∧ (∀ a k, ¬ (a = v0 + 1 ∧ k = 1) → ¬ (a = v0 ∧ k = 5) → vI r.2 a k = vI h a k) ∧ (∀ a j, vA r.2 a j = vA h a j)) := by
  have csf := q_CSF T kv0
  unfold q_C_SF at csf
  have hrs := q_rowhi T csf.1
  unfold f_SF_clear
  refine qk_if (fun cc1 => ?_) (fun cc1 => ?_)
  · skip
    refine r_SF_0 T kv0 ?_
    intro kx5 px5
    refine r_Row_1 T kx5 ?_
    intro x6 ex6 lx6 ux6 mx6
    subst ex6
    refine r_SF_0 T kv0 ?_
    intro kx7 px7
    refine r_Row_o T kx7 ?_
    refine c_Row_empty (v0 := (v0 + 1)) T kx7 (by first | with_reducible assumption | grind | grind (ematch := 40) (gen := 40) (splits := 40) | lia) ?_
    intro r9 Tr9 gr9_0 gr9_1
    refine qk_some ?_
    exact ⟨Tr9, (by first | with_reducible assumption | grind | grind (ematch := 40) (gen := 40) (splits := 40) | lia), (by first | with_reducible assumption | grind | grind (ematch := 40) (gen := 40) (splits := 40) | lia), (by first | with_reducible assumption | grind | grind (ematch := 40) (gen := 40) (splits := 40) | lia), (by first | with_reducible assumption | grind | grind (ematch := 40) (gen := 40) (splits := 40) | lia), (by first | with_reducible assumption | grind | grind (ematch := 40) (gen := 40) (splits := 40) | lia)⟩
  · skip
    refine qk_if (fun cc2 => ?_) (fun cc2 => ?_)
    · skip
      refine r_SF_5 T kv0 ?_
      intro x3 ex3 lx3 ux3
      subst ex3
      refine w_SF_5 T kv0 (by first | with_reducible assumption | grind | grind (ematch := 40) (gen := 40) (splits := 40) | lia) (by first | with_reducible assumption | grind | grind (ematch := 40) (gen := 40) (splits := 40) | lia) (by first | with_reducible assumption | grind | grind (ematch := 40) (gen := 40) (splits := 40) | lia) ?_
      intro h4 Th4 ih4 ah4
      refine qk_some ?_
      exact ⟨Th4, (by first | with_reducible assumption | grind | grind (ematch := 40) (gen := 40) (splits := 40) | lia), (by first | with_reducible assumption | grind | grind (ematch := 40) (gen := 40) (splits := 40) | lia), (by first | with_reducible assumption | grind | grind (ematch := 40) (gen := 40) (splits := 40) | lia), (by first | with_reducible assumption | grind | grind (ematch := 40) (gen := 40) (splits := 40) | lia), (by first | with_reducible assumption | grind | grind (ematch := 40) (gen := 40) (splits := 40) | lia)⟩
    · skip
      refine qk_some ?_
      exact ⟨T, (by first | with_reducible assumption | grind | grind (ematch := 40) (gen := 40) (splits := 40) | lia), (by first | with_reducible assumption | grind | grind (ematch := 40) (gen := 40) (splits := 40) | lia), (by first | with_reducible assumption | grind | grind (ematch := 40) (gen := 40) (splits := 40) | lia), (by first | with_reducible assumption | grind | grind (ematch := 40) (gen := 40) (splits := 40) | lia), (by first | with_reducible assumption | grind | grind (ematch := 40) (gen := 40) (splits := 40) | lia)⟩

set_option maxHeartbeats 2000000 in
theorem p9_SF_line {L : q_L} {W : Nat → Prop} {h0 : z_H} {π : Nat → Nat → Option Nat} {N : Nat} {h : z_H} {v0 : Nat} {v1 : Int64} {v3 : Int64} (T : q_U L W h0 π h) (kv0 : qκ L v0 = 12) (wS : ∀ a, a = v0 ∨ (v0 + 528 ≤ a ∧ a < v0 + 552) → W a) (hN : 100000 ≤ N) : qk (f_SF_line N v0 v1 v3 h) (fun r => q_U L W h0 π r.2 ∧ (q_okc v1 0 8 = 0 ∨ q_okc v3 0 8 = 0 → r.1 = .inr xE1) ∧ (q_okc v1 0 8 ≠ 0 → q_okc v3 0 8 ≠ 0 → vI h v0 5 = 12 → r.1 = .inr xE2) ∧ (q_okc v1 0 8 ≠ 0 → q_okc v3 0 8 ≠ 0 → vI h v0 5 ≠ 12 → r.1 = .inl (vI h v0 5 + 1) ∧ vI r.2 v0 5 = vI h v0 5 + 1 ∧ vI r.2 (v0 + (528 + 2 * Int32.toNatClampNeg (vI h v0 5))) 1 = q_cn v1 8 + q_cn v3 8) ∧ (∀ E, r.1 = .inr E → (∀ a k, vI r.2 a k = vI h a k) ∧ (∀ a j, 0 ≤ j → vA r.2 a j = vA h a j)) ∧ (∀ a k, ¬ (a = (v0 + (528 + 2 * Int32.toNatClampNeg (vI h v0 5))) ∧ k = 1) → ¬ (a = v0 ∧ k = 5) → vI r.2 a k = vI h a k) ∧ (∀ a j, 0 ≤ j → a ≠ (v0 + (528 + 2 * Int32.toNatClampNeg (vI h v0 5))) + 1 → vA r.2 a j = vA h a j)) := by
  have csf := q_CSF T kv0
  unfold q_C_SF at csf
  have hrs := q_rowhi T csf.1
  have hcn := q_cnr_8 v1
  have hcm := q_cnr_8 v3
  have t5 := T.2.2.2.1 v0 5
  unfold f_SF_line
  refine c_SF_isText (v0 := v1) (v2 := 0) T (by first | with_reducible assumption | grind | grind (ematch := 40) (gen := 40) (splits := 40) | lia) ?_
  intro yr1 gr1_0
  dsimp only
  refine qk_if (fun cc1 => ?_) (fun cc1 => ?_)
  · skip
    unfold f_SF_line_16
    refine qk_some ?_
    exact ⟨T, (by first | with_reducible assumption | grind | grind (ematch := 40) (gen := 40) (splits := 40) | lia), (by first | with_reducible assumption | grind | grind (ematch := 40) (gen := 40) (splits := 40) | lia), (by first | with_reducible assumption | grind | grind (ematch := 40) (gen := 40) (splits := 40) | lia), (by first | with_reducible assumption | grind | grind (ematch := 40) (gen := 40) (splits := 40) | lia), (by first | with_reducible assumption | grind | grind (ematch := 40) (gen := 40) (splits := 40) | lia), (by first | with_reducible assumption | grind | grind (ematch := 40) (gen := 40) (splits := 40) | lia)⟩
  · skip
    refine c_SF_isText (v0 := v3) (v2 := 0) T (by first | with_reducible assumption | grind | grind (ematch := 40) (gen := 40) (splits := 40) | lia) ?_
    intro yr3 gr3_0
    dsimp only
    refine qk_if (fun cc3 => ?_) (fun cc3 => ?_)
    · skip
      unfold f_SF_line_16
      refine qk_some ?_
      exact ⟨T, (by first | with_reducible assumption | grind | grind (ematch := 40) (gen := 40) (splits := 40) | lia), (by first | with_reducible assumption | grind | grind (ematch := 40) (gen := 40) (splits := 40) | lia), (by first | with_reducible assumption | grind | grind (ematch := 40) (gen := 40) (splits := 40) | lia), (by first | with_reducible assumption | grind | grind (ematch := 40) (gen := 40) (splits := 40) | lia), (by first | with_reducible assumption | grind | grind (ematch := 40) (gen := 40) (splits := 40) | lia), (by first | with_reducible assumption | grind | grind (ematch := 40) (gen := 40) (splits := 40) | lia)⟩
    · skip
      refine r_SF_5 T kv0 ?_
      intro x5 ex5 lx5 ux5
      subst ex5
      refine qk_if (fun cc5 => ?_) (fun cc5 => ?_)
      · skip
        refine r_SF_1 T kv0 ?_
        refine r_SF_5 T kv0 ?_
        intro x8 ex8 lx8 ux8
        subst ex8
        refine r_SF_e3 T kv0 (by first | with_reducible assumption | grind | grind (ematch := 40) (gen := 40) (splits := 40) | lia) (by first | with_reducible assumption | grind | grind (ematch := 40) (gen := 40) (splits := 40) | lia) ?_
        intro kx9 px9 bx9
        have hrx9 := q_rowhi T kx9
        refine r_Row_o T kx9 ?_
        refine c_Row_empty (v0 := (v0 + (528 + 2 * Int32.toNatClampNeg (vI h v0 5)))) T kx9 (by first | with_reducible assumption | grind | grind (ematch := 40) (gen := 40) (splits := 40) | lia) ?_
        intro r11 Tr11 gr11_0 gr11_1
        refine c_SF_addText (v0 := (v0 + (528 + 2 * Int32.toNatClampNeg (vI h v0 5)))) (v1 := v1) Tr11 kx9 (by first | with_reducible assumption | grind | grind (ematch := 40) (gen := 40) (splits := 40) | lia) (by first | with_reducible assumption | grind | grind (ematch := 40) (gen := 40) (splits := 40) | lia) (by first | with_reducible assumption | grind | grind (ematch := 40) (gen := 40) (splits := 40) | lia) ?_
        intro r12 Tr12 gr12_0 gr12_1 gr12_2
        refine c_SF_addText (v0 := (v0 + (528 + 2 * Int32.toNatClampNeg (vI h v0 5)))) (v1 := v3) Tr12 kx9 (by first | with_reducible assumption | grind | grind (ematch := 40) (gen := 40) (splits := 40) | lia) (by first | with_reducible assumption | grind | grind (ematch := 40) (gen := 40) (splits := 40) | lia) (by first | with_reducible assumption | grind | grind (ematch := 40) (gen := 40) (splits := 40) | lia) ?_
        intro r13 Tr13 gr13_0 gr13_1 gr13_2
        refine r_SF_5 Tr13 kv0 ?_
        intro x14 ex14 lx14 ux14
        subst ex14
        refine w_SF_5 Tr13 kv0 (by first | with_reducible assumption | grind | grind (ematch := 40) (gen := 40) (splits := 40) | lia) (by first | with_reducible assumption | grind | grind (ematch := 40) (gen := 40) (splits := 40) | lia) (by first | with_reducible assumption | grind | grind (ematch := 40) (gen := 40) (splits := 40) | lia) ?_
        intro h15 Th15 ih15 ah15
        refine r_SF_5 Th15 kv0 ?_
        intro x16 ex16 lx16 ux16
        subst ex16
        refine qk_some ?_
        exact ⟨Th15, (by first | with_reducible assumption | grind | grind (ematch := 40) (gen := 40) (splits := 40) | lia), (by first | with_reducible assumption | grind | grind (ematch := 40) (gen := 40) (splits := 40) | lia), (by first | with_reducible assumption | grind | grind (ematch := 40) (gen := 40) (splits := 40) | lia), (by first | with_reducible assumption | grind | grind (ematch := 40) (gen := 40) (splits := 40) | lia), (by first | with_reducible assumption | grind | grind (ematch := 40) (gen := 40) (splits := 40) | lia), (by first | with_reducible assumption | grind | grind (ematch := 40) (gen := 40) (splits := 40) | lia)⟩
      · skip
        refine qk_some ?_
        exact ⟨T, (by first | with_reducible assumption | grind | grind (ematch := 40) (gen := 40) (splits := 40) | lia), (by first | with_reducible assumption | grind | grind (ematch := 40) (gen := 40) (splits := 40) | lia), (by first | with_reducible assumption | grind | grind (ematch := 40) (gen := 40) (splits := 40) | lia), (by first | with_reducible assumption | grind | grind (ematch := 40) (gen := 40) (splits := 40) | lia), (by first | with_reducible assumption | grind | grind (ematch := 40) (gen := 40) (splits := 40) | lia), (by first | with_reducible assumption | grind | grind (ematch := 40) (gen := 40) (splits := 40) | lia)⟩

set_option maxHeartbeats 2000000 in
theorem p9_SF_more {L : q_L} {W : Nat → Prop} {h0 : z_H} {π : Nat → Nat → Option Nat} {N : Nat} {h : z_H} {v0 : Nat} {v1 : Int64} (T : q_U L W h0 π h) (kv0 : qκ L v0 = 12) (wS : ∀ a, a = v0 ∨ (v0 + 528 ≤ a ∧ a < v0 + 552) → W a) (hN : 100000 ≤ N) : qk (f_SF_more N v0 v1 h) (fun r => q_U L W h0 π r.2 ∧ (q_okc v1 0 8 = 0 → r.1 = .inr xE1) ∧ (q_okc v1 0 8 ≠ 0 → vI h v0 5 = 0 → r.1 = .inr xE2) ∧ (q_okc v1 0 8 ≠ 0 → vI h v0 5 ≠ 0 → 24 < vI h (v0 + (528 + 2 * Int32.toNatClampNeg (vI h v0 5 - 1))) 1 + q_cn v1 8 → r.1 = .inr xE2) ∧ (q_okc v1 0 8 ≠ 0 → vI h v0 5 ≠ 0 → vI h (v0 + (528 + 2 * Int32.toNatClampNeg (vI h v0 5 - 1))) 1 + q_cn v1 8 ≤ 24 → r.1 = .inl (vI h (v0 + (528 + 2 * Int32.toNatClampNeg (vI h v0 5 - 1))) 1 + q_cn v1 8) ∧ vI r.2 (v0 + (528 + 2 * Int32.toNatClampNeg (vI h v0 5 - 1))) 1 = vI h (v0 + (528 + 2 * Int32.toNatClampNeg (vI h v0 5 - 1))) 1 + q_cn v1 8) ∧ (∀ E, r.1 = .inr E → (∀ a k, vI r.2 a k = vI h a k) ∧ (∀ a j, 0 ≤ j → vA r.2 a j = vA h a j)) ∧ (∀ a k, ¬ (vI h v0 5 ≠ 0 ∧ a = (v0 + (528 + 2 * Int32.toNatClampNeg (vI h v0 5 - 1))) ∧ k = 1) → vI r.2 a k = vI h a k) ∧ (∀ a j, 0 ≤ j → ¬ (vI h v0 5 ≠ 0 ∧ a = (v0 + (528 + 2 * Int32.toNatClampNeg (vI h v0 5 - 1))) + 1) → vA r.2 a j = vA h a j)) := by
  have csf := q_CSF T kv0
  unfold q_C_SF at csf
  have hrs := q_rowhi T csf.1
  have hcn := q_cnr_8 v1
  have t5 := T.2.2.2.1 v0 5
  unfold f_SF_more
  refine c_SF_isText (v0 := v1) (v2 := 0) T (by first | with_reducible assumption | grind | grind (ematch := 40) (gen := 40) (splits := 40) | lia) ?_
  intro yr1 gr1_0
  dsimp only
  refine qk_if (fun cc1 => ?_) (fun cc1 => ?_)
  · skip
    refine qk_some ?_
    exact ⟨T, (by first | with_reducible assumption | grind | grind (ematch := 40) (gen := 40) (splits := 40) | lia), (by first | with_reducible assumption | grind | grind (ematch := 40) (gen := 40) (splits := 40) | lia), (by first | with_reducible assumption | grind | grind (ematch := 40) (gen := 40) (splits := 40) | lia), (by first | with_reducible assumption | grind | grind (ematch := 40) (gen := 40) (splits := 40) | lia), (by first | with_reducible assumption | grind | grind (ematch := 40) (gen := 40) (splits := 40) | lia), (by first | with_reducible assumption | grind | grind (ematch := 40) (gen := 40) (splits := 40) | lia), (by first | with_reducible assumption | grind | grind (ematch := 40) (gen := 40) (splits := 40) | lia)⟩
  · skip
    refine r_SF_5 T kv0 ?_
    intro x3 ex3 lx3 ux3
    subst ex3
    refine qk_if (fun cc2 => ?_) (fun cc2 => ?_)
    · skip
      unfold f_SF_more_44
      refine qk_some ?_
      exact ⟨T, (by first | with_reducible assumption | grind | grind (ematch := 40) (gen := 40) (splits := 40) | lia), (by first | with_reducible assumption | grind | grind (ematch := 40) (gen := 40) (splits := 40) | lia), (by first | with_reducible assumption | grind | grind (ematch := 40) (gen := 40) (splits := 40) | lia), (by first | with_reducible assumption | grind | grind (ematch := 40) (gen := 40) (splits := 40) | lia), (by first | with_reducible assumption | grind | grind (ematch := 40) (gen := 40) (splits := 40) | lia), (by first | with_reducible assumption | grind | grind (ematch := 40) (gen := 40) (splits := 40) | lia), (by first | with_reducible assumption | grind | grind (ematch := 40) (gen := 40) (splits := 40) | lia)⟩
    · skip
      refine r_SF_1 T kv0 ?_
      refine r_SF_5 T kv0 ?_
      intro x6 ex6 lx6 ux6
      subst ex6
      refine r_SF_e3 T kv0 (by first | with_reducible assumption | grind | grind (ematch := 40) (gen := 40) (splits := 40) | lia) (by first | with_reducible assumption | grind | grind (ematch := 40) (gen := 40) (splits := 40) | lia) ?_
      intro kx7 px7 bx7
      have hrx7 := q_rowhi T kx7
      refine c_SF_textLength (v0 := v1) T (by first | with_reducible assumption | grind | grind (ematch := 40) (gen := 40) (splits := 40) | lia) ?_
      intro yr8 gr8_0
      dsimp only
      refine r_Row_o T kx7 ?_
      refine c_Row_hasRoom (v0 := (v0 + (528 + 2 * Int32.toNatClampNeg ((vI h v0 5) - 1)))) (v1 := (yr8)) T kx7 ?_
      intro yr10 gr10_0 gr10_1
      dsimp only
      refine qk_if (fun cc4 => ?_) (fun cc4 => ?_)
      · skip
        unfold f_SF_more_44
        refine qk_some ?_
        exact ⟨T, (by first | with_reducible assumption | grind | grind (ematch := 40) (gen := 40) (splits := 40) | lia), (by first | with_reducible assumption | grind | grind (ematch := 40) (gen := 40) (splits := 40) | lia), (by first | with_reducible assumption | grind | grind (ematch := 40) (gen := 40) (splits := 40) | lia), (by first | with_reducible assumption | grind | grind (ematch := 40) (gen := 40) (splits := 40) | lia), (by first | with_reducible assumption | grind | grind (ematch := 40) (gen := 40) (splits := 40) | lia), (by first | with_reducible assumption | grind | grind (ematch := 40) (gen := 40) (splits := 40) | lia), (by first | with_reducible assumption | grind | grind (ematch := 40) (gen := 40) (splits := 40) | lia)⟩
      · skip
        refine r_SF_1 T kv0 ?_
        refine r_SF_5 T kv0 ?_
        intro x13 ex13 lx13 ux13
        subst ex13
        refine r_SF_e3 T kv0 (by first | with_reducible assumption | grind | grind (ematch := 40) (gen := 40) (splits := 40) | lia) (by first | with_reducible assumption | grind | grind (ematch := 40) (gen := 40) (splits := 40) | lia) ?_
        intro kx14 px14 bx14
        have hrx14 := q_rowhi T kx14
        refine c_SF_addText (v0 := (v0 + (528 + 2 * Int32.toNatClampNeg ((vI h v0 5) - 1)))) (v1 := v1) T kx14 (by first | with_reducible assumption | grind | grind (ematch := 40) (gen := 40) (splits := 40) | lia) (by first | with_reducible assumption | grind | grind (ematch := 40) (gen := 40) (splits := 40) | lia) (by first | with_reducible assumption | grind | grind (ematch := 40) (gen := 40) (splits := 40) | lia) ?_
        intro r15 Tr15 gr15_0 gr15_1 gr15_2
        refine r_Row_1 Tr15 kx14 ?_
        intro x16 ex16 lx16 ux16 mx16
        subst ex16
        refine qk_some ?_
        exact ⟨Tr15, (by first | with_reducible assumption | grind | grind (ematch := 40) (gen := 40) (splits := 40) | lia), (by first | with_reducible assumption | grind | grind (ematch := 40) (gen := 40) (splits := 40) | lia), (by first | with_reducible assumption | grind | grind (ematch := 40) (gen := 40) (splits := 40) | lia), (by first | with_reducible assumption | grind | grind (ematch := 40) (gen := 40) (splits := 40) | lia), (by first | with_reducible assumption | grind | grind (ematch := 40) (gen := 40) (splits := 40) | lia), (by first | with_reducible assumption | grind | grind (ematch := 40) (gen := 40) (splits := 40) | lia), (by first | with_reducible assumption | grind | grind (ematch := 40) (gen := 40) (splits := 40) | lia)⟩

set_option maxHeartbeats 4000000 in
theorem p9_SF_match {L : q_L} {W : Nat → Prop} {h0 : z_H} {π : Nat → Nat → Option Nat} {N : Nat} {p : Nat} {h : z_H} {v0 : Nat} {v1 : Int32} {v2 : Int32} {v3 : Int32} (T : q_U L W h0 π h) (kv0 : qκ L v0 = 12) (kp : qκ L p = 10) (pp : π v0 6 = some p) (wS : ∀ a, v0 + 25 ≤ a ∧ a < v0 + 30 → W a) (PG : q_PG h p) (hp1 : v0 + 30 ≤ p) (hp2 : p + 249 ≤ v0 + 552) (hN : 100000 ≤ N) : qk (f_SF_match N v0 v1 v2 v3 h) (fun r => ∃ π1, q_U L W h0 π1 r.2 ∧ (∀ a k, ¬ (a = (v0 + 25) ∧ k = 2) → ¬ (a = (v0 + 25) ∧ k = 3) → ¬ (a = (v0 + 25) ∧ k = 4) → π1 a k = π a k) ∧ (∀ E, r.1 = .inr E → E = xE1 ∨ E = xE2 ∨ E = xE3) ∧ (∀ a k, a ≠ v0 + 25 → vI r.2 a k = vI h a k) ∧ (∀ a j, 0 ≤ j → ¬ (v0 + 25 < a ∧ a < v0 + 30) → vA r.2 a j = vA h a j)) := by
  have csf := q_CSF T kv0
  unfold q_C_SF at csf
  have hrs := q_rowhi T csf.1
  have t5 := T.2.2.2.1 v0 5
  have cpg := q_CProg T kp
  unfold q_C_Prog at cpg
  have tp := T.2.2.2.1 p 3
  unfold f_SF_match
  refine qk_if (fun cc1 => ?_) (fun cc1 => ?_)
  · skip
    unfold f_SF_match_10
    refine qk_some ?_
    exact ⟨_, T, (by first | with_reducible assumption | grind | grind (ematch := 40) (gen := 40) (splits := 40) | lia), (by first | with_reducible assumption | grind | grind (ematch := 40) (gen := 40) (splits := 40) | lia), (by first | with_reducible assumption | grind | grind (ematch := 40) (gen := 40) (splits := 40) | lia), (by first | with_reducible assumption | grind | grind (ematch := 40) (gen := 40) (splits := 40) | lia)⟩
  · skip
    refine qk_if (fun cc3 => ?_) (fun cc3 => ?_)
    · skip
      refine r_SF_8 T kv0 ?_
      intro x3 ex3
      subst ex3
      refine qk_if (fun cc4 => ?_) (fun cc4 => ?_)
      · skip
        refine qk_some ?_
        exact ⟨_, T, (by first | with_reducible assumption | grind | grind (ematch := 40) (gen := 40) (splits := 40) | lia), (by first | with_reducible assumption | grind | grind (ematch := 40) (gen := 40) (splits := 40) | lia), (by first | with_reducible assumption | grind | grind (ematch := 40) (gen := 40) (splits := 40) | lia), (by first | with_reducible assumption | grind | grind (ematch := 40) (gen := 40) (splits := 40) | lia)⟩
      · skip
        refine qk_if (fun cc5 => ?_) (fun cc5 => ?_)
        · skip
          unfold f_SF_match_48
          refine qk_some ?_
          exact ⟨_, T, (by first | with_reducible assumption | grind | grind (ematch := 40) (gen := 40) (splits := 40) | lia), (by first | with_reducible assumption | grind | grind (ematch := 40) (gen := 40) (splits := 40) | lia), (by first | with_reducible assumption | grind | grind (ematch := 40) (gen := 40) (splits := 40) | lia), (by first | with_reducible assumption | grind | grind (ematch := 40) (gen := 40) (splits := 40) | lia)⟩
        · skip
          refine r_SF_6 T kv0 pp ?_
          refine r_Prog_3 T kp ?_
          intro x7 ex7 lx7 ux7
          subst ex7
          refine qk_if (fun cc7 => ?_) (fun cc7 => ?_)
          · skip
            refine r_SF_6 T kv0 pp ?_
            refine r_Prog_2 T kp ?_
            refine r_Prog_e8 T kp (by first | with_reducible assumption | grind | grind (ematch := 40) (gen := 40) (splits := 40) | lia) (by first | with_reducible assumption | grind | grind (ematch := 40) (gen := 40) (splits := 40) | lia) ?_
            intro kx11 bx11
            refine r_Cmd_3 T kx11 ?_
            intro x12 ex12
            subst ex12
            refine qk_if (fun cc8 => ?_) (fun cc8 => ?_)
            · skip
              refine qk_if (fun cc9 => ?_) (fun cc9 => ?_)
              · skip
                unfold f_SF_match_97
                refine qk_some ?_
                exact ⟨_, T, (by first | with_reducible assumption | grind | grind (ematch := 40) (gen := 40) (splits := 40) | lia), (by first | with_reducible assumption | grind | grind (ematch := 40) (gen := 40) (splits := 40) | lia), (by first | with_reducible assumption | grind | grind (ematch := 40) (gen := 40) (splits := 40) | lia), (by first | with_reducible assumption | grind | grind (ematch := 40) (gen := 40) (splits := 40) | lia)⟩
              · skip
                refine r_SF_5 T kv0 ?_
                intro x15 ex15 lx15 ux15
                subst ex15
                refine qk_if (fun cc11 => ?_) (fun cc11 => ?_)
                · skip
                  refine r_SF_4 T kv0 ?_
                  intro kx17
                  refine r_SF_6 T kv0 pp ?_
                  refine r_Prog_1 T kp ?_
                  intro kx19
                  refine r_Cmd_2 T kx11 ?_
                  intro kx20
                  refine r_SF_1 T kv0 ?_
                  refine r_SF_e3 T kv0 (by first | with_reducible assumption | grind | grind (ematch := 40) (gen := 40) (splits := 40) | lia) (by first | with_reducible assumption | grind | grind (ematch := 40) (gen := 40) (splits := 40) | lia) ?_
                  intro kx22 px22 bx22
                  have hrx22 := q_rowhi T kx22
                  refine r_Ma_o T kx17 ?_
                  refine c_Ma_find (v0 := (v0 + 25)) (v1 := (p + 3)) (v2 := ((p + (9 + 6 * Int32.toNatClampNeg v1)) + 5)) (v3 := (v0 + (528 + 2 * Int32.toNatClampNeg v2))) (v4 := 0) T kx17 kx19 kx20 kx22 (by first | with_reducible assumption | grind | grind (ematch := 40) (gen := 40) (splits := 40) | lia) (by first | with_reducible assumption | grind | grind (ematch := 40) (gen := 40) (splits := 40) | lia) (by first | with_reducible assumption | grind | grind (ematch := 40) (gen := 40) (splits := 40) | lia) (by first | with_reducible assumption | grind | grind (ematch := 40) (gen := 40) (splits := 40) | lia) (by first | with_reducible assumption | grind | grind (ematch := 40) (gen := 40) (splits := 40) | lia) (by exact ((PG _ (by grind) (by grind)).1.2.2 (by grind)).1) (by exact q_hg T kx19) (by first | with_reducible assumption | grind | grind (ematch := 40) (gen := 40) (splits := 40) | lia) (by first | with_reducible assumption | grind | grind (ematch := 40) (gen := 40) (splits := 40) | lia) (by first | with_reducible assumption | grind | grind (ematch := 40) (gen := 40) (splits := 40) | lia) ?_
                  intro yr24 πr24 hr24 Tr24 zr24 zr24q0 zr24q1 zr24q2 gr24_0 gr24_1 gr24_2 gr24_3
                  have pp_r24 : πr24 v0 6 = some p := by rw [zr24 v0 6 (by grind) (by grind) (by grind)]; exact pp
                  dsimp only
                  refine qk_if (fun cc12 => ?_) (fun cc12 => ?_)
                  · skip
                    refine qk_some ?_
                    exact ⟨_, Tr24, (by first | with_reducible assumption | grind | grind (ematch := 40) (gen := 40) (splits := 40) | lia), (by first | with_reducible assumption | grind | grind (ematch := 40) (gen := 40) (splits := 40) | lia), (by first | with_reducible assumption | grind | grind (ematch := 40) (gen := 40) (splits := 40) | lia), (by first | with_reducible assumption | grind | grind (ematch := 40) (gen := 40) (splits := 40) | lia)⟩
                  · skip
                    refine r_SF_4 Tr24 kv0 ?_
                    intro kx26
                    refine r_Ma_o Tr24 kx26 ?_
                    refine c_Ma_told (v0 := (v0 + 25)) (v1 := v3) (pt := ((p + (9 + 6 * Int32.toNatClampNeg v1)) + 5)) Tr24 kx26 kx20 zr24q1 (by first | with_reducible assumption | grind | grind (ematch := 40) (gen := 40) (splits := 40) | lia) (by first | with_reducible assumption | grind | grind (ematch := 40) (gen := 40) (splits := 40) | lia) ?_
                    intro yr28 
                    dsimp only
                    refine qk_some ?_
                    exact ⟨_, Tr24, (by first | with_reducible assumption | grind | grind (ematch := 40) (gen := 40) (splits := 40) | lia), (by first | with_reducible assumption | grind | grind (ematch := 40) (gen := 40) (splits := 40) | lia), (by first | with_reducible assumption | grind | grind (ematch := 40) (gen := 40) (splits := 40) | lia), (by first | with_reducible assumption | grind | grind (ematch := 40) (gen := 40) (splits := 40) | lia)⟩
                · skip
                  unfold f_SF_match_97
                  refine qk_some ?_
                  exact ⟨_, T, (by first | with_reducible assumption | grind | grind (ematch := 40) (gen := 40) (splits := 40) | lia), (by first | with_reducible assumption | grind | grind (ematch := 40) (gen := 40) (splits := 40) | lia), (by first | with_reducible assumption | grind | grind (ematch := 40) (gen := 40) (splits := 40) | lia), (by first | with_reducible assumption | grind | grind (ematch := 40) (gen := 40) (splits := 40) | lia)⟩
            · skip
              refine qk_some ?_
              exact ⟨_, T, (by first | with_reducible assumption | grind | grind (ematch := 40) (gen := 40) (splits := 40) | lia), (by first | with_reducible assumption | grind | grind (ematch := 40) (gen := 40) (splits := 40) | lia), (by first | with_reducible assumption | grind | grind (ematch := 40) (gen := 40) (splits := 40) | lia), (by first | with_reducible assumption | grind | grind (ematch := 40) (gen := 40) (splits := 40) | lia)⟩
          · skip
            unfold f_SF_match_48
            refine qk_some ?_
            exact ⟨_, T, (by first | with_reducible assumption | grind | grind (ematch := 40) (gen := 40) (splits := 40) | lia), (by first | with_reducible assumption | grind | grind (ematch := 40) (gen := 40) (splits := 40) | lia), (by first | with_reducible assumption | grind | grind (ematch := 40) (gen := 40) (splits := 40) | lia), (by first | with_reducible assumption | grind | grind (ematch := 40) (gen := 40) (splits := 40) | lia)⟩
    · skip
      unfold f_SF_match_10
      refine qk_some ?_
      exact ⟨_, T, (by first | with_reducible assumption | grind | grind (ematch := 40) (gen := 40) (splits := 40) | lia), (by first | with_reducible assumption | grind | grind (ematch := 40) (gen := 40) (splits := 40) | lia), (by first | with_reducible assumption | grind | grind (ematch := 40) (gen := 40) (splits := 40) | lia), (by first | with_reducible assumption | grind | grind (ematch := 40) (gen := 40) (splits := 40) | lia)⟩

set_option maxHeartbeats 2000000 in
theorem p9_SF_out {L : q_L} {W : Nat → Prop} {h0 : z_H} {π : Nat → Nat → Option Nat} {N : Nat} {h : z_H} {v0 : Nat} {v1 : Int32} (T : q_U L W h0 π h) (kv0 : qκ L v0 = 12) (wS : ∀ a, False → W a) : qk (f_SF_out N v0 v1 h) (fun r => q_U L W h0 π r.2 ∧ (∀ E, r.1 = .inr E → E = xE3) ∧ (∀ a k, vI r.2 a k = vI h a k) ∧ (∀ a j, vA r.2 a j = vA h a j)) := by
  have csf := q_CSF T kv0
  unfold q_C_SF at csf
  have hrs := q_rowhi T csf.1
  unfold f_SF_out
  refine r_SF_3 T kv0 ?_
  intro kx1
  refine r_Ed_0 T kx1 ?_
  intro kx2 px2
  refine r_Row_o T kx2 ?_
  refine c_Row_at (v0 := ((v0 + 9) + 1)) (v1 := v1) T kx2 ?_
  intro yr4 gr4_0
  dsimp only
  refine qk_bs ?_
  refine qk_if (fun cc1 => ?_) (fun cc1 => ?_)
  · skip
    refine qk_some ?_
    exact ⟨T, (by first | with_reducible assumption | grind | grind (ematch := 40) (gen := 40) (splits := 40) | lia), (by first | with_reducible assumption | grind | grind (ematch := 40) (gen := 40) (splits := 40) | lia), (by first | with_reducible assumption | grind | grind (ematch := 40) (gen := 40) (splits := 40) | lia)⟩
  · skip
    refine qk_some ?_
    exact ⟨T, (by first | with_reducible assumption | grind | grind (ematch := 40) (gen := 40) (splits := 40) | lia), (by first | with_reducible assumption | grind | grind (ematch := 40) (gen := 40) (splits := 40) | lia), (by first | with_reducible assumption | grind | grind (ematch := 40) (gen := 40) (splits := 40) | lia)⟩

set_option maxHeartbeats 2000000 in
theorem p9_SF_ran {L : q_L} {W : Nat → Prop} {h0 : z_H} {π : Nat → Nat → Option Nat} {N : Nat} {sp : Nat} {ho : Nat} {h : z_H} {v0 : Nat} {v1 : Int32} (T : q_U L W h0 π h) (kv0 : qκ L v0 = 12) (ksp : qκ L sp = 11) (psp : π (v0 + 9) 1 = some sp) (kho : qκ L ho = 11) (pho : π (v0 + 9) 2 = some ho) (wS : ∀ a, False → W a) : qk (f_SF_ran N v0 v1 h) (fun r => q_U L W h0 π r.2 ∧ (∀ E, r.1 = .inr E → E = xE1) ∧ (∀ a k, vI r.2 a k = vI h a k) ∧ (∀ a j, vA r.2 a j = vA h a j)) := by
  have hr_sp := q_rowhi T ksp
  have hr_ho := q_rowhi T kho
  have csf := q_CSF T kv0
  unfold q_C_SF at csf
  have hrs := q_rowhi T csf.1
  unfold f_SF_ran
  refine qk_if (fun cc1 => ?_) (fun cc1 => ?_)
  · skip
    unfold f_SF_ran_27
    refine qk_if (fun cc3 => ?_) (fun cc3 => ?_)
    · skip
      unfold f_SF_ran_55
      refine qk_if (fun cc5 => ?_) (fun cc5 => ?_)
      · skip
        refine r_SF_3 T kv0 ?_
        intro kx2i4
        refine r_Ed_0 T kx2i4 ?_
        intro kx3i4 px3i4
        refine r_Row_1 T kx3i4 ?_
        intro x4i4 ex4i4 lx4i4 ux4i4 mx4i4
        subst ex4i4
        refine qk_some ?_
        exact ⟨T, (by first | with_reducible assumption | grind | grind (ematch := 40) (gen := 40) (splits := 40) | lia), (by first | with_reducible assumption | grind | grind (ematch := 40) (gen := 40) (splits := 40) | lia), (by first | with_reducible assumption | grind | grind (ematch := 40) (gen := 40) (splits := 40) | lia)⟩
      · skip
        refine qk_if (fun cc6 => ?_) (fun cc6 => ?_)
        · skip
          refine r_SF_3 T kv0 ?_
          intro kx6i4
          refine r_Ed_3 T kx6i4 ?_
          intro x7i4 ex7i4 lx7i4 ux7i4
          subst ex7i4
          refine qk_some ?_
          exact ⟨T, (by first | with_reducible assumption | grind | grind (ematch := 40) (gen := 40) (splits := 40) | lia), (by first | with_reducible assumption | grind | grind (ematch := 40) (gen := 40) (splits := 40) | lia), (by first | with_reducible assumption | grind | grind (ematch := 40) (gen := 40) (splits := 40) | lia)⟩
        · skip
          refine qk_if (fun cc7 => ?_) (fun cc7 => ?_)
          · skip
            refine r_SF_3 T kv0 ?_
            intro kx9i4
            refine r_Ed_4 T kx9i4 ?_
            intro x10i4 ex10i4 lx10i4 ux10i4
            subst ex10i4
            refine qk_some ?_
            exact ⟨T, (by first | with_reducible assumption | grind | grind (ematch := 40) (gen := 40) (splits := 40) | lia), (by first | with_reducible assumption | grind | grind (ematch := 40) (gen := 40) (splits := 40) | lia), (by first | with_reducible assumption | grind | grind (ematch := 40) (gen := 40) (splits := 40) | lia)⟩
          · skip
            refine qk_if (fun cc8 => ?_) (fun cc8 => ?_)
            · skip
              refine r_SF_3 T kv0 ?_
              intro kx12i4
              refine r_Ed_5 T kx12i4 ?_
              intro x13i4 ex13i4
              subst ex13i4
              refine qk_some ?_
              exact ⟨T, (by first | with_reducible assumption | grind | grind (ematch := 40) (gen := 40) (splits := 40) | lia), (by first | with_reducible assumption | grind | grind (ematch := 40) (gen := 40) (splits := 40) | lia), (by first | with_reducible assumption | grind | grind (ematch := 40) (gen := 40) (splits := 40) | lia)⟩
            · skip
              refine qk_if (fun cc9 => ?_) (fun cc9 => ?_)
              · skip
                refine r_SF_3 T kv0 ?_
                intro kx15i4
                refine r_Ed_6 T kx15i4 ?_
                intro x16i4 ex16i4
                subst ex16i4
                refine qk_some ?_
                exact ⟨T, (by first | with_reducible assumption | grind | grind (ematch := 40) (gen := 40) (splits := 40) | lia), (by first | with_reducible assumption | grind | grind (ematch := 40) (gen := 40) (splits := 40) | lia), (by first | with_reducible assumption | grind | grind (ematch := 40) (gen := 40) (splits := 40) | lia)⟩
              · skip
                refine qk_some ?_
                exact ⟨T, (by first | with_reducible assumption | grind | grind (ematch := 40) (gen := 40) (splits := 40) | lia), (by first | with_reducible assumption | grind | grind (ematch := 40) (gen := 40) (splits := 40) | lia), (by first | with_reducible assumption | grind | grind (ematch := 40) (gen := 40) (splits := 40) | lia)⟩
    · skip
      refine qk_if (fun cc10 => ?_) (fun cc10 => ?_)
      · skip
        unfold f_SF_ran_55
        refine qk_if (fun cc12 => ?_) (fun cc12 => ?_)
        · skip
          refine r_SF_3 T kv0 ?_
          intro kx2i11
          refine r_Ed_0 T kx2i11 ?_
          intro kx3i11 px3i11
          refine r_Row_1 T kx3i11 ?_
          intro x4i11 ex4i11 lx4i11 ux4i11 mx4i11
          subst ex4i11
          refine qk_some ?_
          exact ⟨T, (by first | with_reducible assumption | grind | grind (ematch := 40) (gen := 40) (splits := 40) | lia), (by first | with_reducible assumption | grind | grind (ematch := 40) (gen := 40) (splits := 40) | lia), (by first | with_reducible assumption | grind | grind (ematch := 40) (gen := 40) (splits := 40) | lia)⟩
        · skip
          refine qk_if (fun cc13 => ?_) (fun cc13 => ?_)
          · skip
            refine r_SF_3 T kv0 ?_
            intro kx6i11
            refine r_Ed_3 T kx6i11 ?_
            intro x7i11 ex7i11 lx7i11 ux7i11
            subst ex7i11
            refine qk_some ?_
            exact ⟨T, (by first | with_reducible assumption | grind | grind (ematch := 40) (gen := 40) (splits := 40) | lia), (by first | with_reducible assumption | grind | grind (ematch := 40) (gen := 40) (splits := 40) | lia), (by first | with_reducible assumption | grind | grind (ematch := 40) (gen := 40) (splits := 40) | lia)⟩
          · skip
            refine qk_if (fun cc14 => ?_) (fun cc14 => ?_)
            · skip
              refine r_SF_3 T kv0 ?_
              intro kx9i11
              refine r_Ed_4 T kx9i11 ?_
              intro x10i11 ex10i11 lx10i11 ux10i11
              subst ex10i11
              refine qk_some ?_
              exact ⟨T, (by first | with_reducible assumption | grind | grind (ematch := 40) (gen := 40) (splits := 40) | lia), (by first | with_reducible assumption | grind | grind (ematch := 40) (gen := 40) (splits := 40) | lia), (by first | with_reducible assumption | grind | grind (ematch := 40) (gen := 40) (splits := 40) | lia)⟩
            · skip
              refine qk_if (fun cc15 => ?_) (fun cc15 => ?_)
              · skip
                refine r_SF_3 T kv0 ?_
                intro kx12i11
                refine r_Ed_5 T kx12i11 ?_
                intro x13i11 ex13i11
                subst ex13i11
                refine qk_some ?_
                exact ⟨T, (by first | with_reducible assumption | grind | grind (ematch := 40) (gen := 40) (splits := 40) | lia), (by first | with_reducible assumption | grind | grind (ematch := 40) (gen := 40) (splits := 40) | lia), (by first | with_reducible assumption | grind | grind (ematch := 40) (gen := 40) (splits := 40) | lia)⟩
              · skip
                refine qk_if (fun cc16 => ?_) (fun cc16 => ?_)
                · skip
                  refine r_SF_3 T kv0 ?_
                  intro kx15i11
                  refine r_Ed_6 T kx15i11 ?_
                  intro x16i11 ex16i11
                  subst ex16i11
                  refine qk_some ?_
                  exact ⟨T, (by first | with_reducible assumption | grind | grind (ematch := 40) (gen := 40) (splits := 40) | lia), (by first | with_reducible assumption | grind | grind (ematch := 40) (gen := 40) (splits := 40) | lia), (by first | with_reducible assumption | grind | grind (ematch := 40) (gen := 40) (splits := 40) | lia)⟩
                · skip
                  refine qk_some ?_
                  exact ⟨T, (by first | with_reducible assumption | grind | grind (ematch := 40) (gen := 40) (splits := 40) | lia), (by first | with_reducible assumption | grind | grind (ematch := 40) (gen := 40) (splits := 40) | lia), (by first | with_reducible assumption | grind | grind (ematch := 40) (gen := 40) (splits := 40) | lia)⟩
      · skip
        refine r_SF_3 T kv0 ?_
        intro kx3i2
        refine r_Ed_2 T kx3i2 pho ?_
        refine r_Row_o T kho ?_
        refine c_Row_at (v0 := ho) (v1 := (v1 - 100)) T kho ?_
        intro yr6i2 gr6i2_0
        dsimp only
        refine qk_some ?_
        exact ⟨T, (by first | with_reducible assumption | grind | grind (ematch := 40) (gen := 40) (splits := 40) | lia), (by first | with_reducible assumption | grind | grind (ematch := 40) (gen := 40) (splits := 40) | lia), (by first | with_reducible assumption | grind | grind (ematch := 40) (gen := 40) (splits := 40) | lia)⟩
  · skip
    refine qk_if (fun cc17 => ?_) (fun cc17 => ?_)
    · skip
      unfold f_SF_ran_27
      refine qk_if (fun cc19 => ?_) (fun cc19 => ?_)
      · skip
        unfold f_SF_ran_55
        refine qk_if (fun cc21 => ?_) (fun cc21 => ?_)
        · skip
          refine r_SF_3 T kv0 ?_
          intro kx2i20
          refine r_Ed_0 T kx2i20 ?_
          intro kx3i20 px3i20
          refine r_Row_1 T kx3i20 ?_
          intro x4i20 ex4i20 lx4i20 ux4i20 mx4i20
          subst ex4i20
          refine qk_some ?_
          exact ⟨T, (by first | with_reducible assumption | grind | grind (ematch := 40) (gen := 40) (splits := 40) | lia), (by first | with_reducible assumption | grind | grind (ematch := 40) (gen := 40) (splits := 40) | lia), (by first | with_reducible assumption | grind | grind (ematch := 40) (gen := 40) (splits := 40) | lia)⟩
        · skip
          refine qk_if (fun cc22 => ?_) (fun cc22 => ?_)
          · skip
            refine r_SF_3 T kv0 ?_
            intro kx6i20
            refine r_Ed_3 T kx6i20 ?_
            intro x7i20 ex7i20 lx7i20 ux7i20
            subst ex7i20
            refine qk_some ?_
            exact ⟨T, (by first | with_reducible assumption | grind | grind (ematch := 40) (gen := 40) (splits := 40) | lia), (by first | with_reducible assumption | grind | grind (ematch := 40) (gen := 40) (splits := 40) | lia), (by first | with_reducible assumption | grind | grind (ematch := 40) (gen := 40) (splits := 40) | lia)⟩
          · skip
            refine qk_if (fun cc23 => ?_) (fun cc23 => ?_)
            · skip
              refine r_SF_3 T kv0 ?_
              intro kx9i20
              refine r_Ed_4 T kx9i20 ?_
              intro x10i20 ex10i20 lx10i20 ux10i20
              subst ex10i20
              refine qk_some ?_
              exact ⟨T, (by first | with_reducible assumption | grind | grind (ematch := 40) (gen := 40) (splits := 40) | lia), (by first | with_reducible assumption | grind | grind (ematch := 40) (gen := 40) (splits := 40) | lia), (by first | with_reducible assumption | grind | grind (ematch := 40) (gen := 40) (splits := 40) | lia)⟩
            · skip
              refine qk_if (fun cc24 => ?_) (fun cc24 => ?_)
              · skip
                refine r_SF_3 T kv0 ?_
                intro kx12i20
                refine r_Ed_5 T kx12i20 ?_
                intro x13i20 ex13i20
                subst ex13i20
                refine qk_some ?_
                exact ⟨T, (by first | with_reducible assumption | grind | grind (ematch := 40) (gen := 40) (splits := 40) | lia), (by first | with_reducible assumption | grind | grind (ematch := 40) (gen := 40) (splits := 40) | lia), (by first | with_reducible assumption | grind | grind (ematch := 40) (gen := 40) (splits := 40) | lia)⟩
              · skip
                refine qk_if (fun cc25 => ?_) (fun cc25 => ?_)
                · skip
                  refine r_SF_3 T kv0 ?_
                  intro kx15i20
                  refine r_Ed_6 T kx15i20 ?_
                  intro x16i20 ex16i20
                  subst ex16i20
                  refine qk_some ?_
                  exact ⟨T, (by first | with_reducible assumption | grind | grind (ematch := 40) (gen := 40) (splits := 40) | lia), (by first | with_reducible assumption | grind | grind (ematch := 40) (gen := 40) (splits := 40) | lia), (by first | with_reducible assumption | grind | grind (ematch := 40) (gen := 40) (splits := 40) | lia)⟩
                · skip
                  refine qk_some ?_
                  exact ⟨T, (by first | with_reducible assumption | grind | grind (ematch := 40) (gen := 40) (splits := 40) | lia), (by first | with_reducible assumption | grind | grind (ematch := 40) (gen := 40) (splits := 40) | lia), (by first | with_reducible assumption | grind | grind (ematch := 40) (gen := 40) (splits := 40) | lia)⟩
      · skip
        refine qk_if (fun cc26 => ?_) (fun cc26 => ?_)
        · skip
          unfold f_SF_ran_55
          refine qk_if (fun cc28 => ?_) (fun cc28 => ?_)
          · skip
            refine r_SF_3 T kv0 ?_
            intro kx2i27
            refine r_Ed_0 T kx2i27 ?_
            intro kx3i27 px3i27
            refine r_Row_1 T kx3i27 ?_
            intro x4i27 ex4i27 lx4i27 ux4i27 mx4i27
            subst ex4i27
            refine qk_some ?_
            exact ⟨T, (by first | with_reducible assumption | grind | grind (ematch := 40) (gen := 40) (splits := 40) | lia), (by first | with_reducible assumption | grind | grind (ematch := 40) (gen := 40) (splits := 40) | lia), (by first | with_reducible assumption | grind | grind (ematch := 40) (gen := 40) (splits := 40) | lia)⟩
          · skip
            refine qk_if (fun cc29 => ?_) (fun cc29 => ?_)
            · skip
              refine r_SF_3 T kv0 ?_
              intro kx6i27
              refine r_Ed_3 T kx6i27 ?_
              intro x7i27 ex7i27 lx7i27 ux7i27
              subst ex7i27
              refine qk_some ?_
              exact ⟨T, (by first | with_reducible assumption | grind | grind (ematch := 40) (gen := 40) (splits := 40) | lia), (by first | with_reducible assumption | grind | grind (ematch := 40) (gen := 40) (splits := 40) | lia), (by first | with_reducible assumption | grind | grind (ematch := 40) (gen := 40) (splits := 40) | lia)⟩
            · skip
              refine qk_if (fun cc30 => ?_) (fun cc30 => ?_)
              · skip
                refine r_SF_3 T kv0 ?_
                intro kx9i27
                refine r_Ed_4 T kx9i27 ?_
                intro x10i27 ex10i27 lx10i27 ux10i27
                subst ex10i27
                refine qk_some ?_
                exact ⟨T, (by first | with_reducible assumption | grind | grind (ematch := 40) (gen := 40) (splits := 40) | lia), (by first | with_reducible assumption | grind | grind (ematch := 40) (gen := 40) (splits := 40) | lia), (by first | with_reducible assumption | grind | grind (ematch := 40) (gen := 40) (splits := 40) | lia)⟩
              · skip
                refine qk_if (fun cc31 => ?_) (fun cc31 => ?_)
                · skip
                  refine r_SF_3 T kv0 ?_
                  intro kx12i27
                  refine r_Ed_5 T kx12i27 ?_
                  intro x13i27 ex13i27
                  subst ex13i27
                  refine qk_some ?_
                  exact ⟨T, (by first | with_reducible assumption | grind | grind (ematch := 40) (gen := 40) (splits := 40) | lia), (by first | with_reducible assumption | grind | grind (ematch := 40) (gen := 40) (splits := 40) | lia), (by first | with_reducible assumption | grind | grind (ematch := 40) (gen := 40) (splits := 40) | lia)⟩
                · skip
                  refine qk_if (fun cc32 => ?_) (fun cc32 => ?_)
                  · skip
                    refine r_SF_3 T kv0 ?_
                    intro kx15i27
                    refine r_Ed_6 T kx15i27 ?_
                    intro x16i27 ex16i27
                    subst ex16i27
                    refine qk_some ?_
                    exact ⟨T, (by first | with_reducible assumption | grind | grind (ematch := 40) (gen := 40) (splits := 40) | lia), (by first | with_reducible assumption | grind | grind (ematch := 40) (gen := 40) (splits := 40) | lia), (by first | with_reducible assumption | grind | grind (ematch := 40) (gen := 40) (splits := 40) | lia)⟩
                  · skip
                    refine qk_some ?_
                    exact ⟨T, (by first | with_reducible assumption | grind | grind (ematch := 40) (gen := 40) (splits := 40) | lia), (by first | with_reducible assumption | grind | grind (ematch := 40) (gen := 40) (splits := 40) | lia), (by first | with_reducible assumption | grind | grind (ematch := 40) (gen := 40) (splits := 40) | lia)⟩
        · skip
          refine r_SF_3 T kv0 ?_
          intro kx3i18
          refine r_Ed_2 T kx3i18 pho ?_
          refine r_Row_o T kho ?_
          refine c_Row_at (v0 := ho) (v1 := (v1 - 100)) T kho ?_
          intro yr6i18 gr6i18_0
          dsimp only
          refine qk_some ?_
          exact ⟨T, (by first | with_reducible assumption | grind | grind (ematch := 40) (gen := 40) (splits := 40) | lia), (by first | with_reducible assumption | grind | grind (ematch := 40) (gen := 40) (splits := 40) | lia), (by first | with_reducible assumption | grind | grind (ematch := 40) (gen := 40) (splits := 40) | lia)⟩
    · skip
      refine r_SF_3 T kv0 ?_
      intro kx3
      refine r_Ed_1 T kx3 psp ?_
      refine r_Row_o T ksp ?_
      refine c_Row_at (v0 := sp) (v1 := (v1 - 10)) T ksp ?_
      intro yr6 gr6_0
      dsimp only
      refine qk_some ?_
      exact ⟨T, (by first | with_reducible assumption | grind | grind (ematch := 40) (gen := 40) (splits := 40) | lia), (by first | with_reducible assumption | grind | grind (ematch := 40) (gen := 40) (splits := 40) | lia), (by first | with_reducible assumption | grind | grind (ematch := 40) (gen := 40) (splits := 40) | lia)⟩

set_option maxHeartbeats 2000000 in
theorem p9_SF_count {L : q_L} {W : Nat → Prop} {h0 : z_H} {π : Nat → Nat → Option Nat} {N : Nat} {p : Nat} {h : z_H} {v0 : Nat} {v1 : Int32} (T : q_U L W h0 π h) (kv0 : qκ L v0 = 12) (kp : qκ L p = 10) (pp : π v0 6 = some p) (wS : ∀ a, False → W a) : qk (f_SF_count N v0 v1 h) (fun r => q_U L W h0 π r.2 ∧ (∀ E, r.1 = .inr E → E = xE1) ∧ (∀ a k, vI r.2 a k = vI h a k) ∧ (∀ a j, vA r.2 a j = vA h a j)) := by
  have csf := q_CSF T kv0
  unfold q_C_SF at csf
  have hrs := q_rowhi T csf.1
  have t5 := T.2.2.2.1 v0 5
  unfold f_SF_count
  refine qk_if (fun cc1 => ?_) (fun cc1 => ?_)
  · skip
    refine qk_if (fun cc2 => ?_) (fun cc2 => ?_)
    · skip
      refine r_SF_0 T kv0 ?_
      intro kx3 px3
      refine r_Row_1 T kx3 ?_
      intro x4 ex4 lx4 ux4 mx4
      subst ex4
      refine qk_some ?_
      exact ⟨T, (by first | with_reducible assumption | grind | grind (ematch := 40) (gen := 40) (splits := 40) | lia), (by first | with_reducible assumption | grind | grind (ematch := 40) (gen := 40) (splits := 40) | lia), (by first | with_reducible assumption | grind | grind (ematch := 40) (gen := 40) (splits := 40) | lia)⟩
    · skip
      refine qk_if (fun cc3 => ?_) (fun cc3 => ?_)
      · skip
        refine r_SF_5 T kv0 ?_
        intro x6 ex6 lx6 ux6
        subst ex6
        refine qk_some ?_
        exact ⟨T, (by first | with_reducible assumption | grind | grind (ematch := 40) (gen := 40) (splits := 40) | lia), (by first | with_reducible assumption | grind | grind (ematch := 40) (gen := 40) (splits := 40) | lia), (by first | with_reducible assumption | grind | grind (ematch := 40) (gen := 40) (splits := 40) | lia)⟩
      · skip
        refine qk_if (fun cc4 => ?_) (fun cc4 => ?_)
        · skip
          refine r_SF_6 T kv0 pp ?_
          refine r_Prog_3 T kp ?_
          intro x9 ex9 lx9 ux9
          subst ex9
          refine qk_some ?_
          exact ⟨T, (by first | with_reducible assumption | grind | grind (ematch := 40) (gen := 40) (splits := 40) | lia), (by first | with_reducible assumption | grind | grind (ematch := 40) (gen := 40) (splits := 40) | lia), (by first | with_reducible assumption | grind | grind (ematch := 40) (gen := 40) (splits := 40) | lia)⟩
        · skip
          refine qk_some ?_
          exact ⟨T, (by first | with_reducible assumption | grind | grind (ematch := 40) (gen := 40) (splits := 40) | lia), (by first | with_reducible assumption | grind | grind (ematch := 40) (gen := 40) (splits := 40) | lia), (by first | with_reducible assumption | grind | grind (ematch := 40) (gen := 40) (splits := 40) | lia)⟩
  · skip
    refine qk_bs ?_
    refine r_SF_5 T kv0 ?_
    intro x11 ex11 lx11 ux11
    subst ex11
    refine qk_if (fun cc5 => ?_) (fun cc5 => ?_)
    · skip
      refine qk_some ?_
      exact ⟨T, (by first | with_reducible assumption | grind | grind (ematch := 40) (gen := 40) (splits := 40) | lia), (by first | with_reducible assumption | grind | grind (ematch := 40) (gen := 40) (splits := 40) | lia), (by first | with_reducible assumption | grind | grind (ematch := 40) (gen := 40) (splits := 40) | lia)⟩
    · skip
      refine r_SF_1 T kv0 ?_
      refine r_SF_e3 T kv0 (by first | with_reducible assumption | grind | grind (ematch := 40) (gen := 40) (splits := 40) | lia) (by first | with_reducible assumption | grind | grind (ematch := 40) (gen := 40) (splits := 40) | lia) ?_
      intro kx14 px14 bx14
      have hrx14 := q_rowhi T kx14
      refine r_Row_1 T kx14 ?_
      intro x15 ex15 lx15 ux15 mx15
      subst ex15
      refine qk_some ?_
      exact ⟨T, (by first | with_reducible assumption | grind | grind (ematch := 40) (gen := 40) (splits := 40) | lia), (by first | with_reducible assumption | grind | grind (ematch := 40) (gen := 40) (splits := 40) | lia), (by first | with_reducible assumption | grind | grind (ematch := 40) (gen := 40) (splits := 40) | lia)⟩
