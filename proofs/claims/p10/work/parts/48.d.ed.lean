set_option maxHeartbeats 1000000 in
theorem p_Ed_append {L : q_L} {W : Nat → Prop} {h0 : z_H} {π : Nat → Nat → Option Nat} {N : Nat} {pg : Nat} {h : z_H} {v0 : Nat} {v1 : Nat} (T : q_U L W h0 π h) (kv0 : qκ L v0 = 4) (kv1 : qκ L v1 = 2) (kpg : qκ L pg = 10) (ppg : π v0 10 = some pg) (wE : ∀ a, v0 ≤ a → a < v0 + 16 → W a) (hN : 100000 ≤ N) : qk (f_Ed_append N v0 v1 h) (fun r => q_U L W h0 π r.2 ∧ (∀ a k, ¬ (a = v0 + 7 ∧ k = 1) → vI r.2 a k = vI h a k) ∧ (∀ a j, 0 ≤ j → a ≠ v0 + 8 → vA r.2 a j = vA h a j) ∧ (∀ E, r.1 = .inr E → E = xE3 ∨ E = xE4)) := by
  have ced := q_CEd T kv0
  unfold q_C_Ed at ced
  unfold f_Ed_append
  refine r_Ed_7 T kv0 ?_
  intro kx1 px1
  refine r_Cmd_10 T kv1 ?_
  intro x2 ex2 lx2 ux2
  subst ex2
  refine r_Cmd_9 T kv1 ?_
  intro x3 ex3 lx3 ux3
  subst ex3
  refine r_Row_o T kx1 ?_
  refine c_Row_hasRoom (v0 := (v0 + 7)) (v1 := (((vI h v1 10) - (vI h v1 9)) + 1)) T kx1 ?_
  intro yr5 gr5_0 gr5_1
  dsimp only
  refine qk_if (fun cc1 => ?_) (fun cc1 => ?_)
  · skip
    refine qk_some ?_
    exact ⟨T, (by first | with_reducible assumption | grind | grind (ematch := 40) (gen := 40) (splits := 40) | lia), (by first | with_reducible assumption | grind | grind (ematch := 40) (gen := 40) (splits := 40) | lia), (by intro E eE; have z := Sum.inr.inj eE; subst z; exact Or.inl rfl)⟩
  · skip
    refine r_Ed_7 T kv0 ?_
    intro kx7 px7
    refine r_Ed_10 T kv0 ppg ?_
    refine r_Prog_0 T kpg ?_
    intro kx9 px9
    refine r_Cmd_9 T kv1 ?_
    intro x10 ex10 lx10 ux10
    subst ex10
    refine r_Cmd_10 T kv1 ?_
    intro x11 ex11 lx11 ux11
    subst ex11
    refine r_Row_o T kx7 ?_
    refine c_Row_addPart (v0 := (v0 + 7)) (v1 := (pg + 1)) (v2 := (vI h v1 9)) (v3 := (vI h v1 10)) T kx7 kx9 (by first | with_reducible assumption | grind | grind (ematch := 40) (gen := 40) (splits := 40) | lia) (by first | with_reducible assumption | grind | grind (ematch := 40) (gen := 40) (splits := 40) | lia) (by first | with_reducible assumption | grind | grind (ematch := 40) (gen := 40) (splits := 40) | lia) (by first | with_reducible assumption | grind | grind (ematch := 40) (gen := 40) (splits := 40) | lia) (by first | with_reducible assumption | grind | grind (ematch := 40) (gen := 40) (splits := 40) | lia) ?_
    intro r13 Tr13 gr13_0 gr13_1
    refine r_Ed_7 Tr13 kv0 ?_
    intro kx14 px14
    refine r_Row_o Tr13 kx14 ?_
    refine c_Row_add (v0 := (v0 + 7)) (v1 := 10) Tr13 kx14 (by first | with_reducible assumption | grind | grind (ematch := 40) (gen := 40) (splits := 40) | lia) (by first | with_reducible assumption | grind | grind (ematch := 40) (gen := 40) (splits := 40) | lia) ?_
    intro r16 Tr16 gr16_0 gr16_1
    refine qk_some ?_
    exact ⟨Tr16, (by first | with_reducible assumption | grind | grind (ematch := 40) (gen := 40) (splits := 40) | lia), (by first | with_reducible assumption | grind | grind (ematch := 40) (gen := 40) (splits := 40) | lia), (by intro E eE; exact absurd eE (by simp))⟩
theorem c_Ed_append {L : q_L} {W : Nat → Prop} {h0 : z_H} {π : Nat → Nat → Option Nat} {N : Nat} {pg : Nat} {h : z_H} {v0 : Nat} {v1 : Nat} {β : Type} {f : (Unit ⊕ String) × z_H → Option β} {Q : β → Prop} (T : q_U L W h0 π h) (kv0 : qκ L v0 = 4) (kv1 : qκ L v1 = 2) (kpg : qκ L pg = 10) (ppg : π v0 10 = some pg) (wE : ∀ a, v0 ≤ a → a < v0 + 16 → W a) (hN : 100000 ≤ N) (H : ∀ y h', q_U L W h0 π h' → (∀ a k, ¬ (a = v0 + 7 ∧ k = 1) → vI h' a k = vI h a k) → (∀ a j, 0 ≤ j → a ≠ v0 + 8 → vA h' a j = vA h a j) → (∀ E, y = .inr E → E = xE3 ∨ E = xE4) → qk (f (y, h')) Q) : qk (z_b (f_Ed_append N v0 v1 h) f) Q := by
  refine qk_b (p_Ed_append T kv0 kv1 kpg ppg wE hN) ?_
  rintro ⟨y, hz⟩ ⟨Tz, g0, g1, g2⟩
  exact H y hz Tz g0 g1 g2

set_option maxHeartbeats 2000000 in
theorem p_Ed_change {L : q_L} {W : Nat → Prop} {h0 : z_H} {π : Nat → Nat → Option Nat} {N : Nat} {sf : Nat} {sp : Nat} {pg : Nat} {h : z_H} {v0 : Nat} {v1 : Nat} (T : q_U L W h0 π h) (kv0 : qκ L v0 = 4) (kv1 : qκ L v1 = 2) (ksf : qκ L sf = 12) (ksp : qκ L sp = 11) (psp : π v0 1 = some sp) (kpg : qκ L pg = 10) (ppg : π v0 10 = some pg) (pln : π v0 11 = some (sf + 3)) (wE : ∀ a, v0 ≤ a → a < v0 + 16 → W a) (bsp1 : v0 + 3 ≤ sp) (bsp2 : sp + 2 ≤ v0 + 16) (bsp3 : sp ≠ v0 + 7) (lr : vI h v0 3 ≤ vI h v0 12) (hN : 100000 ≤ N) : qk (f_Ed_change N v0 v1 h) (fun r => q_U L W h0 π r.2 ∧ (∀ a k, ¬ (v0 ≤ a ∧ a < v0 + 16) → vI r.2 a k = vI h a k) ∧ (∀ a j, 0 ≤ j → ¬ (v0 ≤ a ∧ a < v0 + 16) → vA r.2 a j = vA h a j) ∧ (vI r.2 v0 3 ≤ vI r.2 v0 12) ∧ (vI r.2 v0 12 = vI h v0 12) ∧ (∀ E, r.1 = .inr E → E = xE3 ∨ E = xE4)) := by
  have hr_sp := q_rowhi T ksp
  have ced := q_CEd T kv0
  unfold q_C_Ed at ced
  unfold f_Ed_change
  refine r_Ed_1 T kv0 psp ?_
  refine r_Row_o T ksp ?_
  refine c_Row_empty (v0 := sp) T ksp (by first | with_reducible assumption | grind | grind (ematch := 40) (gen := 40) (splits := 40) | lia) ?_
  intro r3 Tr3 gr3_0 gr3_1
  refine r_Cmd_5 Tr3 kv1 ?_
  intro x4 ex4 lx4 ux4
  subst ex4
  refine qk_if (fun cc1 => ?_) (fun cc1 => ?_)
  · skip
    unfold f_Ed_change_29
    refine r_Ed_10 Tr3 kv0 ppg ?_
    refine r_Prog_0 Tr3 kpg ?_
    intro kx2i2 px2i2
    refine r_Cmd_9 Tr3 kv1 ?_
    intro x3i2 ex3i2 lx3i2 ux3i2
    subst ex3i2
    refine r_Cmd_10 Tr3 kv1 ?_
    intro x4i2 ex4i2 lx4i2 ux4i2
    subst ex4i2
    refine r_Ed_o Tr3 kv0 ?_
    refine c_Ed_tell (v0 := v0) (v1 := (pg + 1)) (v2 := (vI r3 v1 9)) (v3 := (vI r3 v1 10)) Tr3 kv0 kx2i2 (by first | with_reducible assumption | grind | grind (ematch := 40) (gen := 40) (splits := 40) | lia) (by first | with_reducible assumption | grind | grind (ematch := 40) (gen := 40) (splits := 40) | lia) (by first | with_reducible assumption | grind | grind (ematch := 40) (gen := 40) (splits := 40) | lia) (by first | with_reducible assumption | grind | grind (ematch := 40) (gen := 40) (splits := 40) | lia) ?_
    intro yr6i2 hr6i2 Tr6i2 gr6i2_0 gr6i2_1 gr6i2_2
    try dsimp only
    refine qk_zx (fun x7i2 ex7i2 => ?_) (fun Ex7i2 ex7i2 => ?_)
    · skip
      unfold f_Ed_change_48
      refine r_Ed_o Tr6i2 kv0 ?_
      refine c_Ed_endCycle (v0 := v0) (v1 := 0) (sf := sf) (sp := sp) Tr6i2 kv0 ksf ksp psp pln (by first | with_reducible assumption | grind | grind (ematch := 40) (gen := 40) (splits := 40) | lia) (by first | with_reducible assumption | grind | grind (ematch := 40) (gen := 40) (splits := 40) | lia) (by first | with_reducible assumption | grind | grind (ematch := 40) (gen := 40) (splits := 40) | lia) (by first | with_reducible assumption | grind | grind (ematch := 40) (gen := 40) (splits := 40) | lia) (by first | with_reducible assumption | grind | grind (ematch := 40) (gen := 40) (splits := 40) | lia) (by first | with_reducible assumption | grind | grind (ematch := 40) (gen := 40) (splits := 40) | lia) ?_
      intro yr2i3 hr2i3 Tr2i3 gr2i3_0 gr2i3_1 gr2i3_2 gr2i3_3 gr2i3_4
      try dsimp only
      refine qk_zx (fun x3i3 ex3i3 => ?_) (fun Ex3i3 ex3i3 => ?_)
      · skip
        refine qk_some ?_
        exact ⟨Tr2i3, (by first | with_reducible assumption | grind | grind (ematch := 40) (gen := 40) (splits := 40) | lia), (by first | with_reducible assumption | grind | grind (ematch := 40) (gen := 40) (splits := 40) | lia), (by first | with_reducible assumption | grind | grind (ematch := 40) (gen := 40) (splits := 40) | lia), (by first | with_reducible assumption | grind | grind (ematch := 40) (gen := 40) (splits := 40) | lia), (by intro E eE; exact absurd eE (by simp))⟩
      · skip
        exact ⟨Tr2i3, (by first | with_reducible assumption | grind | grind (ematch := 40) (gen := 40) (splits := 40) | lia), (by first | with_reducible assumption | grind | grind (ematch := 40) (gen := 40) (splits := 40) | lia), (by first | with_reducible assumption | grind | grind (ematch := 40) (gen := 40) (splits := 40) | lia), (by first | with_reducible assumption | grind | grind (ematch := 40) (gen := 40) (splits := 40) | lia), (by intro E eE; have z := Sum.inr.inj eE; subst z; exact gr2i3_4 _ ex3i3)⟩
    · skip
      exact ⟨Tr6i2, (by first | with_reducible assumption | grind | grind (ematch := 40) (gen := 40) (splits := 40) | lia), (by first | with_reducible assumption | grind | grind (ematch := 40) (gen := 40) (splits := 40) | lia), (by first | with_reducible assumption | grind | grind (ematch := 40) (gen := 40) (splits := 40) | lia), (by first | with_reducible assumption | grind | grind (ematch := 40) (gen := 40) (splits := 40) | lia), (by intro E eE; have z := Sum.inr.inj eE; subst z; exact gr6i2_2 _ ex7i2)⟩
  · skip
    refine r_Cmd_6 Tr3 kv1 ?_
    intro x6 ex6
    subst ex6
    refine qk_if (fun cc4 => ?_) (fun cc4 => ?_)
    · skip
      refine r_Ed_16 Tr3 kv0 ?_
      intro x8 ex8
      subst ex8
      refine qk_if (fun cc5 => ?_) (fun cc5 => ?_)
      · skip
        unfold f_Ed_change_48
        refine r_Ed_o Tr3 kv0 ?_
        refine c_Ed_endCycle (v0 := v0) (v1 := 0) (sf := sf) (sp := sp) Tr3 kv0 ksf ksp psp pln (by first | with_reducible assumption | grind | grind (ematch := 40) (gen := 40) (splits := 40) | lia) (by first | with_reducible assumption | grind | grind (ematch := 40) (gen := 40) (splits := 40) | lia) (by first | with_reducible assumption | grind | grind (ematch := 40) (gen := 40) (splits := 40) | lia) (by first | with_reducible assumption | grind | grind (ematch := 40) (gen := 40) (splits := 40) | lia) (by first | with_reducible assumption | grind | grind (ematch := 40) (gen := 40) (splits := 40) | lia) (by first | with_reducible assumption | grind | grind (ematch := 40) (gen := 40) (splits := 40) | lia) ?_
        intro yr2i6 hr2i6 Tr2i6 gr2i6_0 gr2i6_1 gr2i6_2 gr2i6_3 gr2i6_4
        try dsimp only
        refine qk_zx (fun x3i6 ex3i6 => ?_) (fun Ex3i6 ex3i6 => ?_)
        · skip
          refine qk_some ?_
          exact ⟨Tr2i6, (by first | with_reducible assumption | grind | grind (ematch := 40) (gen := 40) (splits := 40) | lia), (by first | with_reducible assumption | grind | grind (ematch := 40) (gen := 40) (splits := 40) | lia), (by first | with_reducible assumption | grind | grind (ematch := 40) (gen := 40) (splits := 40) | lia), (by first | with_reducible assumption | grind | grind (ematch := 40) (gen := 40) (splits := 40) | lia), (by intro E eE; exact absurd eE (by simp))⟩
        · skip
          exact ⟨Tr2i6, (by first | with_reducible assumption | grind | grind (ematch := 40) (gen := 40) (splits := 40) | lia), (by first | with_reducible assumption | grind | grind (ematch := 40) (gen := 40) (splits := 40) | lia), (by first | with_reducible assumption | grind | grind (ematch := 40) (gen := 40) (splits := 40) | lia), (by first | with_reducible assumption | grind | grind (ematch := 40) (gen := 40) (splits := 40) | lia), (by intro E eE; have z := Sum.inr.inj eE; subst z; exact gr2i6_4 _ ex3i6)⟩
      · skip
        unfold f_Ed_change_29
        refine r_Ed_10 Tr3 kv0 ppg ?_
        refine r_Prog_0 Tr3 kpg ?_
        intro kx2i7 px2i7
        refine r_Cmd_9 Tr3 kv1 ?_
        intro x3i7 ex3i7 lx3i7 ux3i7
        subst ex3i7
        refine r_Cmd_10 Tr3 kv1 ?_
        intro x4i7 ex4i7 lx4i7 ux4i7
        subst ex4i7
        refine r_Ed_o Tr3 kv0 ?_
        refine c_Ed_tell (v0 := v0) (v1 := (pg + 1)) (v2 := (vI r3 v1 9)) (v3 := (vI r3 v1 10)) Tr3 kv0 kx2i7 (by first | with_reducible assumption | grind | grind (ematch := 40) (gen := 40) (splits := 40) | lia) (by first | with_reducible assumption | grind | grind (ematch := 40) (gen := 40) (splits := 40) | lia) (by first | with_reducible assumption | grind | grind (ematch := 40) (gen := 40) (splits := 40) | lia) (by first | with_reducible assumption | grind | grind (ematch := 40) (gen := 40) (splits := 40) | lia) ?_
        intro yr6i7 hr6i7 Tr6i7 gr6i7_0 gr6i7_1 gr6i7_2
        try dsimp only
        refine qk_zx (fun x7i7 ex7i7 => ?_) (fun Ex7i7 ex7i7 => ?_)
        · skip
          unfold f_Ed_change_48
          refine r_Ed_o Tr6i7 kv0 ?_
          refine c_Ed_endCycle (v0 := v0) (v1 := 0) (sf := sf) (sp := sp) Tr6i7 kv0 ksf ksp psp pln (by first | with_reducible assumption | grind | grind (ematch := 40) (gen := 40) (splits := 40) | lia) (by first | with_reducible assumption | grind | grind (ematch := 40) (gen := 40) (splits := 40) | lia) (by first | with_reducible assumption | grind | grind (ematch := 40) (gen := 40) (splits := 40) | lia) (by first | with_reducible assumption | grind | grind (ematch := 40) (gen := 40) (splits := 40) | lia) (by first | with_reducible assumption | grind | grind (ematch := 40) (gen := 40) (splits := 40) | lia) (by first | with_reducible assumption | grind | grind (ematch := 40) (gen := 40) (splits := 40) | lia) ?_
          intro yr2i8 hr2i8 Tr2i8 gr2i8_0 gr2i8_1 gr2i8_2 gr2i8_3 gr2i8_4
          try dsimp only
          refine qk_zx (fun x3i8 ex3i8 => ?_) (fun Ex3i8 ex3i8 => ?_)
          · skip
            refine qk_some ?_
            exact ⟨Tr2i8, (by first | with_reducible assumption | grind | grind (ematch := 40) (gen := 40) (splits := 40) | lia), (by first | with_reducible assumption | grind | grind (ematch := 40) (gen := 40) (splits := 40) | lia), (by first | with_reducible assumption | grind | grind (ematch := 40) (gen := 40) (splits := 40) | lia), (by first | with_reducible assumption | grind | grind (ematch := 40) (gen := 40) (splits := 40) | lia), (by intro E eE; exact absurd eE (by simp))⟩
          · skip
            exact ⟨Tr2i8, (by first | with_reducible assumption | grind | grind (ematch := 40) (gen := 40) (splits := 40) | lia), (by first | with_reducible assumption | grind | grind (ematch := 40) (gen := 40) (splits := 40) | lia), (by first | with_reducible assumption | grind | grind (ematch := 40) (gen := 40) (splits := 40) | lia), (by first | with_reducible assumption | grind | grind (ematch := 40) (gen := 40) (splits := 40) | lia), (by intro E eE; have z := Sum.inr.inj eE; subst z; exact gr2i8_4 _ ex3i8)⟩
        · skip
          exact ⟨Tr6i7, (by first | with_reducible assumption | grind | grind (ematch := 40) (gen := 40) (splits := 40) | lia), (by first | with_reducible assumption | grind | grind (ematch := 40) (gen := 40) (splits := 40) | lia), (by first | with_reducible assumption | grind | grind (ematch := 40) (gen := 40) (splits := 40) | lia), (by first | with_reducible assumption | grind | grind (ematch := 40) (gen := 40) (splits := 40) | lia), (by intro E eE; have z := Sum.inr.inj eE; subst z; exact gr6i7_2 _ ex7i7)⟩
    · skip
      unfold f_Ed_change_29
      refine r_Ed_10 Tr3 kv0 ppg ?_
      refine r_Prog_0 Tr3 kpg ?_
      intro kx2i9 px2i9
      refine r_Cmd_9 Tr3 kv1 ?_
      intro x3i9 ex3i9 lx3i9 ux3i9
      subst ex3i9
      refine r_Cmd_10 Tr3 kv1 ?_
      intro x4i9 ex4i9 lx4i9 ux4i9
      subst ex4i9
      refine r_Ed_o Tr3 kv0 ?_
      refine c_Ed_tell (v0 := v0) (v1 := (pg + 1)) (v2 := (vI r3 v1 9)) (v3 := (vI r3 v1 10)) Tr3 kv0 kx2i9 (by first | with_reducible assumption | grind | grind (ematch := 40) (gen := 40) (splits := 40) | lia) (by first | with_reducible assumption | grind | grind (ematch := 40) (gen := 40) (splits := 40) | lia) (by first | with_reducible assumption | grind | grind (ematch := 40) (gen := 40) (splits := 40) | lia) (by first | with_reducible assumption | grind | grind (ematch := 40) (gen := 40) (splits := 40) | lia) ?_
      intro yr6i9 hr6i9 Tr6i9 gr6i9_0 gr6i9_1 gr6i9_2
      try dsimp only
      refine qk_zx (fun x7i9 ex7i9 => ?_) (fun Ex7i9 ex7i9 => ?_)
      · skip
        unfold f_Ed_change_48
        refine r_Ed_o Tr6i9 kv0 ?_
        refine c_Ed_endCycle (v0 := v0) (v1 := 0) (sf := sf) (sp := sp) Tr6i9 kv0 ksf ksp psp pln (by first | with_reducible assumption | grind | grind (ematch := 40) (gen := 40) (splits := 40) | lia) (by first | with_reducible assumption | grind | grind (ematch := 40) (gen := 40) (splits := 40) | lia) (by first | with_reducible assumption | grind | grind (ematch := 40) (gen := 40) (splits := 40) | lia) (by first | with_reducible assumption | grind | grind (ematch := 40) (gen := 40) (splits := 40) | lia) (by first | with_reducible assumption | grind | grind (ematch := 40) (gen := 40) (splits := 40) | lia) (by first | with_reducible assumption | grind | grind (ematch := 40) (gen := 40) (splits := 40) | lia) ?_
        intro yr2i10 hr2i10 Tr2i10 gr2i10_0 gr2i10_1 gr2i10_2 gr2i10_3 gr2i10_4
        try dsimp only
        refine qk_zx (fun x3i10 ex3i10 => ?_) (fun Ex3i10 ex3i10 => ?_)
        · skip
          refine qk_some ?_
          exact ⟨Tr2i10, (by first | with_reducible assumption | grind | grind (ematch := 40) (gen := 40) (splits := 40) | lia), (by first | with_reducible assumption | grind | grind (ematch := 40) (gen := 40) (splits := 40) | lia), (by first | with_reducible assumption | grind | grind (ematch := 40) (gen := 40) (splits := 40) | lia), (by first | with_reducible assumption | grind | grind (ematch := 40) (gen := 40) (splits := 40) | lia), (by intro E eE; exact absurd eE (by simp))⟩
        · skip
          exact ⟨Tr2i10, (by first | with_reducible assumption | grind | grind (ematch := 40) (gen := 40) (splits := 40) | lia), (by first | with_reducible assumption | grind | grind (ematch := 40) (gen := 40) (splits := 40) | lia), (by first | with_reducible assumption | grind | grind (ematch := 40) (gen := 40) (splits := 40) | lia), (by first | with_reducible assumption | grind | grind (ematch := 40) (gen := 40) (splits := 40) | lia), (by intro E eE; have z := Sum.inr.inj eE; subst z; exact gr2i10_4 _ ex3i10)⟩
      · skip
        exact ⟨Tr6i9, (by first | with_reducible assumption | grind | grind (ematch := 40) (gen := 40) (splits := 40) | lia), (by first | with_reducible assumption | grind | grind (ematch := 40) (gen := 40) (splits := 40) | lia), (by first | with_reducible assumption | grind | grind (ematch := 40) (gen := 40) (splits := 40) | lia), (by first | with_reducible assumption | grind | grind (ematch := 40) (gen := 40) (splits := 40) | lia), (by intro E eE; have z := Sum.inr.inj eE; subst z; exact gr6i9_2 _ ex7i9)⟩
theorem c_Ed_change {L : q_L} {W : Nat → Prop} {h0 : z_H} {π : Nat → Nat → Option Nat} {N : Nat} {sf : Nat} {sp : Nat} {pg : Nat} {h : z_H} {v0 : Nat} {v1 : Nat} {β : Type} {f : (Unit ⊕ String) × z_H → Option β} {Q : β → Prop} (T : q_U L W h0 π h) (kv0 : qκ L v0 = 4) (kv1 : qκ L v1 = 2) (ksf : qκ L sf = 12) (ksp : qκ L sp = 11) (psp : π v0 1 = some sp) (kpg : qκ L pg = 10) (ppg : π v0 10 = some pg) (pln : π v0 11 = some (sf + 3)) (wE : ∀ a, v0 ≤ a → a < v0 + 16 → W a) (bsp1 : v0 + 3 ≤ sp) (bsp2 : sp + 2 ≤ v0 + 16) (bsp3 : sp ≠ v0 + 7) (lr : vI h v0 3 ≤ vI h v0 12) (hN : 100000 ≤ N) (H : ∀ y h', q_U L W h0 π h' → (∀ a k, ¬ (v0 ≤ a ∧ a < v0 + 16) → vI h' a k = vI h a k) → (∀ a j, 0 ≤ j → ¬ (v0 ≤ a ∧ a < v0 + 16) → vA h' a j = vA h a j) → (vI h' v0 3 ≤ vI h' v0 12) → (vI h' v0 12 = vI h v0 12) → (∀ E, y = .inr E → E = xE3 ∨ E = xE4) → qk (f (y, h')) Q) : qk (z_b (f_Ed_change N v0 v1 h) f) Q := by
  refine qk_b (p_Ed_change T kv0 kv1 ksf ksp psp kpg ppg pln wE bsp1 bsp2 bsp3 lr hN) ?_
  rintro ⟨y, hz⟩ ⟨Tz, g0, g1, g2, g3, g4⟩
  exact H y hz Tz g0 g1 g2 g3 g4

set_option maxHeartbeats 1000000 in
theorem p_Ed_deleteFirst {L : q_L} {W : Nat → Prop} {h0 : z_H} {π : Nat → Nat → Option Nat} {N : Nat} {sf : Nat} {sp : Nat} {h : z_H} {v0 : Nat} (T : q_U L W h0 π h) (kv0 : qκ L v0 = 4) (ksf : qκ L sf = 12) (ksp : qκ L sp = 11) (psp : π v0 1 = some sp) (pln : π v0 11 = some (sf + 3)) (wE : ∀ a, v0 ≤ a → a < v0 + 16 → W a) (bsp1 : v0 + 3 ≤ sp) (bsp2 : sp + 2 ≤ v0 + 16) (bsp3 : sp ≠ v0 + 7) (lr : vI h v0 3 ≤ vI h v0 12) (hN : 100000 ≤ N) : qk (f_Ed_deleteFirst N v0 h) (fun r => q_U L W h0 π r.2 ∧ (∀ a k, ¬ (v0 ≤ a ∧ a < v0 + 16) → vI r.2 a k = vI h a k) ∧ (∀ a j, 0 ≤ j → ¬ (v0 ≤ a ∧ a < v0 + 16) → vA r.2 a j = vA h a j) ∧ (vI r.2 v0 3 ≤ vI r.2 v0 12) ∧ (vI r.2 v0 12 = vI h v0 12) ∧ (∀ E, r.1 = .inr E → E = xE3 ∨ E = xE4)) := by
  have hr_sp := q_rowhi T ksp
  have ced := q_CEd T kv0
  unfold q_C_Ed at ced
  unfold f_Ed_deleteFirst
  refine r_Ed_1 T kv0 psp ?_
  refine r_Row_o T ksp ?_
  refine c_Row_newlineFrom (v0 := sp) (v1 := 0) T ksp (by first | with_reducible assumption | grind | grind (ematch := 40) (gen := 40) (splits := 40) | lia) (by first | with_reducible assumption | grind | grind (ematch := 40) (gen := 40) (splits := 40) | lia) (by first | with_reducible assumption | grind | grind (ematch := 40) (gen := 40) (splits := 40) | lia) ?_
  intro yr3 gr3_0 gr3_1
  dsimp only
  refine qk_bs ?_
  refine r_Ed_1 T kv0 psp ?_
  refine r_Row_1 T ksp ?_
  intro x6 ex6 lx6 ux6 mx6
  subst ex6
  refine qk_if (fun cc1 => ?_) (fun cc1 => ?_)
  · skip
    refine r_Ed_o T kv0 ?_
    refine c_Ed_endCycle (v0 := v0) (v1 := 0) (sf := sf) (sp := sp) T kv0 ksf ksp psp pln (by first | with_reducible assumption | grind | grind (ematch := 40) (gen := 40) (splits := 40) | lia) (by first | with_reducible assumption | grind | grind (ematch := 40) (gen := 40) (splits := 40) | lia) (by first | with_reducible assumption | grind | grind (ematch := 40) (gen := 40) (splits := 40) | lia) (by first | with_reducible assumption | grind | grind (ematch := 40) (gen := 40) (splits := 40) | lia) (by first | with_reducible assumption | grind | grind (ematch := 40) (gen := 40) (splits := 40) | lia) (by first | with_reducible assumption | grind | grind (ematch := 40) (gen := 40) (splits := 40) | lia) ?_
    intro yr20 hr20 Tr20 gr20_0 gr20_1 gr20_2 gr20_3 gr20_4
    try dsimp only
    refine qk_zx (fun x21 ex21 => ?_) (fun Ex21 ex21 => ?_)
    · skip
      refine qk_some ?_
      exact ⟨Tr20, (by first | with_reducible assumption | grind | grind (ematch := 40) (gen := 40) (splits := 40) | lia), (by first | with_reducible assumption | grind | grind (ematch := 40) (gen := 40) (splits := 40) | lia), (by first | with_reducible assumption | grind | grind (ematch := 40) (gen := 40) (splits := 40) | lia), (by first | with_reducible assumption | grind | grind (ematch := 40) (gen := 40) (splits := 40) | lia), (by intro E eE; exact absurd eE (by simp))⟩
    · skip
      exact ⟨Tr20, (by first | with_reducible assumption | grind | grind (ematch := 40) (gen := 40) (splits := 40) | lia), (by first | with_reducible assumption | grind | grind (ematch := 40) (gen := 40) (splits := 40) | lia), (by first | with_reducible assumption | grind | grind (ematch := 40) (gen := 40) (splits := 40) | lia), (by first | with_reducible assumption | grind | grind (ematch := 40) (gen := 40) (splits := 40) | lia), (by intro E eE; have z := Sum.inr.inj eE; subst z; exact gr20_4 _ ex21)⟩
  · skip
    refine r_Ed_o T kv0 ?_
    refine c_Ed_tellAppended (v0 := v0) T kv0 (by first | with_reducible assumption | grind | grind (ematch := 40) (gen := 40) (splits := 40) | lia) (by first | with_reducible assumption | grind | grind (ematch := 40) (gen := 40) (splits := 40) | lia) ?_
    intro yr9 hr9 Tr9 gr9_0 gr9_1 gr9_2
    try dsimp only
    refine qk_zx (fun x10 ex10 => ?_) (fun Ex10 ex10 => ?_)
    · skip
      refine r_Ed_1 Tr9 kv0 psp ?_
      refine r_Row_o Tr9 ksp ?_
      refine c_Row_dropFirst (v0 := sp) (v1 := ((yr3) + 1)) Tr9 ksp (by first | with_reducible assumption | grind | grind (ematch := 40) (gen := 40) (splits := 40) | lia) (by first | with_reducible assumption | grind | grind (ematch := 40) (gen := 40) (splits := 40) | lia) (by first | with_reducible assumption | grind | grind (ematch := 40) (gen := 40) (splits := 40) | lia) (by first | with_reducible assumption | grind | grind (ematch := 40) (gen := 40) (splits := 40) | lia) (by first | with_reducible assumption | grind | grind (ematch := 40) (gen := 40) (splits := 40) | lia) ?_
      intro r16 Tr16 gr16_0 gr16_1
      refine r_Ed_o Tr16 kv0 ?_
      refine c_Ed_beginCycle (v0 := v0) Tr16 kv0 (by first | with_reducible assumption | grind | grind (ematch := 40) (gen := 40) (splits := 40) | lia) ?_
      intro r18 Tr18 gr18_0 gr18_1
      refine qk_some ?_
      exact ⟨Tr18, (by first | with_reducible assumption | grind | grind (ematch := 40) (gen := 40) (splits := 40) | lia), (by first | with_reducible assumption | grind | grind (ematch := 40) (gen := 40) (splits := 40) | lia), (by first | with_reducible assumption | grind | grind (ematch := 40) (gen := 40) (splits := 40) | lia), (by first | with_reducible assumption | grind | grind (ematch := 40) (gen := 40) (splits := 40) | lia), (by intro E eE; exact absurd eE (by simp))⟩
    · skip
      exact ⟨Tr9, (by first | with_reducible assumption | grind | grind (ematch := 40) (gen := 40) (splits := 40) | lia), (by first | with_reducible assumption | grind | grind (ematch := 40) (gen := 40) (splits := 40) | lia), (by first | with_reducible assumption | grind | grind (ematch := 40) (gen := 40) (splits := 40) | lia), (by first | with_reducible assumption | grind | grind (ematch := 40) (gen := 40) (splits := 40) | lia), (by intro E eE; have z := Sum.inr.inj eE; subst z; exact gr9_2 _ ex10)⟩
theorem c_Ed_deleteFirst {L : q_L} {W : Nat → Prop} {h0 : z_H} {π : Nat → Nat → Option Nat} {N : Nat} {sf : Nat} {sp : Nat} {h : z_H} {v0 : Nat} {β : Type} {f : (Unit ⊕ String) × z_H → Option β} {Q : β → Prop} (T : q_U L W h0 π h) (kv0 : qκ L v0 = 4) (ksf : qκ L sf = 12) (ksp : qκ L sp = 11) (psp : π v0 1 = some sp) (pln : π v0 11 = some (sf + 3)) (wE : ∀ a, v0 ≤ a → a < v0 + 16 → W a) (bsp1 : v0 + 3 ≤ sp) (bsp2 : sp + 2 ≤ v0 + 16) (bsp3 : sp ≠ v0 + 7) (lr : vI h v0 3 ≤ vI h v0 12) (hN : 100000 ≤ N) (H : ∀ y h', q_U L W h0 π h' → (∀ a k, ¬ (v0 ≤ a ∧ a < v0 + 16) → vI h' a k = vI h a k) → (∀ a j, 0 ≤ j → ¬ (v0 ≤ a ∧ a < v0 + 16) → vA h' a j = vA h a j) → (vI h' v0 3 ≤ vI h' v0 12) → (vI h' v0 12 = vI h v0 12) → (∀ E, y = .inr E → E = xE3 ∨ E = xE4) → qk (f (y, h')) Q) : qk (z_b (f_Ed_deleteFirst N v0 h) f) Q := by
  refine qk_b (p_Ed_deleteFirst T kv0 ksf ksp psp pln wE bsp1 bsp2 bsp3 lr hN) ?_
  rintro ⟨y, hz⟩ ⟨Tz, g0, g1, g2, g3, g4⟩
  exact H y hz Tz g0 g1 g2 g3 g4

set_option maxHeartbeats 1000000 in
theorem p_Ed_quit {L : q_L} {W : Nat → Prop} {h0 : z_H} {π : Nat → Nat → Option Nat} {N : Nat} {sp : Nat} {h : z_H} {v0 : Nat} (T : q_U L W h0 π h) (kv0 : qκ L v0 = 4) (ksp : qκ L sp = 11) (psp : π v0 1 = some sp) (wE : ∀ a, v0 ≤ a → a < v0 + 16 → W a) (bsp1 : v0 + 3 ≤ sp) (bsp2 : sp + 2 ≤ v0 + 16) (bsp3 : sp ≠ v0 + 7) (lr : vI h v0 3 ≤ vI h v0 12) (hN : 100000 ≤ N) : qk (f_Ed_quit N v0 h) (fun r => q_U L W h0 π r.2 ∧ (∀ a k, ¬ (v0 ≤ a ∧ a < v0 + 16) → vI r.2 a k = vI h a k) ∧ (∀ a j, 0 ≤ j → ¬ (v0 ≤ a ∧ a < v0 + 16) → vA r.2 a j = vA h a j) ∧ (vI r.2 v0 3 ≤ vI r.2 v0 12) ∧ (vI r.2 v0 12 = vI h v0 12) ∧ (∀ E, r.1 = .inr E → E = xE3 ∨ E = xE4)) := by
  have hr_sp := q_rowhi T ksp
  have ced := q_CEd T kv0
  unfold q_C_Ed at ced
  unfold f_Ed_quit
  refine r_Ed_1 T kv0 psp ?_
  refine r_Ed_1 T kv0 psp ?_
  refine r_Row_1 T ksp ?_
  intro x3 ex3 lx3 ux3 mx3
  subst ex3
  refine r_Ed_o T kv0 ?_
  refine c_Ed_tell (v0 := v0) (v1 := sp) (v2 := 0) (v3 := (vI h sp 1)) T kv0 ksp (by first | with_reducible assumption | grind | grind (ematch := 40) (gen := 40) (splits := 40) | lia) (by first | with_reducible assumption | grind | grind (ematch := 40) (gen := 40) (splits := 40) | lia) (by first | with_reducible assumption | grind | grind (ematch := 40) (gen := 40) (splits := 40) | lia) (by first | with_reducible assumption | grind | grind (ematch := 40) (gen := 40) (splits := 40) | lia) ?_
  intro yr5 hr5 Tr5 gr5_0 gr5_1 gr5_2
  try dsimp only
  refine qk_zx (fun x6 ex6 => ?_) (fun Ex6 ex6 => ?_)
  · skip
    refine r_Ed_o Tr5 kv0 ?_
    refine c_Ed_tellAppended (v0 := v0) Tr5 kv0 (by first | with_reducible assumption | grind | grind (ematch := 40) (gen := 40) (splits := 40) | lia) (by first | with_reducible assumption | grind | grind (ematch := 40) (gen := 40) (splits := 40) | lia) ?_
    intro yr11 hr11 Tr11 gr11_0 gr11_1 gr11_2
    try dsimp only
    refine qk_zx (fun x12 ex12 => ?_) (fun Ex12 ex12 => ?_)
    · skip
      refine w_Ed_14 Tr11 kv0 (by first | with_reducible assumption | grind | grind (ematch := 40) (gen := 40) (splits := 40) | lia) ?_
      intro h16 Th16 ih16 ah16
      refine qk_some ?_
      exact ⟨Th16, (by first | with_reducible assumption | grind | grind (ematch := 40) (gen := 40) (splits := 40) | lia), (by first | with_reducible assumption | grind | grind (ematch := 40) (gen := 40) (splits := 40) | lia), (by first | with_reducible assumption | grind | grind (ematch := 40) (gen := 40) (splits := 40) | lia), (by first | with_reducible assumption | grind | grind (ematch := 40) (gen := 40) (splits := 40) | lia), (by intro E eE; exact absurd eE (by simp))⟩
    · skip
      exact ⟨Tr11, (by first | with_reducible assumption | grind | grind (ematch := 40) (gen := 40) (splits := 40) | lia), (by first | with_reducible assumption | grind | grind (ematch := 40) (gen := 40) (splits := 40) | lia), (by first | with_reducible assumption | grind | grind (ematch := 40) (gen := 40) (splits := 40) | lia), (by first | with_reducible assumption | grind | grind (ematch := 40) (gen := 40) (splits := 40) | lia), (by intro E eE; have z := Sum.inr.inj eE; subst z; exact gr11_2 _ ex12)⟩
  · skip
    exact ⟨Tr5, (by first | with_reducible assumption | grind | grind (ematch := 40) (gen := 40) (splits := 40) | lia), (by first | with_reducible assumption | grind | grind (ematch := 40) (gen := 40) (splits := 40) | lia), (by first | with_reducible assumption | grind | grind (ematch := 40) (gen := 40) (splits := 40) | lia), (by first | with_reducible assumption | grind | grind (ematch := 40) (gen := 40) (splits := 40) | lia), (by intro E eE; have z := Sum.inr.inj eE; subst z; exact gr5_2 _ ex6)⟩
theorem c_Ed_quit {L : q_L} {W : Nat → Prop} {h0 : z_H} {π : Nat → Nat → Option Nat} {N : Nat} {sp : Nat} {h : z_H} {v0 : Nat} {β : Type} {f : (Unit ⊕ String) × z_H → Option β} {Q : β → Prop} (T : q_U L W h0 π h) (kv0 : qκ L v0 = 4) (ksp : qκ L sp = 11) (psp : π v0 1 = some sp) (wE : ∀ a, v0 ≤ a → a < v0 + 16 → W a) (bsp1 : v0 + 3 ≤ sp) (bsp2 : sp + 2 ≤ v0 + 16) (bsp3 : sp ≠ v0 + 7) (lr : vI h v0 3 ≤ vI h v0 12) (hN : 100000 ≤ N) (H : ∀ y h', q_U L W h0 π h' → (∀ a k, ¬ (v0 ≤ a ∧ a < v0 + 16) → vI h' a k = vI h a k) → (∀ a j, 0 ≤ j → ¬ (v0 ≤ a ∧ a < v0 + 16) → vA h' a j = vA h a j) → (vI h' v0 3 ≤ vI h' v0 12) → (vI h' v0 12 = vI h v0 12) → (∀ E, y = .inr E → E = xE3 ∨ E = xE4) → qk (f (y, h')) Q) : qk (z_b (f_Ed_quit N v0 h) f) Q := by
  refine qk_b (p_Ed_quit T kv0 ksp psp wE bsp1 bsp2 bsp3 lr hN) ?_
  rintro ⟨y, hz⟩ ⟨Tz, g0, g1, g2, g3, g4⟩
  exact H y hz Tz g0 g1 g2 g3 g4

set_option maxHeartbeats 1000000 in
theorem p_Ed_replaceByNext {L : q_L} {W : Nat → Prop} {h0 : z_H} {π : Nat → Nat → Option Nat} {N : Nat} {sf : Nat} {sp : Nat} {h : z_H} {v0 : Nat} (T : q_U L W h0 π h) (kv0 : qκ L v0 = 4) (ksf : qκ L sf = 12) (ksp : qκ L sp = 11) (psp : π v0 1 = some sp) (pln : π v0 11 = some (sf + 3)) (wE : ∀ a, v0 ≤ a → a < v0 + 16 → W a) (bsp1 : v0 + 3 ≤ sp) (bsp2 : sp + 2 ≤ v0 + 16) (bsp3 : sp ≠ v0 + 7) (lr : vI h v0 3 ≤ vI h v0 12) (hN : 100000 ≤ N) : qk (f_Ed_replaceByNext N v0 h) (fun r => q_U L W h0 π r.2 ∧ (∀ a k, ¬ (v0 ≤ a ∧ a < v0 + 16) → vI r.2 a k = vI h a k) ∧ (∀ a j, 0 ≤ j → ¬ (v0 ≤ a ∧ a < v0 + 16) → vA r.2 a j = vA h a j) ∧ (vI r.2 v0 3 ≤ vI r.2 v0 12) ∧ (vI r.2 v0 12 = vI h v0 12) ∧ (∀ E, r.1 = .inr E → E = xE3 ∨ E = xE4)) := by
  have hr_sp := q_rowhi T ksp
  have ced := q_CEd T kv0
  unfold q_C_Ed at ced
  have t12 := T.2.2.2.1 v0 12
  have t3 := T.2.2.2.1 v0 3
  unfold f_Ed_replaceByNext
  refine r_Ed_3 T kv0 ?_
  intro x1 ex1 lx1 ux1
  subst ex1
  refine r_Ed_12 T kv0 ?_
  intro x2 ex2 lx2 ux2
  subst ex2
  refine qk_if (fun cc1 => ?_) (fun cc1 => ?_)
  · skip
    refine r_Ed_o T kv0 ?_
    refine c_Ed_quit (v0 := v0) (sp := sp) T kv0 ksp psp (by first | with_reducible assumption | grind | grind (ematch := 40) (gen := 40) (splits := 40) | lia) (by first | with_reducible assumption | grind | grind (ematch := 40) (gen := 40) (splits := 40) | lia) (by first | with_reducible assumption | grind | grind (ematch := 40) (gen := 40) (splits := 40) | lia) (by first | with_reducible assumption | grind | grind (ematch := 40) (gen := 40) (splits := 40) | lia) (by first | with_reducible assumption | grind | grind (ematch := 40) (gen := 40) (splits := 40) | lia) (by first | with_reducible assumption | grind | grind (ematch := 40) (gen := 40) (splits := 40) | lia) ?_
    intro yr25 hr25 Tr25 gr25_0 gr25_1 gr25_2 gr25_3 gr25_4
    try dsimp only
    refine qk_zx (fun x26 ex26 => ?_) (fun Ex26 ex26 => ?_)
    · skip
      refine qk_some ?_
      exact ⟨Tr25, (by first | with_reducible assumption | grind | grind (ematch := 40) (gen := 40) (splits := 40) | lia), (by first | with_reducible assumption | grind | grind (ematch := 40) (gen := 40) (splits := 40) | lia), (by first | with_reducible assumption | grind | grind (ematch := 40) (gen := 40) (splits := 40) | lia), (by first | with_reducible assumption | grind | grind (ematch := 40) (gen := 40) (splits := 40) | lia), (by intro E eE; exact absurd eE (by simp))⟩
    · skip
      exact ⟨Tr25, (by first | with_reducible assumption | grind | grind (ematch := 40) (gen := 40) (splits := 40) | lia), (by first | with_reducible assumption | grind | grind (ematch := 40) (gen := 40) (splits := 40) | lia), (by first | with_reducible assumption | grind | grind (ematch := 40) (gen := 40) (splits := 40) | lia), (by first | with_reducible assumption | grind | grind (ematch := 40) (gen := 40) (splits := 40) | lia), (by intro E eE; have z := Sum.inr.inj eE; subst z; exact gr25_4 _ ex26)⟩
  · skip
    refine r_Ed_1 T kv0 psp ?_
    refine r_Ed_1 T kv0 psp ?_
    refine r_Row_1 T ksp ?_
    intro x6 ex6 lx6 ux6 mx6
    subst ex6
    refine r_Ed_o T kv0 ?_
    refine c_Ed_tell (v0 := v0) (v1 := sp) (v2 := 0) (v3 := (vI h sp 1)) T kv0 ksp (by first | with_reducible assumption | grind | grind (ematch := 40) (gen := 40) (splits := 40) | lia) (by first | with_reducible assumption | grind | grind (ematch := 40) (gen := 40) (splits := 40) | lia) (by first | with_reducible assumption | grind | grind (ematch := 40) (gen := 40) (splits := 40) | lia) (by first | with_reducible assumption | grind | grind (ematch := 40) (gen := 40) (splits := 40) | lia) ?_
    intro yr8 hr8 Tr8 gr8_0 gr8_1 gr8_2
    try dsimp only
    refine qk_zx (fun x9 ex9 => ?_) (fun Ex9 ex9 => ?_)
    · skip
      refine r_Ed_o Tr8 kv0 ?_
      refine c_Ed_tellAppended (v0 := v0) Tr8 kv0 (by first | with_reducible assumption | grind | grind (ematch := 40) (gen := 40) (splits := 40) | lia) (by first | with_reducible assumption | grind | grind (ematch := 40) (gen := 40) (splits := 40) | lia) ?_
      intro yr14 hr14 Tr14 gr14_0 gr14_1 gr14_2
      try dsimp only
      refine qk_zx (fun x15 ex15 => ?_) (fun Ex15 ex15 => ?_)
      · skip
        refine r_Ed_1 Tr14 kv0 psp ?_
        refine r_Row_o Tr14 ksp ?_
        refine c_Row_empty (v0 := sp) Tr14 ksp (by first | with_reducible assumption | grind | grind (ematch := 40) (gen := 40) (splits := 40) | lia) ?_
        intro r21 Tr21 gr21_0 gr21_1
        refine r_Ed_o Tr21 kv0 ?_
        refine c_Ed_readLine (v0 := v0) (sf := sf) (sp := sp) Tr21 kv0 ksf ksp psp pln (by first | with_reducible assumption | grind | grind (ematch := 40) (gen := 40) (splits := 40) | lia) (by first | with_reducible assumption | grind | grind (ematch := 40) (gen := 40) (splits := 40) | lia) (by first | with_reducible assumption | grind | grind (ematch := 40) (gen := 40) (splits := 40) | lia) (by first | with_reducible assumption | grind | grind (ematch := 40) (gen := 40) (splits := 40) | lia) (by first | with_reducible assumption | grind | grind (ematch := 40) (gen := 40) (splits := 40) | lia) (by first | with_reducible assumption | grind | grind (ematch := 40) (gen := 40) (splits := 40) | lia) ?_
        intro r23 Tr23 gr23_0 gr23_1 gr23_2
        refine qk_some ?_
        exact ⟨Tr23, (by first | with_reducible assumption | grind | grind (ematch := 40) (gen := 40) (splits := 40) | lia), (by first | with_reducible assumption | grind | grind (ematch := 40) (gen := 40) (splits := 40) | lia), (by first | with_reducible assumption | grind | grind (ematch := 40) (gen := 40) (splits := 40) | lia), (by first | with_reducible assumption | grind | grind (ematch := 40) (gen := 40) (splits := 40) | lia), (by intro E eE; exact absurd eE (by simp))⟩
      · skip
        exact ⟨Tr14, (by first | with_reducible assumption | grind | grind (ematch := 40) (gen := 40) (splits := 40) | lia), (by first | with_reducible assumption | grind | grind (ematch := 40) (gen := 40) (splits := 40) | lia), (by first | with_reducible assumption | grind | grind (ematch := 40) (gen := 40) (splits := 40) | lia), (by first | with_reducible assumption | grind | grind (ematch := 40) (gen := 40) (splits := 40) | lia), (by intro E eE; have z := Sum.inr.inj eE; subst z; exact gr14_2 _ ex15)⟩
    · skip
      exact ⟨Tr8, (by first | with_reducible assumption | grind | grind (ematch := 40) (gen := 40) (splits := 40) | lia), (by first | with_reducible assumption | grind | grind (ematch := 40) (gen := 40) (splits := 40) | lia), (by first | with_reducible assumption | grind | grind (ematch := 40) (gen := 40) (splits := 40) | lia), (by first | with_reducible assumption | grind | grind (ematch := 40) (gen := 40) (splits := 40) | lia), (by intro E eE; have z := Sum.inr.inj eE; subst z; exact gr8_2 _ ex9)⟩
theorem c_Ed_replaceByNext {L : q_L} {W : Nat → Prop} {h0 : z_H} {π : Nat → Nat → Option Nat} {N : Nat} {sf : Nat} {sp : Nat} {h : z_H} {v0 : Nat} {β : Type} {f : (Unit ⊕ String) × z_H → Option β} {Q : β → Prop} (T : q_U L W h0 π h) (kv0 : qκ L v0 = 4) (ksf : qκ L sf = 12) (ksp : qκ L sp = 11) (psp : π v0 1 = some sp) (pln : π v0 11 = some (sf + 3)) (wE : ∀ a, v0 ≤ a → a < v0 + 16 → W a) (bsp1 : v0 + 3 ≤ sp) (bsp2 : sp + 2 ≤ v0 + 16) (bsp3 : sp ≠ v0 + 7) (lr : vI h v0 3 ≤ vI h v0 12) (hN : 100000 ≤ N) (H : ∀ y h', q_U L W h0 π h' → (∀ a k, ¬ (v0 ≤ a ∧ a < v0 + 16) → vI h' a k = vI h a k) → (∀ a j, 0 ≤ j → ¬ (v0 ≤ a ∧ a < v0 + 16) → vA h' a j = vA h a j) → (vI h' v0 3 ≤ vI h' v0 12) → (vI h' v0 12 = vI h v0 12) → (∀ E, y = .inr E → E = xE3 ∨ E = xE4) → qk (f (y, h')) Q) : qk (z_b (f_Ed_replaceByNext N v0 h) f) Q := by
  refine qk_b (p_Ed_replaceByNext T kv0 ksf ksp psp pln wE bsp1 bsp2 bsp3 lr hN) ?_
  rintro ⟨y, hz⟩ ⟨Tz, g0, g1, g2, g3, g4⟩
  exact H y hz Tz g0 g1 g2 g3 g4

set_option maxHeartbeats 1000000 in
theorem p_Ed_joinNext {L : q_L} {W : Nat → Prop} {h0 : z_H} {π : Nat → Nat → Option Nat} {N : Nat} {sf : Nat} {sp : Nat} {h : z_H} {v0 : Nat} (T : q_U L W h0 π h) (kv0 : qκ L v0 = 4) (ksf : qκ L sf = 12) (ksp : qκ L sp = 11) (psp : π v0 1 = some sp) (pln : π v0 11 = some (sf + 3)) (wE : ∀ a, v0 ≤ a → a < v0 + 16 → W a) (bsp1 : v0 + 3 ≤ sp) (bsp2 : sp + 2 ≤ v0 + 16) (bsp3 : sp ≠ v0 + 7) (lr : vI h v0 3 ≤ vI h v0 12) (hN : 100000 ≤ N) : qk (f_Ed_joinNext N v0 h) (fun r => q_U L W h0 π r.2 ∧ (∀ a k, ¬ (v0 ≤ a ∧ a < v0 + 16) → vI r.2 a k = vI h a k) ∧ (∀ a j, 0 ≤ j → ¬ (v0 ≤ a ∧ a < v0 + 16) → vA r.2 a j = vA h a j) ∧ (vI r.2 v0 3 ≤ vI r.2 v0 12) ∧ (vI r.2 v0 12 = vI h v0 12) ∧ (∀ E, r.1 = .inr E → E = xE3 ∨ E = xE4)) := by
  have hr_sp := q_rowhi T ksp
  have ced := q_CEd T kv0
  unfold q_C_Ed at ced
  have t12 := T.2.2.2.1 v0 12
  have t3 := T.2.2.2.1 v0 3
  unfold f_Ed_joinNext
  refine r_Ed_3 T kv0 ?_
  intro x1 ex1 lx1 ux1
  subst ex1
  refine r_Ed_12 T kv0 ?_
  intro x2 ex2 lx2 ux2
  subst ex2
  refine qk_if (fun cc1 => ?_) (fun cc1 => ?_)
  · skip
    refine r_Ed_o T kv0 ?_
    refine c_Ed_quit (v0 := v0) (sp := sp) T kv0 ksp psp (by first | with_reducible assumption | grind | grind (ematch := 40) (gen := 40) (splits := 40) | lia) (by first | with_reducible assumption | grind | grind (ematch := 40) (gen := 40) (splits := 40) | lia) (by first | with_reducible assumption | grind | grind (ematch := 40) (gen := 40) (splits := 40) | lia) (by first | with_reducible assumption | grind | grind (ematch := 40) (gen := 40) (splits := 40) | lia) (by first | with_reducible assumption | grind | grind (ematch := 40) (gen := 40) (splits := 40) | lia) (by first | with_reducible assumption | grind | grind (ematch := 40) (gen := 40) (splits := 40) | lia) ?_
    intro yr24 hr24 Tr24 gr24_0 gr24_1 gr24_2 gr24_3 gr24_4
    try dsimp only
    refine qk_zx (fun x25 ex25 => ?_) (fun Ex25 ex25 => ?_)
    · skip
      refine qk_some ?_
      exact ⟨Tr24, (by first | with_reducible assumption | grind | grind (ematch := 40) (gen := 40) (splits := 40) | lia), (by first | with_reducible assumption | grind | grind (ematch := 40) (gen := 40) (splits := 40) | lia), (by first | with_reducible assumption | grind | grind (ematch := 40) (gen := 40) (splits := 40) | lia), (by first | with_reducible assumption | grind | grind (ematch := 40) (gen := 40) (splits := 40) | lia), (by intro E eE; exact absurd eE (by simp))⟩
    · skip
      exact ⟨Tr24, (by first | with_reducible assumption | grind | grind (ematch := 40) (gen := 40) (splits := 40) | lia), (by first | with_reducible assumption | grind | grind (ematch := 40) (gen := 40) (splits := 40) | lia), (by first | with_reducible assumption | grind | grind (ematch := 40) (gen := 40) (splits := 40) | lia), (by first | with_reducible assumption | grind | grind (ematch := 40) (gen := 40) (splits := 40) | lia), (by intro E eE; have z := Sum.inr.inj eE; subst z; exact gr24_4 _ ex25)⟩
  · skip
    refine r_Ed_1 T kv0 psp ?_
    refine r_Ed_11 T kv0 pln ?_
    refine r_Ed_3 T kv0 ?_
    intro x6 ex6 lx6 ux6
    subst ex6
    refine r_SF_e3 T ksf (by first | with_reducible assumption | grind | grind (ematch := 40) (gen := 40) (splits := 40) | lia) (by first | with_reducible assumption | grind | grind (ematch := 40) (gen := 40) (splits := 40) | lia) ?_
    intro kx7 px7 bx7
    refine r_Row_1 T kx7 ?_
    intro x8 ex8 lx8 ux8 mx8
    subst ex8
    refine r_Row_o T ksp ?_
    refine c_Row_hasRoom (v0 := sp) (v1 := (1 + (vI h (sf + (528 + 2 * Int32.toNatClampNeg (vI h v0 3))) 1))) T ksp ?_
    intro yr10 gr10_0 gr10_1
    dsimp only
    refine qk_if (fun cc2 => ?_) (fun cc2 => ?_)
    · skip
      refine qk_some ?_
      exact ⟨T, (by first | with_reducible assumption | grind | grind (ematch := 40) (gen := 40) (splits := 40) | lia), (by first | with_reducible assumption | grind | grind (ematch := 40) (gen := 40) (splits := 40) | lia), (by first | with_reducible assumption | grind | grind (ematch := 40) (gen := 40) (splits := 40) | lia), (by first | with_reducible assumption | grind | grind (ematch := 40) (gen := 40) (splits := 40) | lia), (by intro E eE; have z := Sum.inr.inj eE; subst z; exact Or.inl rfl)⟩
    · skip
      refine r_Ed_o T kv0 ?_
      refine c_Ed_tellAppended (v0 := v0) T kv0 (by first | with_reducible assumption | grind | grind (ematch := 40) (gen := 40) (splits := 40) | lia) (by first | with_reducible assumption | grind | grind (ematch := 40) (gen := 40) (splits := 40) | lia) ?_
      intro yr13 hr13 Tr13 gr13_0 gr13_1 gr13_2
      try dsimp only
      refine qk_zx (fun x14 ex14 => ?_) (fun Ex14 ex14 => ?_)
      · skip
        refine r_Ed_1 Tr13 kv0 psp ?_
        refine r_Row_o Tr13 ksp ?_
        refine c_Row_add (v0 := sp) (v1 := 10) Tr13 ksp (by first | with_reducible assumption | grind | grind (ematch := 40) (gen := 40) (splits := 40) | lia) (by first | with_reducible assumption | grind | grind (ematch := 40) (gen := 40) (splits := 40) | lia) ?_
        intro r20 Tr20 gr20_0 gr20_1
        refine r_Ed_o Tr20 kv0 ?_
        refine c_Ed_readLine (v0 := v0) (sf := sf) (sp := sp) Tr20 kv0 ksf ksp psp pln (by first | with_reducible assumption | grind | grind (ematch := 40) (gen := 40) (splits := 40) | lia) (by first | with_reducible assumption | grind | grind (ematch := 40) (gen := 40) (splits := 40) | lia) (by first | with_reducible assumption | grind | grind (ematch := 40) (gen := 40) (splits := 40) | lia) (by first | with_reducible assumption | grind | grind (ematch := 40) (gen := 40) (splits := 40) | lia) (by first | with_reducible assumption | grind | grind (ematch := 40) (gen := 40) (splits := 40) | lia) (by first | with_reducible assumption | grind | grind (ematch := 40) (gen := 40) (splits := 40) | lia) ?_
        intro r22 Tr22 gr22_0 gr22_1 gr22_2
        refine qk_some ?_
        exact ⟨Tr22, (by first | with_reducible assumption | grind | grind (ematch := 40) (gen := 40) (splits := 40) | lia), (by first | with_reducible assumption | grind | grind (ematch := 40) (gen := 40) (splits := 40) | lia), (by first | with_reducible assumption | grind | grind (ematch := 40) (gen := 40) (splits := 40) | lia), (by first | with_reducible assumption | grind | grind (ematch := 40) (gen := 40) (splits := 40) | lia), (by intro E eE; exact absurd eE (by simp))⟩
      · skip
        exact ⟨Tr13, (by first | with_reducible assumption | grind | grind (ematch := 40) (gen := 40) (splits := 40) | lia), (by first | with_reducible assumption | grind | grind (ematch := 40) (gen := 40) (splits := 40) | lia), (by first | with_reducible assumption | grind | grind (ematch := 40) (gen := 40) (splits := 40) | lia), (by first | with_reducible assumption | grind | grind (ematch := 40) (gen := 40) (splits := 40) | lia), (by intro E eE; have z := Sum.inr.inj eE; subst z; exact gr13_2 _ ex14)⟩
theorem c_Ed_joinNext {L : q_L} {W : Nat → Prop} {h0 : z_H} {π : Nat → Nat → Option Nat} {N : Nat} {sf : Nat} {sp : Nat} {h : z_H} {v0 : Nat} {β : Type} {f : (Unit ⊕ String) × z_H → Option β} {Q : β → Prop} (T : q_U L W h0 π h) (kv0 : qκ L v0 = 4) (ksf : qκ L sf = 12) (ksp : qκ L sp = 11) (psp : π v0 1 = some sp) (pln : π v0 11 = some (sf + 3)) (wE : ∀ a, v0 ≤ a → a < v0 + 16 → W a) (bsp1 : v0 + 3 ≤ sp) (bsp2 : sp + 2 ≤ v0 + 16) (bsp3 : sp ≠ v0 + 7) (lr : vI h v0 3 ≤ vI h v0 12) (hN : 100000 ≤ N) (H : ∀ y h', q_U L W h0 π h' → (∀ a k, ¬ (v0 ≤ a ∧ a < v0 + 16) → vI h' a k = vI h a k) → (∀ a j, 0 ≤ j → ¬ (v0 ≤ a ∧ a < v0 + 16) → vA h' a j = vA h a j) → (vI h' v0 3 ≤ vI h' v0 12) → (vI h' v0 12 = vI h v0 12) → (∀ E, y = .inr E → E = xE3 ∨ E = xE4) → qk (f (y, h')) Q) : qk (z_b (f_Ed_joinNext N v0 h) f) Q := by
  refine qk_b (p_Ed_joinNext T kv0 ksf ksp psp pln wE bsp1 bsp2 bsp3 lr hN) ?_
  rintro ⟨y, hz⟩ ⟨Tz, g0, g1, g2, g3, g4⟩
  exact H y hz Tz g0 g1 g2 g3 g4

set_option maxHeartbeats 1000000 in
theorem p_Ed_join {L : q_L} {W : Nat → Prop} {h0 : z_H} {π : Nat → Nat → Option Nat} {N : Nat} {h : z_H} {v0 : Nat} {v1 : Nat} {v2 : Nat} (T : q_U L W h0 π h) (kv0 : qκ L v0 = 4) (kv1 : qκ L v1 = 11) (kv2 : qκ L v2 = 11) (wE : ∀ a, v0 ≤ a → a < v0 + 16 → W a) (w0 : W v2) (w1 : W (v2 + 1)) (hN : 100000 ≤ N) : qk (f_Ed_join N v0 v1 v2 h) (fun r => q_U L W h0 π r.2 ∧ (∀ a k, ¬ (a = v2 ∧ k = 1) → vI r.2 a k = vI h a k) ∧ (∀ a j, 0 ≤ j → a ≠ v2 + 1 → vA r.2 a j = vA h a j) ∧ (∀ E, r.1 = .inr E → E = xE3 ∨ E = xE4)) := by
  have hr_v1 := q_rowhi T kv1
  have hr_v2 := q_rowhi T kv2
  unfold f_Ed_join
  refine r_Row_1 T kv1 ?_
  intro x1 ex1 lx1 ux1 mx1
  subst ex1
  refine r_Row_o T kv2 ?_
  refine c_Row_hasRoom (v0 := v2) (v1 := (1 + (vI h v1 1))) T kv2 ?_
  intro yr3 gr3_0 gr3_1
  dsimp only
  refine qk_if (fun cc1 => ?_) (fun cc1 => ?_)
  · skip
    refine qk_some ?_
    exact ⟨T, (by first | with_reducible assumption | grind | grind (ematch := 40) (gen := 40) (splits := 40) | lia), (by first | with_reducible assumption | grind | grind (ematch := 40) (gen := 40) (splits := 40) | lia), (by intro E eE; have z := Sum.inr.inj eE; subst z; exact Or.inl rfl)⟩
  · skip
    refine r_Row_o T kv2 ?_
    refine c_Row_add (v0 := v2) (v1 := 10) T kv2 (by first | with_reducible assumption | grind | grind (ematch := 40) (gen := 40) (splits := 40) | lia) (by first | with_reducible assumption | grind | grind (ematch := 40) (gen := 40) (splits := 40) | lia) ?_
    intro r6 Tr6 gr6_0 gr6_1
    refine r_Row_1 Tr6 kv1 ?_
    intro x7 ex7 lx7 ux7 mx7
    subst ex7
    refine r_Row_o Tr6 kv2 ?_
    refine c_Row_addPart (v0 := v2) (v1 := v1) (v2 := 0) (v3 := (vI r6 v1 1)) Tr6 kv2 kv1 (by first | with_reducible assumption | grind | grind (ematch := 40) (gen := 40) (splits := 40) | lia) (by first | with_reducible assumption | grind | grind (ematch := 40) (gen := 40) (splits := 40) | lia) (by first | with_reducible assumption | grind | grind (ematch := 40) (gen := 40) (splits := 40) | lia) (by first | with_reducible assumption | grind | grind (ematch := 40) (gen := 40) (splits := 40) | lia) (by first | with_reducible assumption | grind | grind (ematch := 40) (gen := 40) (splits := 40) | lia) ?_
    intro r9 Tr9 gr9_0 gr9_1
    refine qk_some ?_
    exact ⟨Tr9, (by first | with_reducible assumption | grind | grind (ematch := 40) (gen := 40) (splits := 40) | lia), (by first | with_reducible assumption | grind | grind (ematch := 40) (gen := 40) (splits := 40) | lia), (by intro E eE; exact absurd eE (by simp))⟩
theorem c_Ed_join {L : q_L} {W : Nat → Prop} {h0 : z_H} {π : Nat → Nat → Option Nat} {N : Nat} {h : z_H} {v0 : Nat} {v1 : Nat} {v2 : Nat} {β : Type} {f : (Unit ⊕ String) × z_H → Option β} {Q : β → Prop} (T : q_U L W h0 π h) (kv0 : qκ L v0 = 4) (kv1 : qκ L v1 = 11) (kv2 : qκ L v2 = 11) (wE : ∀ a, v0 ≤ a → a < v0 + 16 → W a) (w0 : W v2) (w1 : W (v2 + 1)) (hN : 100000 ≤ N) (H : ∀ y h', q_U L W h0 π h' → (∀ a k, ¬ (a = v2 ∧ k = 1) → vI h' a k = vI h a k) → (∀ a j, 0 ≤ j → a ≠ v2 + 1 → vA h' a j = vA h a j) → (∀ E, y = .inr E → E = xE3 ∨ E = xE4) → qk (f (y, h')) Q) : qk (z_b (f_Ed_join N v0 v1 v2 h) f) Q := by
  refine qk_b (p_Ed_join T kv0 kv1 kv2 wE w0 w1 hN) ?_
  rintro ⟨y, hz⟩ ⟨Tz, g0, g1, g2⟩
  exact H y hz Tz g0 g1 g2

set_option maxHeartbeats 1000000 in
theorem p_Ed_tellNumber {L : q_L} {W : Nat → Prop} {h0 : z_H} {π : Nat → Nat → Option Nat} {N : Nat} {dr : Nat} {h : z_H} {v0 : Nat} (T : q_U L W h0 π h) (kv0 : qκ L v0 = 4) (kdr : qκ L dr = 11) (pdr : π v0 9 = some dr) (wE : ∀ a, v0 ≤ a → a < v0 + 16 → W a) (bdr1 : v0 + 3 ≤ dr) (bdr2 : dr + 2 ≤ v0 + 16) (bdr3 : dr ≠ v0 + 7) (hN : 100000 ≤ N) : qk (f_Ed_tellNumber N v0 h) (fun r => q_U L W h0 π r.2 ∧ (∀ a k, ¬ (v0 ≤ a ∧ a < v0 + 16) → vI r.2 a k = vI h a k) ∧ (∀ a j, 0 ≤ j → ¬ (v0 ≤ a ∧ a < v0 + 16) → vA r.2 a j = vA h a j) ∧ (vI r.2 v0 3 = vI h v0 3) ∧ (vI r.2 v0 12 = vI h v0 12) ∧ (∀ E, r.1 = .inr E → E = xE3 ∨ E = xE4)) := by
  have hr_dr := q_rowhi T kdr
  have ced := q_CEd T kv0
  unfold q_C_Ed at ced
  unfold f_Ed_tellNumber
  refine r_Ed_9 T kv0 pdr ?_
  refine r_Row_o T kdr ?_
  refine c_Row_empty (v0 := dr) T kdr (by first | with_reducible assumption | grind | grind (ematch := 40) (gen := 40) (splits := 40) | lia) ?_
  intro r3 Tr3 gr3_0 gr3_1
  refine r_Ed_3 Tr3 kv0 ?_
  intro x4 ex4 lx4 ux4
  subst ex4
  refine qk_if (fun cc1 => ?_) (fun cc1 => ?_)
  · skip
    unfold f_Ed_tellNumber_33
    refine r_Ed_9 Tr3 kv0 pdr ?_
    refine r_Ed_3 Tr3 kv0 ?_
    intro x2i2 ex2i2 lx2i2 ux2i2
    subst ex2i2
    refine r_Row_o Tr3 kdr ?_
    refine c_Row_add (v0 := dr) (v1 := (48 + ((vI r3 v0 3) - (vI r3 v0 3) / 10 * 10))) Tr3 kdr (by first | with_reducible assumption | grind | grind (ematch := 40) (gen := 40) (splits := 40) | lia) (by first | with_reducible assumption | grind | grind (ematch := 40) (gen := 40) (splits := 40) | lia) ?_
    intro r4i2 Tr4i2 gr4i2_0 gr4i2_1
    refine r_Ed_9 Tr4i2 kv0 pdr ?_
    refine r_Ed_9 Tr4i2 kv0 pdr ?_
    refine r_Row_1 Tr4i2 kdr ?_
    intro x7i2 ex7i2 lx7i2 ux7i2 mx7i2
    subst ex7i2
    refine r_Ed_o Tr4i2 kv0 ?_
    refine c_Ed_tell (v0 := v0) (v1 := dr) (v2 := 0) (v3 := (vI r4i2 dr 1)) Tr4i2 kv0 kdr (by first | with_reducible assumption | grind | grind (ematch := 40) (gen := 40) (splits := 40) | lia) (by first | with_reducible assumption | grind | grind (ematch := 40) (gen := 40) (splits := 40) | lia) (by first | with_reducible assumption | grind | grind (ematch := 40) (gen := 40) (splits := 40) | lia) (by first | with_reducible assumption | grind | grind (ematch := 40) (gen := 40) (splits := 40) | lia) ?_
    intro yr9i2 hr9i2 Tr9i2 gr9i2_0 gr9i2_1 gr9i2_2
    try dsimp only
    refine qk_zx (fun x10i2 ex10i2 => ?_) (fun Ex10i2 ex10i2 => ?_)
    · skip
      refine qk_some ?_
      exact ⟨Tr9i2, (by first | with_reducible assumption | grind | grind (ematch := 40) (gen := 40) (splits := 40) | lia), (by first | with_reducible assumption | grind | grind (ematch := 40) (gen := 40) (splits := 40) | lia), (by first | with_reducible assumption | grind | grind (ematch := 40) (gen := 40) (splits := 40) | lia), (by first | with_reducible assumption | grind | grind (ematch := 40) (gen := 40) (splits := 40) | lia), (by intro E eE; exact absurd eE (by simp))⟩
    · skip
      exact ⟨Tr9i2, (by first | with_reducible assumption | grind | grind (ematch := 40) (gen := 40) (splits := 40) | lia), (by first | with_reducible assumption | grind | grind (ematch := 40) (gen := 40) (splits := 40) | lia), (by first | with_reducible assumption | grind | grind (ematch := 40) (gen := 40) (splits := 40) | lia), (by first | with_reducible assumption | grind | grind (ematch := 40) (gen := 40) (splits := 40) | lia), (by intro E eE; have z := Sum.inr.inj eE; subst z; exact gr9i2_2 _ ex10i2)⟩
  · skip
    refine r_Ed_9 Tr3 kv0 pdr ?_
    refine r_Ed_3 Tr3 kv0 ?_
    intro x7 ex7 lx7 ux7
    subst ex7
    refine r_Row_o Tr3 kdr ?_
    refine c_Row_add (v0 := dr) (v1 := (48 + ((vI r3 v0 3) / 10))) Tr3 kdr (by first | with_reducible assumption | grind | grind (ematch := 40) (gen := 40) (splits := 40) | lia) (by first | with_reducible assumption | grind | grind (ematch := 40) (gen := 40) (splits := 40) | lia) ?_
    intro r9 Tr9 gr9_0 gr9_1
    unfold f_Ed_tellNumber_33
    refine r_Ed_9 Tr9 kv0 pdr ?_
    refine r_Ed_3 Tr9 kv0 ?_
    intro x2i3 ex2i3 lx2i3 ux2i3
    subst ex2i3
    refine r_Row_o Tr9 kdr ?_
    refine c_Row_add (v0 := dr) (v1 := (48 + ((vI r9 v0 3) - (vI r9 v0 3) / 10 * 10))) Tr9 kdr (by first | with_reducible assumption | grind | grind (ematch := 40) (gen := 40) (splits := 40) | lia) (by first | with_reducible assumption | grind | grind (ematch := 40) (gen := 40) (splits := 40) | lia) ?_
    intro r4i3 Tr4i3 gr4i3_0 gr4i3_1
    refine r_Ed_9 Tr4i3 kv0 pdr ?_
    refine r_Ed_9 Tr4i3 kv0 pdr ?_
    refine r_Row_1 Tr4i3 kdr ?_
    intro x7i3 ex7i3 lx7i3 ux7i3 mx7i3
    subst ex7i3
    refine r_Ed_o Tr4i3 kv0 ?_
    refine c_Ed_tell (v0 := v0) (v1 := dr) (v2 := 0) (v3 := (vI r4i3 dr 1)) Tr4i3 kv0 kdr (by first | with_reducible assumption | grind | grind (ematch := 40) (gen := 40) (splits := 40) | lia) (by first | with_reducible assumption | grind | grind (ematch := 40) (gen := 40) (splits := 40) | lia) (by first | with_reducible assumption | grind | grind (ematch := 40) (gen := 40) (splits := 40) | lia) (by first | with_reducible assumption | grind | grind (ematch := 40) (gen := 40) (splits := 40) | lia) ?_
    intro yr9i3 hr9i3 Tr9i3 gr9i3_0 gr9i3_1 gr9i3_2
    try dsimp only
    refine qk_zx (fun x10i3 ex10i3 => ?_) (fun Ex10i3 ex10i3 => ?_)
    · skip
      refine qk_some ?_
      exact ⟨Tr9i3, (by first | with_reducible assumption | grind | grind (ematch := 40) (gen := 40) (splits := 40) | lia), (by first | with_reducible assumption | grind | grind (ematch := 40) (gen := 40) (splits := 40) | lia), (by first | with_reducible assumption | grind | grind (ematch := 40) (gen := 40) (splits := 40) | lia), (by first | with_reducible assumption | grind | grind (ematch := 40) (gen := 40) (splits := 40) | lia), (by intro E eE; exact absurd eE (by simp))⟩
    · skip
      exact ⟨Tr9i3, (by first | with_reducible assumption | grind | grind (ematch := 40) (gen := 40) (splits := 40) | lia), (by first | with_reducible assumption | grind | grind (ematch := 40) (gen := 40) (splits := 40) | lia), (by first | with_reducible assumption | grind | grind (ematch := 40) (gen := 40) (splits := 40) | lia), (by first | with_reducible assumption | grind | grind (ematch := 40) (gen := 40) (splits := 40) | lia), (by intro E eE; have z := Sum.inr.inj eE; subst z; exact gr9i3_2 _ ex10i3)⟩
theorem c_Ed_tellNumber {L : q_L} {W : Nat → Prop} {h0 : z_H} {π : Nat → Nat → Option Nat} {N : Nat} {dr : Nat} {h : z_H} {v0 : Nat} {β : Type} {f : (Unit ⊕ String) × z_H → Option β} {Q : β → Prop} (T : q_U L W h0 π h) (kv0 : qκ L v0 = 4) (kdr : qκ L dr = 11) (pdr : π v0 9 = some dr) (wE : ∀ a, v0 ≤ a → a < v0 + 16 → W a) (bdr1 : v0 + 3 ≤ dr) (bdr2 : dr + 2 ≤ v0 + 16) (bdr3 : dr ≠ v0 + 7) (hN : 100000 ≤ N) (H : ∀ y h', q_U L W h0 π h' → (∀ a k, ¬ (v0 ≤ a ∧ a < v0 + 16) → vI h' a k = vI h a k) → (∀ a j, 0 ≤ j → ¬ (v0 ≤ a ∧ a < v0 + 16) → vA h' a j = vA h a j) → (vI h' v0 3 = vI h v0 3) → (vI h' v0 12 = vI h v0 12) → (∀ E, y = .inr E → E = xE3 ∨ E = xE4) → qk (f (y, h')) Q) : qk (z_b (f_Ed_tellNumber N v0 h) f) Q := by
  refine qk_b (p_Ed_tellNumber T kv0 kdr pdr wE bdr1 bdr2 bdr3 hN) ?_
  rintro ⟨y, hz⟩ ⟨Tz, g0, g1, g2, g3, g4⟩
  exact H y hz Tz g0 g1 g2 g3 g4
