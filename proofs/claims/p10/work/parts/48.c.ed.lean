set_option maxHeartbeats 1000000 in
theorem p_Ed_endCycle {L : q_L} {W : Nat → Prop} {h0 : z_H} {π : Nat → Nat → Option Nat} {N : Nat} {sf : Nat} {sp : Nat} {h : z_H} {v0 : Nat} {v1 : Int32} (T : q_U L W h0 π h) (kv0 : qκ L v0 = 4) (ksf : qκ L sf = 12) (ksp : qκ L sp = 11) (psp : π v0 1 = some sp) (pln : π v0 11 = some (sf + 3)) (wE : ∀ a, v0 ≤ a → a < v0 + 16 → W a) (bsp1 : v0 + 3 ≤ sp) (bsp2 : sp + 2 ≤ v0 + 16) (bsp3 : sp ≠ v0 + 7) (lr : vI h v0 3 ≤ vI h v0 12) (hN : 100000 ≤ N) : qk (f_Ed_endCycle N v0 v1 h) (fun r => q_U L W h0 π r.2 ∧ (∀ a k, ¬ (v0 ≤ a ∧ a < v0 + 16) → vI r.2 a k = vI h a k) ∧ (∀ a j, 0 ≤ j → ¬ (v0 ≤ a ∧ a < v0 + 16) → vA r.2 a j = vA h a j) ∧ (vI r.2 v0 3 ≤ vI r.2 v0 12) ∧ (vI r.2 v0 12 = vI h v0 12) ∧ (∀ E, r.1 = .inr E → E = xE3 ∨ E = xE4)) := by
  have hr_sp := q_rowhi T ksp
  have ced := q_CEd T kv0
  unfold q_C_Ed at ced
  unfold f_Ed_endCycle
  refine qk_if (fun cc1 => ?_) (fun cc1 => ?_)
  · skip
    unfold f_Ed_endCycle_20
    refine r_Ed_o T kv0 ?_
    refine c_Ed_tellAppended (v0 := v0) T kv0 (by first | with_reducible assumption | grind | grind (ematch := 40) (gen := 40) (splits := 40) | lia) (by first | with_reducible assumption | grind | grind (ematch := 40) (gen := 40) (splits := 40) | lia) ?_
    intro yr2i2 hr2i2 Tr2i2 gr2i2_0 gr2i2_1 gr2i2_2
    try dsimp only
    refine qk_zx (fun x3i2 ex3i2 => ?_) (fun Ex3i2 ex3i2 => ?_)
    · skip
      refine r_Ed_o Tr2i2 kv0 ?_
      refine c_Ed_beginLine (v0 := v0) (sf := sf) (sp := sp) Tr2i2 kv0 ksf ksp psp pln (by first | with_reducible assumption | grind | grind (ematch := 40) (gen := 40) (splits := 40) | lia) (by first | with_reducible assumption | grind | grind (ematch := 40) (gen := 40) (splits := 40) | lia) (by first | with_reducible assumption | grind | grind (ematch := 40) (gen := 40) (splits := 40) | lia) (by first | with_reducible assumption | grind | grind (ematch := 40) (gen := 40) (splits := 40) | lia) (by first | with_reducible assumption | grind | grind (ematch := 40) (gen := 40) (splits := 40) | lia) (by first | with_reducible assumption | grind | grind (ematch := 40) (gen := 40) (splits := 40) | lia) ?_
      intro r8i2 Tr8i2 gr8i2_0 gr8i2_1 gr8i2_2 gr8i2_3
      refine qk_some ?_
      exact ⟨Tr8i2, (by first | with_reducible assumption | grind | grind (ematch := 40) (gen := 40) (splits := 40) | lia), (by first | with_reducible assumption | grind | grind (ematch := 40) (gen := 40) (splits := 40) | lia), (by first | with_reducible assumption | grind | grind (ematch := 40) (gen := 40) (splits := 40) | lia), (by first | with_reducible assumption | grind | grind (ematch := 40) (gen := 40) (splits := 40) | lia), (by intro E eE; exact absurd eE (by simp))⟩
    · skip
      exact ⟨Tr2i2, (by first | with_reducible assumption | grind | grind (ematch := 40) (gen := 40) (splits := 40) | lia), (by first | with_reducible assumption | grind | grind (ematch := 40) (gen := 40) (splits := 40) | lia), (by first | with_reducible assumption | grind | grind (ematch := 40) (gen := 40) (splits := 40) | lia), (by first | with_reducible assumption | grind | grind (ematch := 40) (gen := 40) (splits := 40) | lia), (by intro E eE; have z := Sum.inr.inj eE; subst z; exact gr2i2_2 _ ex3i2)⟩
  · skip
    refine r_Ed_1 T kv0 psp ?_
    refine r_Ed_1 T kv0 psp ?_
    refine r_Row_1 T ksp ?_
    intro x4 ex4 lx4 ux4 mx4
    subst ex4
    refine r_Ed_o T kv0 ?_
    refine c_Ed_tell (v0 := v0) (v1 := sp) (v2 := 0) (v3 := (vI h sp 1)) T kv0 ksp (by first | with_reducible assumption | grind | grind (ematch := 40) (gen := 40) (splits := 40) | lia) (by first | with_reducible assumption | grind | grind (ematch := 40) (gen := 40) (splits := 40) | lia) (by first | with_reducible assumption | grind | grind (ematch := 40) (gen := 40) (splits := 40) | lia) (by first | with_reducible assumption | grind | grind (ematch := 40) (gen := 40) (splits := 40) | lia) ?_
    intro yr6 hr6 Tr6 gr6_0 gr6_1 gr6_2
    try dsimp only
    refine qk_zx (fun x7 ex7 => ?_) (fun Ex7 ex7 => ?_)
    · skip
      unfold f_Ed_endCycle_20
      refine r_Ed_o Tr6 kv0 ?_
      refine c_Ed_tellAppended (v0 := v0) Tr6 kv0 (by first | with_reducible assumption | grind | grind (ematch := 40) (gen := 40) (splits := 40) | lia) (by first | with_reducible assumption | grind | grind (ematch := 40) (gen := 40) (splits := 40) | lia) ?_
      intro yr2i3 hr2i3 Tr2i3 gr2i3_0 gr2i3_1 gr2i3_2
      try dsimp only
      refine qk_zx (fun x3i3 ex3i3 => ?_) (fun Ex3i3 ex3i3 => ?_)
      · skip
        refine r_Ed_o Tr2i3 kv0 ?_
        refine c_Ed_beginLine (v0 := v0) (sf := sf) (sp := sp) Tr2i3 kv0 ksf ksp psp pln (by first | with_reducible assumption | grind | grind (ematch := 40) (gen := 40) (splits := 40) | lia) (by first | with_reducible assumption | grind | grind (ematch := 40) (gen := 40) (splits := 40) | lia) (by first | with_reducible assumption | grind | grind (ematch := 40) (gen := 40) (splits := 40) | lia) (by first | with_reducible assumption | grind | grind (ematch := 40) (gen := 40) (splits := 40) | lia) (by first | with_reducible assumption | grind | grind (ematch := 40) (gen := 40) (splits := 40) | lia) (by first | with_reducible assumption | grind | grind (ematch := 40) (gen := 40) (splits := 40) | lia) ?_
        intro r8i3 Tr8i3 gr8i3_0 gr8i3_1 gr8i3_2 gr8i3_3
        refine qk_some ?_
        exact ⟨Tr8i3, (by first | with_reducible assumption | grind | grind (ematch := 40) (gen := 40) (splits := 40) | lia), (by first | with_reducible assumption | grind | grind (ematch := 40) (gen := 40) (splits := 40) | lia), (by first | with_reducible assumption | grind | grind (ematch := 40) (gen := 40) (splits := 40) | lia), (by first | with_reducible assumption | grind | grind (ematch := 40) (gen := 40) (splits := 40) | lia), (by intro E eE; exact absurd eE (by simp))⟩
      · skip
        exact ⟨Tr2i3, (by first | with_reducible assumption | grind | grind (ematch := 40) (gen := 40) (splits := 40) | lia), (by first | with_reducible assumption | grind | grind (ematch := 40) (gen := 40) (splits := 40) | lia), (by first | with_reducible assumption | grind | grind (ematch := 40) (gen := 40) (splits := 40) | lia), (by first | with_reducible assumption | grind | grind (ematch := 40) (gen := 40) (splits := 40) | lia), (by intro E eE; have z := Sum.inr.inj eE; subst z; exact gr2i3_2 _ ex3i3)⟩
    · skip
      exact ⟨Tr6, (by first | with_reducible assumption | grind | grind (ematch := 40) (gen := 40) (splits := 40) | lia), (by first | with_reducible assumption | grind | grind (ematch := 40) (gen := 40) (splits := 40) | lia), (by first | with_reducible assumption | grind | grind (ematch := 40) (gen := 40) (splits := 40) | lia), (by first | with_reducible assumption | grind | grind (ematch := 40) (gen := 40) (splits := 40) | lia), (by intro E eE; have z := Sum.inr.inj eE; subst z; exact gr6_2 _ ex7)⟩
theorem c_Ed_endCycle {L : q_L} {W : Nat → Prop} {h0 : z_H} {π : Nat → Nat → Option Nat} {N : Nat} {sf : Nat} {sp : Nat} {h : z_H} {v0 : Nat} {v1 : Int32} {β : Type} {f : (Unit ⊕ String) × z_H → Option β} {Q : β → Prop} (T : q_U L W h0 π h) (kv0 : qκ L v0 = 4) (ksf : qκ L sf = 12) (ksp : qκ L sp = 11) (psp : π v0 1 = some sp) (pln : π v0 11 = some (sf + 3)) (wE : ∀ a, v0 ≤ a → a < v0 + 16 → W a) (bsp1 : v0 + 3 ≤ sp) (bsp2 : sp + 2 ≤ v0 + 16) (bsp3 : sp ≠ v0 + 7) (lr : vI h v0 3 ≤ vI h v0 12) (hN : 100000 ≤ N) (H : ∀ y h', q_U L W h0 π h' → (∀ a k, ¬ (v0 ≤ a ∧ a < v0 + 16) → vI h' a k = vI h a k) → (∀ a j, 0 ≤ j → ¬ (v0 ≤ a ∧ a < v0 + 16) → vA h' a j = vA h a j) → (vI h' v0 3 ≤ vI h' v0 12) → (vI h' v0 12 = vI h v0 12) → (∀ E, y = .inr E → E = xE3 ∨ E = xE4) → qk (f (y, h')) Q) : qk (z_b (f_Ed_endCycle N v0 v1 h) f) Q := by
  refine qk_b (p_Ed_endCycle T kv0 ksf ksp psp pln wE bsp1 bsp2 bsp3 lr hN) ?_
  rintro ⟨y, hz⟩ ⟨Tz, g0, g1, g2, g3, g4⟩
  exact H y hz Tz g0 g1 g2 g3 g4

set_option maxHeartbeats 1000000 in
theorem p_Ed_draftPart {L : q_L} {W : Nat → Prop} {h0 : z_H} {π : Nat → Nat → Option Nat} {N : Nat} {sp : Nat} {dr : Nat} {h : z_H} {v0 : Nat} {v1 : Int32} {v2 : Int32} (T : q_U L W h0 π h) (kv0 : qκ L v0 = 4) (ksp : qκ L sp = 11) (psp : π v0 1 = some sp) (kdr : qκ L dr = 11) (pdr : π v0 9 = some dr) (wE : ∀ a, v0 ≤ a → a < v0 + 16 → W a) (bdr1 : v0 + 3 ≤ dr) (bdr2 : dr + 2 ≤ v0 + 16) (bdr3 : dr ≠ v0 + 7) (b0 : 0 ≤ v1) (b1 : v1 ≤ 1000) (hN : 100000 ≤ N) : qk (f_Ed_draftPart N v0 v1 v2 h) (fun r => q_U L W h0 π r.2 ∧ (∀ a k, ¬ (a = dr ∧ k = 1) → vI r.2 a k = vI h a k) ∧ (∀ a j, 0 ≤ j → a ≠ dr + 1 → vA r.2 a j = vA h a j) ∧ (∀ E, r.1 = .inr E → E = xE3 ∨ E = xE4)) := by
  have hr_sp := q_rowhi T ksp
  have hr_dr := q_rowhi T kdr
  unfold f_Ed_draftPart
  refine r_Ed_9 T kv0 pdr ?_
  refine r_Row_o T kdr ?_
  refine c_Row_hasRoom (v0 := dr) (v1 := (v2 - v1)) T kdr ?_
  intro yr3 gr3_0 gr3_1
  dsimp only
  refine qk_if (fun cc1 => ?_) (fun cc1 => ?_)
  · skip
    refine qk_some ?_
    exact ⟨T, (by first | with_reducible assumption | grind | grind (ematch := 40) (gen := 40) (splits := 40) | lia), (by first | with_reducible assumption | grind | grind (ematch := 40) (gen := 40) (splits := 40) | lia), (by intro E eE; have z := Sum.inr.inj eE; subst z; exact Or.inl rfl)⟩
  · skip
    refine r_Ed_9 T kv0 pdr ?_
    refine r_Ed_1 T kv0 psp ?_
    refine r_Row_o T kdr ?_
    refine c_Row_addPart (v0 := dr) (v1 := sp) (v2 := v1) (v3 := v2) T kdr ksp (by first | with_reducible assumption | grind | grind (ematch := 40) (gen := 40) (splits := 40) | lia) (by first | with_reducible assumption | grind | grind (ematch := 40) (gen := 40) (splits := 40) | lia) (by first | with_reducible assumption | grind | grind (ematch := 40) (gen := 40) (splits := 40) | lia) (by first | with_reducible assumption | grind | grind (ematch := 40) (gen := 40) (splits := 40) | lia) (by first | with_reducible assumption | grind | grind (ematch := 40) (gen := 40) (splits := 40) | lia) ?_
    intro r8 Tr8 gr8_0 gr8_1
    refine qk_some ?_
    exact ⟨Tr8, (by first | with_reducible assumption | grind | grind (ematch := 40) (gen := 40) (splits := 40) | lia), (by first | with_reducible assumption | grind | grind (ematch := 40) (gen := 40) (splits := 40) | lia), (by intro E eE; exact absurd eE (by simp))⟩
theorem c_Ed_draftPart {L : q_L} {W : Nat → Prop} {h0 : z_H} {π : Nat → Nat → Option Nat} {N : Nat} {sp : Nat} {dr : Nat} {h : z_H} {v0 : Nat} {v1 : Int32} {v2 : Int32} {β : Type} {f : (Unit ⊕ String) × z_H → Option β} {Q : β → Prop} (T : q_U L W h0 π h) (kv0 : qκ L v0 = 4) (ksp : qκ L sp = 11) (psp : π v0 1 = some sp) (kdr : qκ L dr = 11) (pdr : π v0 9 = some dr) (wE : ∀ a, v0 ≤ a → a < v0 + 16 → W a) (bdr1 : v0 + 3 ≤ dr) (bdr2 : dr + 2 ≤ v0 + 16) (bdr3 : dr ≠ v0 + 7) (b0 : 0 ≤ v1) (b1 : v1 ≤ 1000) (hN : 100000 ≤ N) (H : ∀ y h', q_U L W h0 π h' → (∀ a k, ¬ (a = dr ∧ k = 1) → vI h' a k = vI h a k) → (∀ a j, 0 ≤ j → a ≠ dr + 1 → vA h' a j = vA h a j) → (∀ E, y = .inr E → E = xE3 ∨ E = xE4) → qk (f (y, h')) Q) : qk (z_b (f_Ed_draftPart N v0 v1 v2 h) f) Q := by
  refine qk_b (p_Ed_draftPart T kv0 ksp psp kdr pdr wE bdr1 bdr2 bdr3 b0 b1 hN) ?_
  rintro ⟨y, hz⟩ ⟨Tz, g0, g1, g2⟩
  exact H y hz Tz g0 g1 g2

set_option maxHeartbeats 1000000 in
theorem p_Ed_draftCharacter {L : q_L} {W : Nat → Prop} {h0 : z_H} {π : Nat → Nat → Option Nat} {N : Nat} {dr : Nat} {h : z_H} {v0 : Nat} {v1 : Int32} (T : q_U L W h0 π h) (kv0 : qκ L v0 = 4) (kdr : qκ L dr = 11) (pdr : π v0 9 = some dr) (wE : ∀ a, v0 ≤ a → a < v0 + 16 → W a) (bdr1 : v0 + 3 ≤ dr) (bdr2 : dr + 2 ≤ v0 + 16) (bdr3 : dr ≠ v0 + 7) : qk (f_Ed_draftCharacter N v0 v1 h) (fun r => q_U L W h0 π r.2 ∧ (∀ a k, ¬ (a = dr ∧ k = 1) → vI r.2 a k = vI h a k) ∧ (∀ a j, 0 ≤ j → a ≠ dr + 1 → vA r.2 a j = vA h a j) ∧ (∀ E, r.1 = .inr E → E = xE3 ∨ E = xE4)) := by
  have hr_dr := q_rowhi T kdr
  unfold f_Ed_draftCharacter
  refine r_Ed_9 T kv0 pdr ?_
  refine r_Row_o T kdr ?_
  refine c_Row_hasRoom (v0 := dr) (v1 := 1) T kdr ?_
  intro yr3 gr3_0 gr3_1
  dsimp only
  refine qk_if (fun cc1 => ?_) (fun cc1 => ?_)
  · skip
    refine qk_some ?_
    exact ⟨T, (by first | with_reducible assumption | grind | grind (ematch := 40) (gen := 40) (splits := 40) | lia), (by first | with_reducible assumption | grind | grind (ematch := 40) (gen := 40) (splits := 40) | lia), (by intro E eE; have z := Sum.inr.inj eE; subst z; exact Or.inl rfl)⟩
  · skip
    refine r_Ed_9 T kv0 pdr ?_
    refine r_Row_o T kdr ?_
    refine c_Row_add (v0 := dr) (v1 := v1) T kdr (by first | with_reducible assumption | grind | grind (ematch := 40) (gen := 40) (splits := 40) | lia) (by first | with_reducible assumption | grind | grind (ematch := 40) (gen := 40) (splits := 40) | lia) ?_
    intro r7 Tr7 gr7_0 gr7_1
    refine qk_some ?_
    exact ⟨Tr7, (by first | with_reducible assumption | grind | grind (ematch := 40) (gen := 40) (splits := 40) | lia), (by first | with_reducible assumption | grind | grind (ematch := 40) (gen := 40) (splits := 40) | lia), (by intro E eE; exact absurd eE (by simp))⟩
theorem c_Ed_draftCharacter {L : q_L} {W : Nat → Prop} {h0 : z_H} {π : Nat → Nat → Option Nat} {N : Nat} {dr : Nat} {h : z_H} {v0 : Nat} {v1 : Int32} {β : Type} {f : (Unit ⊕ String) × z_H → Option β} {Q : β → Prop} (T : q_U L W h0 π h) (kv0 : qκ L v0 = 4) (kdr : qκ L dr = 11) (pdr : π v0 9 = some dr) (wE : ∀ a, v0 ≤ a → a < v0 + 16 → W a) (bdr1 : v0 + 3 ≤ dr) (bdr2 : dr + 2 ≤ v0 + 16) (bdr3 : dr ≠ v0 + 7) (H : ∀ y h', q_U L W h0 π h' → (∀ a k, ¬ (a = dr ∧ k = 1) → vI h' a k = vI h a k) → (∀ a j, 0 ≤ j → a ≠ dr + 1 → vA h' a j = vA h a j) → (∀ E, y = .inr E → E = xE3 ∨ E = xE4) → qk (f (y, h')) Q) : qk (z_b (f_Ed_draftCharacter N v0 v1 h) f) Q := by
  refine qk_b (p_Ed_draftCharacter T kv0 kdr pdr wE bdr1 bdr2 bdr3) ?_
  rintro ⟨y, hz⟩ ⟨Tz, g0, g1, g2⟩
  exact H y hz Tz g0 g1 g2

set_option maxHeartbeats 1000000 in
theorem p_Ed_draftReplacement_5_n {L : q_L} {W : Nat → Prop} {h0 : z_H} {π : Nat → Nat → Option Nat} {N : Nat} {sp : Nat} {dr : Nat} {pg : Nat} {lo : Nat → Int32} (hqn : q_Q lo 246) : ∀ (n : Nat) (v0 : Nat) (v1 : Nat) (v2 : Int32) (h : z_H), q_U L W h0 π h → qκ L v0 = 4 → qκ L v1 = 2 → (qκ L sp = 11) → (π v0 1 = some sp) → (qκ L dr = 11) → (π v0 9 = some dr) → (qκ L pg = 10) → (π v0 10 = some pg) → (∀ a, v0 ≤ a → a < v0 + 16 → W a) → (v0 + 3 ≤ dr) → (dr + 2 ≤ v0 + 16) → (dr ≠ v0 + 7) → (0 ≤ v2) → (v2 ≤ 245) → (100000 ≤ N) → (lo n ≤ v2) → qk (f_Ed_draftReplacement_5 N  n v0 v1 v2 h) (fun r => q_U L W h0 π r.2 ∧ (∀ a k, ¬ (a = dr ∧ k = 1) → vI r.2 a k = vI h a k) ∧ (∀ a j, 0 ≤ j → a ≠ dr + 1 → vA r.2 a j = vA h a j) ∧ (∀ E, r.1 = .inr E → E = xE3 ∨ E = xE4)) := by
  intro n
  induction n with
  | zero => intro v0 v1 v2 h T kv0 kv1 ksp psp kdr pdr kpg ppg wE bdr1 bdr2 bdr3 b0 b1 hN hms; have hr_sp := q_rowhi T ksp; have hr_dr := q_rowhi T kdr; have hz := hqn.1; exact absurd hms (by grind)
  | succ n ih =>
    intro v0 v1 v2 h T kv0 kv1 ksp psp kdr pdr kpg ppg wE bdr1 bdr2 bdr3 b0 b1 hN hms
    obtain ⟨hq1, hq2, hq3⟩ := hqn.2 n
    rw [f_Ed_draftReplacement_5]
    have hr_sp := q_rowhi T ksp
    have hr_dr := q_rowhi T kdr
    have ced := q_CEd T kv0
    unfold q_C_Ed at ced
    refine r_Cmd_10 T kv1 ?_
    intro x1 ex1 lx1 ux1
    subst ex1
    refine qk_if (fun cc1 => ?_) (fun cc1 => ?_)
    · skip
      refine qk_some ?_
      exact ⟨T, (by clear ih; first | with_reducible assumption | grind | grind (ematch := 40) (gen := 40) (splits := 40) | lia), (by clear ih; first | with_reducible assumption | grind | grind (ematch := 40) (gen := 40) (splits := 40) | lia), (by clear ih; intro E eE; exact absurd eE (by simp))⟩
    · skip
      refine r_Ed_10 T kv0 ppg ?_
      refine r_Prog_0 T kpg ?_
      intro kx4 px4
      refine r_Row_o T kx4 ?_
      refine c_Row_at (v0 := (pg + 1)) (v1 := v2) T kx4 ?_
      intro yr6 gr6_0
      dsimp only
      refine qk_bs ?_
      refine qk_if (fun cc2 => ?_) (fun cc2 => ?_)
      · skip
        refine r_Ed_8 T kv0 ?_
        intro kx31
        refine r_Ma_0 T kx31 ?_
        intro x32 ex32 lx32 ux32
        subst ex32
        refine r_Ed_8 T kv0 ?_
        intro kx33
        refine r_Ma_1 T kx33 ?_
        intro x34 ex34 lx34 ux34
        subst ex34
        refine r_Ed_o T kv0 ?_
        refine c_Ed_draftPart (v0 := v0) (v1 := (vI h (v0 + 9) 0)) (v2 := (vI h (v0 + 9) 1)) (sp := sp) (dr := dr) T kv0 ksp psp kdr pdr (by clear ih; first | with_reducible assumption | grind | grind (ematch := 40) (gen := 40) (splits := 40) | lia) (by clear ih; first | with_reducible assumption | grind | grind (ematch := 40) (gen := 40) (splits := 40) | lia) (by clear ih; first | with_reducible assumption | grind | grind (ematch := 40) (gen := 40) (splits := 40) | lia) (by clear ih; first | with_reducible assumption | grind | grind (ematch := 40) (gen := 40) (splits := 40) | lia) (by clear ih; first | with_reducible assumption | grind | grind (ematch := 40) (gen := 40) (splits := 40) | lia) (by clear ih; first | with_reducible assumption | grind | grind (ematch := 40) (gen := 40) (splits := 40) | lia) (by clear ih; first | with_reducible assumption | grind | grind (ematch := 40) (gen := 40) (splits := 40) | lia) ?_
        intro yr36 hr36 Tr36 gr36_0 gr36_1 gr36_2
        try dsimp only
        refine qk_zx (fun x37 ex37 => ?_) (fun Ex37 ex37 => ?_)
        · skip
          refine qk_bs ?_
          refine qk_mono (ih (v0) (v1) ((v2 + 1)) hr36 Tr36 kv0 kv1 ksp psp kdr pdr kpg ppg (by clear ih; first | with_reducible assumption | grind | grind (ematch := 40) (gen := 40) (splits := 40) | lia) (by clear ih; first | with_reducible assumption | grind | grind (ematch := 40) (gen := 40) (splits := 40) | lia) (by clear ih; first | with_reducible assumption | grind | grind (ematch := 40) (gen := 40) (splits := 40) | lia) (by clear ih; first | with_reducible assumption | grind | grind (ematch := 40) (gen := 40) (splits := 40) | lia) (by clear ih; first | with_reducible assumption | grind | grind (ematch := 40) (gen := 40) (splits := 40) | lia) (by clear ih; first | with_reducible assumption | grind | grind (ematch := 40) (gen := 40) (splits := 40) | lia) (by clear ih; first | with_reducible assumption | grind | grind (ematch := 40) (gen := 40) (splits := 40) | lia) (by clear ih; first | with_reducible assumption | grind | grind (ematch := 40) (gen := 40) (splits := 40) | lia)) ?_
          rintro ⟨y, hz⟩ ⟨Tz, g0, g1, g2⟩
          try dsimp only at *
          exact ⟨Tz, (by clear ih; first | with_reducible assumption | grind | grind (ematch := 40) (gen := 40) (splits := 40) | lia), (by clear ih; first | with_reducible assumption | grind | grind (ematch := 40) (gen := 40) (splits := 40) | lia), (by clear ih; exact g2)⟩
        · skip
          exact ⟨Tr36, (by clear ih; first | with_reducible assumption | grind | grind (ematch := 40) (gen := 40) (splits := 40) | lia), (by clear ih; first | with_reducible assumption | grind | grind (ematch := 40) (gen := 40) (splits := 40) | lia), (by clear ih; intro E eE; have z := Sum.inr.inj eE; subst z; exact gr36_2 _ ex37)⟩
      · skip
        refine qk_if (fun cc4 => ?_) (fun cc4 => ?_)
        · skip
          refine qk_bs ?_
          refine r_Ed_10 T kv0 ppg ?_
          refine r_Prog_0 T kpg ?_
          intro kx12 px12
          refine r_Row_o T kx12 ?_
          refine c_Row_at (v0 := (pg + 1)) (v1 := (v2 + 1)) T kx12 ?_
          intro yr14 gr14_0
          dsimp only
          refine qk_bs ?_
          refine qk_if (fun cc5 => ?_) (fun cc5 => ?_)
          · skip
            unfold f_Ed_draftReplacement_114
            refine qk_if (fun cc7 => ?_) (fun cc7 => ?_)
            · skip
              unfold f_Ed_draftReplacement_127
              refine r_Ed_o T kv0 ?_
              refine c_Ed_draftCharacter (v0 := v0) (v1 := 10) (dr := dr) T kv0 kdr pdr (by clear ih; first | with_reducible assumption | grind | grind (ematch := 40) (gen := 40) (splits := 40) | lia) (by clear ih; first | with_reducible assumption | grind | grind (ematch := 40) (gen := 40) (splits := 40) | lia) (by clear ih; first | with_reducible assumption | grind | grind (ematch := 40) (gen := 40) (splits := 40) | lia) (by clear ih; first | with_reducible assumption | grind | grind (ematch := 40) (gen := 40) (splits := 40) | lia) ?_
              intro yr2i8 hr2i8 Tr2i8 gr2i8_0 gr2i8_1 gr2i8_2
              try dsimp only
              refine qk_zx (fun x3i8 ex3i8 => ?_) (fun Ex3i8 ex3i8 => ?_)
              · skip
                refine qk_bs ?_
                refine qk_mono (ih (v0) (v1) (((v2 + 1) + 1)) hr2i8 Tr2i8 kv0 kv1 ksp psp kdr pdr kpg ppg (by clear ih; first | with_reducible assumption | grind | grind (ematch := 40) (gen := 40) (splits := 40) | lia) (by clear ih; first | with_reducible assumption | grind | grind (ematch := 40) (gen := 40) (splits := 40) | lia) (by clear ih; first | with_reducible assumption | grind | grind (ematch := 40) (gen := 40) (splits := 40) | lia) (by clear ih; first | with_reducible assumption | grind | grind (ematch := 40) (gen := 40) (splits := 40) | lia) (by clear ih; first | with_reducible assumption | grind | grind (ematch := 40) (gen := 40) (splits := 40) | lia) (by clear ih; first | with_reducible assumption | grind | grind (ematch := 40) (gen := 40) (splits := 40) | lia) (by clear ih; first | with_reducible assumption | grind | grind (ematch := 40) (gen := 40) (splits := 40) | lia) (by clear ih; first | with_reducible assumption | grind | grind (ematch := 40) (gen := 40) (splits := 40) | lia)) ?_
                rintro ⟨y, hz⟩ ⟨Tz, g0, g1, g2⟩
                try dsimp only at *
                exact ⟨Tz, (by clear ih; first | with_reducible assumption | grind | grind (ematch := 40) (gen := 40) (splits := 40) | lia), (by clear ih; first | with_reducible assumption | grind | grind (ematch := 40) (gen := 40) (splits := 40) | lia), (by clear ih; exact g2)⟩
              · skip
                exact ⟨Tr2i8, (by clear ih; first | with_reducible assumption | grind | grind (ematch := 40) (gen := 40) (splits := 40) | lia), (by clear ih; first | with_reducible assumption | grind | grind (ematch := 40) (gen := 40) (splits := 40) | lia), (by clear ih; intro E eE; have z := Sum.inr.inj eE; subst z; exact gr2i8_2 _ ex3i8)⟩
            · skip
              unfold f_Ed_draftReplacement_127
              refine r_Ed_o T kv0 ?_
              refine c_Ed_draftCharacter (v0 := v0) (v1 := (yr14)) (dr := dr) T kv0 kdr pdr (by clear ih; first | with_reducible assumption | grind | grind (ematch := 40) (gen := 40) (splits := 40) | lia) (by clear ih; first | with_reducible assumption | grind | grind (ematch := 40) (gen := 40) (splits := 40) | lia) (by clear ih; first | with_reducible assumption | grind | grind (ematch := 40) (gen := 40) (splits := 40) | lia) (by clear ih; first | with_reducible assumption | grind | grind (ematch := 40) (gen := 40) (splits := 40) | lia) ?_
              intro yr2i10 hr2i10 Tr2i10 gr2i10_0 gr2i10_1 gr2i10_2
              try dsimp only
              refine qk_zx (fun x3i10 ex3i10 => ?_) (fun Ex3i10 ex3i10 => ?_)
              · skip
                refine qk_bs ?_
                refine qk_mono (ih (v0) (v1) (((v2 + 1) + 1)) hr2i10 Tr2i10 kv0 kv1 ksp psp kdr pdr kpg ppg (by clear ih; first | with_reducible assumption | grind | grind (ematch := 40) (gen := 40) (splits := 40) | lia) (by clear ih; first | with_reducible assumption | grind | grind (ematch := 40) (gen := 40) (splits := 40) | lia) (by clear ih; first | with_reducible assumption | grind | grind (ematch := 40) (gen := 40) (splits := 40) | lia) (by clear ih; first | with_reducible assumption | grind | grind (ematch := 40) (gen := 40) (splits := 40) | lia) (by clear ih; first | with_reducible assumption | grind | grind (ematch := 40) (gen := 40) (splits := 40) | lia) (by clear ih; first | with_reducible assumption | grind | grind (ematch := 40) (gen := 40) (splits := 40) | lia) (by clear ih; first | with_reducible assumption | grind | grind (ematch := 40) (gen := 40) (splits := 40) | lia) (by clear ih; first | with_reducible assumption | grind | grind (ematch := 40) (gen := 40) (splits := 40) | lia)) ?_
                rintro ⟨y, hz⟩ ⟨Tz, g0, g1, g2⟩
                try dsimp only at *
                exact ⟨Tz, (by clear ih; first | with_reducible assumption | grind | grind (ematch := 40) (gen := 40) (splits := 40) | lia), (by clear ih; first | with_reducible assumption | grind | grind (ematch := 40) (gen := 40) (splits := 40) | lia), (by clear ih; exact g2)⟩
              · skip
                exact ⟨Tr2i10, (by clear ih; first | with_reducible assumption | grind | grind (ematch := 40) (gen := 40) (splits := 40) | lia), (by clear ih; first | with_reducible assumption | grind | grind (ematch := 40) (gen := 40) (splits := 40) | lia), (by clear ih; intro E eE; have z := Sum.inr.inj eE; subst z; exact gr2i10_2 _ ex3i10)⟩
          · skip
            refine qk_if (fun cc12 => ?_) (fun cc12 => ?_)
            · skip
              unfold f_Ed_draftReplacement_114
              refine qk_if (fun cc14 => ?_) (fun cc14 => ?_)
              · skip
                unfold f_Ed_draftReplacement_127
                refine r_Ed_o T kv0 ?_
                refine c_Ed_draftCharacter (v0 := v0) (v1 := 10) (dr := dr) T kv0 kdr pdr (by clear ih; first | with_reducible assumption | grind | grind (ematch := 40) (gen := 40) (splits := 40) | lia) (by clear ih; first | with_reducible assumption | grind | grind (ematch := 40) (gen := 40) (splits := 40) | lia) (by clear ih; first | with_reducible assumption | grind | grind (ematch := 40) (gen := 40) (splits := 40) | lia) (by clear ih; first | with_reducible assumption | grind | grind (ematch := 40) (gen := 40) (splits := 40) | lia) ?_
                intro yr2i15 hr2i15 Tr2i15 gr2i15_0 gr2i15_1 gr2i15_2
                try dsimp only
                refine qk_zx (fun x3i15 ex3i15 => ?_) (fun Ex3i15 ex3i15 => ?_)
                · skip
                  refine qk_bs ?_
                  refine qk_mono (ih (v0) (v1) (((v2 + 1) + 1)) hr2i15 Tr2i15 kv0 kv1 ksp psp kdr pdr kpg ppg (by clear ih; first | with_reducible assumption | grind | grind (ematch := 40) (gen := 40) (splits := 40) | lia) (by clear ih; first | with_reducible assumption | grind | grind (ematch := 40) (gen := 40) (splits := 40) | lia) (by clear ih; first | with_reducible assumption | grind | grind (ematch := 40) (gen := 40) (splits := 40) | lia) (by clear ih; first | with_reducible assumption | grind | grind (ematch := 40) (gen := 40) (splits := 40) | lia) (by clear ih; first | with_reducible assumption | grind | grind (ematch := 40) (gen := 40) (splits := 40) | lia) (by clear ih; first | with_reducible assumption | grind | grind (ematch := 40) (gen := 40) (splits := 40) | lia) (by clear ih; first | with_reducible assumption | grind | grind (ematch := 40) (gen := 40) (splits := 40) | lia) (by clear ih; first | with_reducible assumption | grind | grind (ematch := 40) (gen := 40) (splits := 40) | lia)) ?_
                  rintro ⟨y, hz⟩ ⟨Tz, g0, g1, g2⟩
                  try dsimp only at *
                  exact ⟨Tz, (by clear ih; first | with_reducible assumption | grind | grind (ematch := 40) (gen := 40) (splits := 40) | lia), (by clear ih; first | with_reducible assumption | grind | grind (ematch := 40) (gen := 40) (splits := 40) | lia), (by clear ih; exact g2)⟩
                · skip
                  exact ⟨Tr2i15, (by clear ih; first | with_reducible assumption | grind | grind (ematch := 40) (gen := 40) (splits := 40) | lia), (by clear ih; first | with_reducible assumption | grind | grind (ematch := 40) (gen := 40) (splits := 40) | lia), (by clear ih; intro E eE; have z := Sum.inr.inj eE; subst z; exact gr2i15_2 _ ex3i15)⟩
              · skip
                unfold f_Ed_draftReplacement_127
                refine r_Ed_o T kv0 ?_
                refine c_Ed_draftCharacter (v0 := v0) (v1 := (yr14)) (dr := dr) T kv0 kdr pdr (by clear ih; first | with_reducible assumption | grind | grind (ematch := 40) (gen := 40) (splits := 40) | lia) (by clear ih; first | with_reducible assumption | grind | grind (ematch := 40) (gen := 40) (splits := 40) | lia) (by clear ih; first | with_reducible assumption | grind | grind (ematch := 40) (gen := 40) (splits := 40) | lia) (by clear ih; first | with_reducible assumption | grind | grind (ematch := 40) (gen := 40) (splits := 40) | lia) ?_
                intro yr2i17 hr2i17 Tr2i17 gr2i17_0 gr2i17_1 gr2i17_2
                try dsimp only
                refine qk_zx (fun x3i17 ex3i17 => ?_) (fun Ex3i17 ex3i17 => ?_)
                · skip
                  refine qk_bs ?_
                  refine qk_mono (ih (v0) (v1) (((v2 + 1) + 1)) hr2i17 Tr2i17 kv0 kv1 ksp psp kdr pdr kpg ppg (by clear ih; first | with_reducible assumption | grind | grind (ematch := 40) (gen := 40) (splits := 40) | lia) (by clear ih; first | with_reducible assumption | grind | grind (ematch := 40) (gen := 40) (splits := 40) | lia) (by clear ih; first | with_reducible assumption | grind | grind (ematch := 40) (gen := 40) (splits := 40) | lia) (by clear ih; first | with_reducible assumption | grind | grind (ematch := 40) (gen := 40) (splits := 40) | lia) (by clear ih; first | with_reducible assumption | grind | grind (ematch := 40) (gen := 40) (splits := 40) | lia) (by clear ih; first | with_reducible assumption | grind | grind (ematch := 40) (gen := 40) (splits := 40) | lia) (by clear ih; first | with_reducible assumption | grind | grind (ematch := 40) (gen := 40) (splits := 40) | lia) (by clear ih; first | with_reducible assumption | grind | grind (ematch := 40) (gen := 40) (splits := 40) | lia)) ?_
                  rintro ⟨y, hz⟩ ⟨Tz, g0, g1, g2⟩
                  try dsimp only at *
                  exact ⟨Tz, (by clear ih; first | with_reducible assumption | grind | grind (ematch := 40) (gen := 40) (splits := 40) | lia), (by clear ih; first | with_reducible assumption | grind | grind (ematch := 40) (gen := 40) (splits := 40) | lia), (by clear ih; exact g2)⟩
                · skip
                  exact ⟨Tr2i17, (by clear ih; first | with_reducible assumption | grind | grind (ematch := 40) (gen := 40) (splits := 40) | lia), (by clear ih; first | with_reducible assumption | grind | grind (ematch := 40) (gen := 40) (splits := 40) | lia), (by clear ih; intro E eE; have z := Sum.inr.inj eE; subst z; exact gr2i17_2 _ ex3i17)⟩
            · skip
              refine r_Ed_8 T kv0 ?_
              intro kx18
              refine r_Ma_o T kx18 ?_
              refine c_Ma_beginOf (v0 := (v0 + 9)) (v1 := ((yr14) - 48)) T kx18 (by clear ih; first | with_reducible assumption | grind | grind (ematch := 40) (gen := 40) (splits := 40) | lia) (by clear ih; first | with_reducible assumption | grind | grind (ematch := 40) (gen := 40) (splits := 40) | lia) ?_
              intro yr20 gr20_0
              dsimp only
              refine r_Ed_8 T kv0 ?_
              intro kx21
              refine r_Ma_o T kx21 ?_
              refine c_Ma_endOf (v0 := (v0 + 9)) (v1 := ((yr14) - 48)) T kx21 (by clear ih; first | with_reducible assumption | grind | grind (ematch := 40) (gen := 40) (splits := 40) | lia) (by clear ih; first | with_reducible assumption | grind | grind (ematch := 40) (gen := 40) (splits := 40) | lia) ?_
              intro yr23 gr23_0
              dsimp only
              refine r_Ed_o T kv0 ?_
              refine c_Ed_draftPart (v0 := v0) (v1 := (yr20)) (v2 := (yr23)) (sp := sp) (dr := dr) T kv0 ksp psp kdr pdr (by clear ih; first | with_reducible assumption | grind | grind (ematch := 40) (gen := 40) (splits := 40) | lia) (by clear ih; first | with_reducible assumption | grind | grind (ematch := 40) (gen := 40) (splits := 40) | lia) (by clear ih; first | with_reducible assumption | grind | grind (ematch := 40) (gen := 40) (splits := 40) | lia) (by clear ih; first | with_reducible assumption | grind | grind (ematch := 40) (gen := 40) (splits := 40) | lia) (by clear ih; first | with_reducible assumption | grind | grind (ematch := 40) (gen := 40) (splits := 40) | lia) (by clear ih; first | with_reducible assumption | grind | grind (ematch := 40) (gen := 40) (splits := 40) | lia) (by clear ih; first | with_reducible assumption | grind | grind (ematch := 40) (gen := 40) (splits := 40) | lia) ?_
              intro yr25 hr25 Tr25 gr25_0 gr25_1 gr25_2
              try dsimp only
              refine qk_zx (fun x26 ex26 => ?_) (fun Ex26 ex26 => ?_)
              · skip
                refine qk_bs ?_
                refine qk_mono (ih (v0) (v1) (((v2 + 1) + 1)) hr25 Tr25 kv0 kv1 ksp psp kdr pdr kpg ppg (by clear ih; first | with_reducible assumption | grind | grind (ematch := 40) (gen := 40) (splits := 40) | lia) (by clear ih; first | with_reducible assumption | grind | grind (ematch := 40) (gen := 40) (splits := 40) | lia) (by clear ih; first | with_reducible assumption | grind | grind (ematch := 40) (gen := 40) (splits := 40) | lia) (by clear ih; first | with_reducible assumption | grind | grind (ematch := 40) (gen := 40) (splits := 40) | lia) (by clear ih; first | with_reducible assumption | grind | grind (ematch := 40) (gen := 40) (splits := 40) | lia) (by clear ih; first | with_reducible assumption | grind | grind (ematch := 40) (gen := 40) (splits := 40) | lia) (by clear ih; first | with_reducible assumption | grind | grind (ematch := 40) (gen := 40) (splits := 40) | lia) (by clear ih; first | with_reducible assumption | grind | grind (ematch := 40) (gen := 40) (splits := 40) | lia)) ?_
                rintro ⟨y, hz⟩ ⟨Tz, g0, g1, g2⟩
                try dsimp only at *
                exact ⟨Tz, (by clear ih; first | with_reducible assumption | grind | grind (ematch := 40) (gen := 40) (splits := 40) | lia), (by clear ih; first | with_reducible assumption | grind | grind (ematch := 40) (gen := 40) (splits := 40) | lia), (by clear ih; exact g2)⟩
              · skip
                exact ⟨Tr25, (by clear ih; first | with_reducible assumption | grind | grind (ematch := 40) (gen := 40) (splits := 40) | lia), (by clear ih; first | with_reducible assumption | grind | grind (ematch := 40) (gen := 40) (splits := 40) | lia), (by clear ih; intro E eE; have z := Sum.inr.inj eE; subst z; exact gr25_2 _ ex26)⟩
        · skip
          unfold f_Ed_draftReplacement_127
          refine r_Ed_o T kv0 ?_
          refine c_Ed_draftCharacter (v0 := v0) (v1 := (yr6)) (dr := dr) T kv0 kdr pdr (by clear ih; first | with_reducible assumption | grind | grind (ematch := 40) (gen := 40) (splits := 40) | lia) (by clear ih; first | with_reducible assumption | grind | grind (ematch := 40) (gen := 40) (splits := 40) | lia) (by clear ih; first | with_reducible assumption | grind | grind (ematch := 40) (gen := 40) (splits := 40) | lia) (by clear ih; first | with_reducible assumption | grind | grind (ematch := 40) (gen := 40) (splits := 40) | lia) ?_
          intro yr2i20 hr2i20 Tr2i20 gr2i20_0 gr2i20_1 gr2i20_2
          try dsimp only
          refine qk_zx (fun x3i20 ex3i20 => ?_) (fun Ex3i20 ex3i20 => ?_)
          · skip
            refine qk_bs ?_
            refine qk_mono (ih (v0) (v1) ((v2 + 1)) hr2i20 Tr2i20 kv0 kv1 ksp psp kdr pdr kpg ppg (by clear ih; first | with_reducible assumption | grind | grind (ematch := 40) (gen := 40) (splits := 40) | lia) (by clear ih; first | with_reducible assumption | grind | grind (ematch := 40) (gen := 40) (splits := 40) | lia) (by clear ih; first | with_reducible assumption | grind | grind (ematch := 40) (gen := 40) (splits := 40) | lia) (by clear ih; first | with_reducible assumption | grind | grind (ematch := 40) (gen := 40) (splits := 40) | lia) (by clear ih; first | with_reducible assumption | grind | grind (ematch := 40) (gen := 40) (splits := 40) | lia) (by clear ih; first | with_reducible assumption | grind | grind (ematch := 40) (gen := 40) (splits := 40) | lia) (by clear ih; first | with_reducible assumption | grind | grind (ematch := 40) (gen := 40) (splits := 40) | lia) (by clear ih; first | with_reducible assumption | grind | grind (ematch := 40) (gen := 40) (splits := 40) | lia)) ?_
            rintro ⟨y, hz⟩ ⟨Tz, g0, g1, g2⟩
            try dsimp only at *
            exact ⟨Tz, (by clear ih; first | with_reducible assumption | grind | grind (ematch := 40) (gen := 40) (splits := 40) | lia), (by clear ih; first | with_reducible assumption | grind | grind (ematch := 40) (gen := 40) (splits := 40) | lia), (by clear ih; exact g2)⟩
          · skip
            exact ⟨Tr2i20, (by clear ih; first | with_reducible assumption | grind | grind (ematch := 40) (gen := 40) (splits := 40) | lia), (by clear ih; first | with_reducible assumption | grind | grind (ematch := 40) (gen := 40) (splits := 40) | lia), (by clear ih; intro E eE; have z := Sum.inr.inj eE; subst z; exact gr2i20_2 _ ex3i20)⟩
theorem p_Ed_draftReplacement_5 {L : q_L} {W : Nat → Prop} {h0 : z_H} {π : Nat → Nat → Option Nat} {N : Nat} {sp : Nat} {dr : Nat} {pg : Nat} {h : z_H} {v0 : Nat} {v1 : Nat} {v2 : Int32} (T : q_U L W h0 π h) (kv0 : qκ L v0 = 4) (kv1 : qκ L v1 = 2) (ksp : qκ L sp = 11) (psp : π v0 1 = some sp) (kdr : qκ L dr = 11) (pdr : π v0 9 = some dr) (kpg : qκ L pg = 10) (ppg : π v0 10 = some pg) (wE : ∀ a, v0 ≤ a → a < v0 + 16 → W a) (bdr1 : v0 + 3 ≤ dr) (bdr2 : dr + 2 ≤ v0 + 16) (bdr3 : dr ≠ v0 + 7) (b0 : 0 ≤ v2) (b1 : v2 ≤ 245) (hN : 100000 ≤ N) : qk (f_Ed_draftReplacement_5 N  N v0 v1 v2 h) (fun r => q_U L W h0 π r.2 ∧ (∀ a k, ¬ (a = dr ∧ k = 1) → vI r.2 a k = vI h a k) ∧ (∀ a j, 0 ≤ j → a ≠ dr + 1 → vA r.2 a j = vA h a j) ∧ (∀ E, r.1 = .inr E → E = xE3 ∨ E = xE4)) := by
  have hq := q_qnN hN
  have hr_sp := q_rowhi T ksp
  have hr_dr := q_rowhi T kdr
  refine p_Ed_draftReplacement_5_n (q_lo (M := 246) (by decide) (by decide)) N v0 v1 v2 h T kv0 kv1 ksp psp kdr pdr kpg ppg wE bdr1 bdr2 bdr3 b0 b1 hN ?_ 
  show 246 - q_n N ≤ _
  rw [hq]
  lia

set_option maxHeartbeats 1000000 in
theorem p_Ed_draftReplacement {L : q_L} {W : Nat → Prop} {h0 : z_H} {π : Nat → Nat → Option Nat} {N : Nat} {sp : Nat} {dr : Nat} {pg : Nat} {h : z_H} {v0 : Nat} {v1 : Nat} (T : q_U L W h0 π h) (kv0 : qκ L v0 = 4) (kv1 : qκ L v1 = 2) (ksp : qκ L sp = 11) (psp : π v0 1 = some sp) (kdr : qκ L dr = 11) (pdr : π v0 9 = some dr) (kpg : qκ L pg = 10) (ppg : π v0 10 = some pg) (wE : ∀ a, v0 ≤ a → a < v0 + 16 → W a) (bdr1 : v0 + 3 ≤ dr) (bdr2 : dr + 2 ≤ v0 + 16) (bdr3 : dr ≠ v0 + 7) (hN : 100000 ≤ N) : qk (f_Ed_draftReplacement N v0 v1 h) (fun r => q_U L W h0 π r.2 ∧ (∀ a k, ¬ (a = dr ∧ k = 1) → vI r.2 a k = vI h a k) ∧ (∀ a j, 0 ≤ j → a ≠ dr + 1 → vA r.2 a j = vA h a j) ∧ (∀ E, r.1 = .inr E → E = xE3 ∨ E = xE4)) := by
  have hr_sp := q_rowhi T ksp
  have hr_dr := q_rowhi T kdr
  have ced := q_CEd T kv0
  unfold q_C_Ed at ced
  unfold f_Ed_draftReplacement
  refine r_Cmd_9 T kv1 ?_
  intro x1 ex1 lx1 ux1
  subst ex1
  refine qk_mono (p_Ed_draftReplacement_5 (v0 := v0) (v1 := v1) (v2 := (vI h v1 9)) (sp := sp) (dr := dr) (pg := pg) T kv0 kv1 ksp psp kdr pdr kpg ppg (by first | with_reducible assumption | grind | grind (ematch := 40) (gen := 40) (splits := 40) | lia) (by first | with_reducible assumption | grind | grind (ematch := 40) (gen := 40) (splits := 40) | lia) (by first | with_reducible assumption | grind | grind (ematch := 40) (gen := 40) (splits := 40) | lia) (by first | with_reducible assumption | grind | grind (ematch := 40) (gen := 40) (splits := 40) | lia) (by first | with_reducible assumption | grind | grind (ematch := 40) (gen := 40) (splits := 40) | lia) (by first | with_reducible assumption | grind | grind (ematch := 40) (gen := 40) (splits := 40) | lia) (by first | with_reducible assumption | grind | grind (ematch := 40) (gen := 40) (splits := 40) | lia)) ?_
  rintro ⟨y, hz⟩ ⟨Tz, g0, g1, g2⟩
  try dsimp only at *
  exact ⟨Tz, (by first | with_reducible assumption | grind | grind (ematch := 40) (gen := 40) (splits := 40) | lia), (by first | with_reducible assumption | grind | grind (ematch := 40) (gen := 40) (splits := 40) | lia), (by exact g2)⟩
theorem c_Ed_draftReplacement {L : q_L} {W : Nat → Prop} {h0 : z_H} {π : Nat → Nat → Option Nat} {N : Nat} {sp : Nat} {dr : Nat} {pg : Nat} {h : z_H} {v0 : Nat} {v1 : Nat} {β : Type} {f : (Unit ⊕ String) × z_H → Option β} {Q : β → Prop} (T : q_U L W h0 π h) (kv0 : qκ L v0 = 4) (kv1 : qκ L v1 = 2) (ksp : qκ L sp = 11) (psp : π v0 1 = some sp) (kdr : qκ L dr = 11) (pdr : π v0 9 = some dr) (kpg : qκ L pg = 10) (ppg : π v0 10 = some pg) (wE : ∀ a, v0 ≤ a → a < v0 + 16 → W a) (bdr1 : v0 + 3 ≤ dr) (bdr2 : dr + 2 ≤ v0 + 16) (bdr3 : dr ≠ v0 + 7) (hN : 100000 ≤ N) (H : ∀ y h', q_U L W h0 π h' → (∀ a k, ¬ (a = dr ∧ k = 1) → vI h' a k = vI h a k) → (∀ a j, 0 ≤ j → a ≠ dr + 1 → vA h' a j = vA h a j) → (∀ E, y = .inr E → E = xE3 ∨ E = xE4) → qk (f (y, h')) Q) : qk (z_b (f_Ed_draftReplacement N v0 v1 h) f) Q := by
  refine qk_b (p_Ed_draftReplacement T kv0 kv1 ksp psp kdr pdr kpg ppg wE bdr1 bdr2 bdr3 hN) ?_
  rintro ⟨y, hz⟩ ⟨Tz, g0, g1, g2⟩
  exact H y hz Tz g0 g1 g2

set_option maxHeartbeats 2000000 in
theorem p_Ed_takeDraft {L : q_L} {W : Nat → Prop} {h0 : z_H} {π : Nat → Nat → Option Nat} {N : Nat} {sp : Nat} {ho : Nat} {dr : Nat} {h : z_H} {v0 : Nat} {v1 : Nat} {v2 : Int32} (T : q_U L W h0 π h) (kv0 : qκ L v0 = 4) (kv1 : qκ L v1 = 2) (ksp : qκ L sp = 11) (psp : π v0 1 = some sp) (kho : qκ L ho = 11) (pho : π v0 2 = some ho) (kdr : qκ L dr = 11) (pdr : π v0 9 = some dr) (wE : ∀ a, v0 ≤ a → a < v0 + 16 → W a) (bsp1 : v0 + 3 ≤ sp) (bsp2 : sp + 2 ≤ v0 + 16) (bsp3 : sp ≠ v0 + 7) (bho1 : v0 + 3 ≤ ho) (bho2 : ho + 2 ≤ v0 + 16) (bho3 : ho ≠ v0 + 7) (bdr1 : v0 + 3 ≤ dr) (bdr2 : dr + 2 ≤ v0 + 16) (bdr3 : dr ≠ v0 + 7) (hN : 100000 ≤ N) : qk (f_Ed_takeDraft N v0 v1 v2 h) (fun r => ∃ π1 s1 t1 d1, q_U L W h0 π1 r.2 ∧ (∀ a k, ¬ (a = v0 ∧ (k = 1 ∨ k = 2 ∨ k = 9)) → ¬ (a = v0 + 9 ∧ (k = 2 ∨ k = 3 ∨ k = 4)) → π1 a k = π a k) ∧ q_R L π1 v0 s1 t1 d1 ∧ (∀ a k, ¬ (v0 ≤ a ∧ a < v0 + 16) → vI r.2 a k = vI h a k) ∧ (∀ a j, 0 ≤ j → ¬ (v0 ≤ a ∧ a < v0 + 16) → vA r.2 a j = vA h a j) ∧ (vI r.2 v0 3 = vI h v0 3) ∧ (vI r.2 v0 12 = vI h v0 12) ∧ (∀ E, r.1 = .inr E → E = xE3 ∨ E = xE4)) := by
  have hr_sp := q_rowhi T ksp
  have hr_ho := q_rowhi T kho
  have hr_dr := q_rowhi T kdr
  have ced := q_CEd T kv0
  unfold q_C_Ed at ced
  unfold f_Ed_takeDraft
  refine r_Cmd_13 T kv1 ?_
  intro x1 ex1
  subst ex1
  refine qk_if (fun cc1 => ?_) (fun cc1 => ?_)
  · skip
    unfold f_Ed_takeDraft_34
    refine r_Ed_1 T kv0 psp ?_
    refine r_Ed_9 T kv0 pdr ?_
    refine w_Ed_1 (q := dr) T kv0 (by first | with_reducible assumption | grind | grind (ematch := 40) (gen := 40) (splits := 40) | lia) ?_
    intro πh3i2 h3i2 Th3i2 ph3i2 ih3i2 ah3i2
    have pho_h3i2 : πh3i2 v0 2 = some ho := by rw [ph3i2, if_neg (by grind)]; exact pho
    have pdr_h3i2 : πh3i2 v0 9 = some dr := by rw [ph3i2, if_neg (by grind)]; exact pdr
    have q3_h3i2 : πh3i2 v0 1 = some dr := by rw [ph3i2, if_pos ⟨rfl, rfl⟩]
    refine w_Ed_9 (q := sp) Th3i2 kv0 (by first | with_reducible assumption | grind | grind (ematch := 40) (gen := 40) (splits := 40) | lia) ?_
    intro πh4i2 h4i2 Th4i2 ph4i2 ih4i2 ah4i2
    have pho_h4i2 : πh4i2 v0 2 = some ho := by rw [ph4i2, if_neg (by grind)]; exact pho_h3i2
    have q3_h4i2 : πh4i2 v0 1 = some dr := by rw [ph4i2, if_neg (by grind)]; exact q3_h3i2
    have q4_h4i2 : πh4i2 v0 9 = some sp := by rw [ph4i2, if_pos ⟨rfl, rfl⟩]
    refine r_Ed_6 Th4i2 kv0 ?_
    intro x5i2 ex5i2
    subst ex5i2
    refine w_Ed_6 Th4i2 kv0 (by first | with_reducible assumption | grind | grind (ematch := 40) (gen := 40) (splits := 40) | lia) ?_
    intro h6i2 Th6i2 ih6i2 ah6i2
    refine w_Ed_15 Th6i2 kv0 (by first | with_reducible assumption | grind | grind (ematch := 40) (gen := 40) (splits := 40) | lia) ?_
    intro h7i2 Th7i2 ih7i2 ah7i2
    refine r_Cmd_13 Th7i2 kv1 ?_
    intro x8i2 ex8i2
    subst ex8i2
    refine qk_if (fun cc5 => ?_) (fun cc5 => ?_)
    · skip
      refine qk_some ?_
      exact ⟨_, dr, ho, sp, Th7i2, (by first | with_reducible assumption | grind | grind (ematch := 40) (gen := 40) (splits := 40) | lia), ⟨q3_h4i2, pho_h4i2, q4_h4i2, kdr, kho, ksp, (by first | with_reducible assumption | grind | grind (ematch := 40) (gen := 40) (splits := 40) | lia), (by first | with_reducible assumption | grind | grind (ematch := 40) (gen := 40) (splits := 40) | lia), (by first | with_reducible assumption | grind | grind (ematch := 40) (gen := 40) (splits := 40) | lia), (by first | with_reducible assumption | grind | grind (ematch := 40) (gen := 40) (splits := 40) | lia), (by first | with_reducible assumption | grind | grind (ematch := 40) (gen := 40) (splits := 40) | lia), (by first | with_reducible assumption | grind | grind (ematch := 40) (gen := 40) (splits := 40) | lia), (by first | with_reducible assumption | grind | grind (ematch := 40) (gen := 40) (splits := 40) | lia), (by first | with_reducible assumption | grind | grind (ematch := 40) (gen := 40) (splits := 40) | lia), (by first | with_reducible assumption | grind | grind (ematch := 40) (gen := 40) (splits := 40) | lia)⟩, (by first | with_reducible assumption | grind | grind (ematch := 40) (gen := 40) (splits := 40) | lia), (by first | with_reducible assumption | grind | grind (ematch := 40) (gen := 40) (splits := 40) | lia), (by first | with_reducible assumption | grind | grind (ematch := 40) (gen := 40) (splits := 40) | lia), (by first | with_reducible assumption | grind | grind (ematch := 40) (gen := 40) (splits := 40) | lia), (by intro E eE; exact absurd eE (by simp))⟩
    · skip
      refine r_Ed_1 Th7i2 kv0 q3_h4i2 ?_
      refine r_Ed_1 Th7i2 kv0 q3_h4i2 ?_
      refine r_Row_1 Th7i2 kdr ?_
      intro x12i2 ex12i2 lx12i2 ux12i2 mx12i2
      subst ex12i2
      refine r_Ed_o Th7i2 kv0 ?_
      refine c_Ed_tell (v0 := v0) (v1 := dr) (v2 := 0) (v3 := (vI h7i2 dr 1)) Th7i2 kv0 kdr (by first | with_reducible assumption | grind | grind (ematch := 40) (gen := 40) (splits := 40) | lia) (by first | with_reducible assumption | grind | grind (ematch := 40) (gen := 40) (splits := 40) | lia) (by first | with_reducible assumption | grind | grind (ematch := 40) (gen := 40) (splits := 40) | lia) (by first | with_reducible assumption | grind | grind (ematch := 40) (gen := 40) (splits := 40) | lia) ?_
      intro yr14i2 hr14i2 Tr14i2 gr14i2_0 gr14i2_1 gr14i2_2
      try dsimp only
      refine qk_zx (fun x15i2 ex15i2 => ?_) (fun Ex15i2 ex15i2 => ?_)
      · skip
        refine qk_some ?_
        exact ⟨_, dr, ho, sp, Tr14i2, (by first | with_reducible assumption | grind | grind (ematch := 40) (gen := 40) (splits := 40) | lia), ⟨q3_h4i2, pho_h4i2, q4_h4i2, kdr, kho, ksp, (by first | with_reducible assumption | grind | grind (ematch := 40) (gen := 40) (splits := 40) | lia), (by first | with_reducible assumption | grind | grind (ematch := 40) (gen := 40) (splits := 40) | lia), (by first | with_reducible assumption | grind | grind (ematch := 40) (gen := 40) (splits := 40) | lia), (by first | with_reducible assumption | grind | grind (ematch := 40) (gen := 40) (splits := 40) | lia), (by first | with_reducible assumption | grind | grind (ematch := 40) (gen := 40) (splits := 40) | lia), (by first | with_reducible assumption | grind | grind (ematch := 40) (gen := 40) (splits := 40) | lia), (by first | with_reducible assumption | grind | grind (ematch := 40) (gen := 40) (splits := 40) | lia), (by first | with_reducible assumption | grind | grind (ematch := 40) (gen := 40) (splits := 40) | lia), (by first | with_reducible assumption | grind | grind (ematch := 40) (gen := 40) (splits := 40) | lia)⟩, (by first | with_reducible assumption | grind | grind (ematch := 40) (gen := 40) (splits := 40) | lia), (by first | with_reducible assumption | grind | grind (ematch := 40) (gen := 40) (splits := 40) | lia), (by first | with_reducible assumption | grind | grind (ematch := 40) (gen := 40) (splits := 40) | lia), (by first | with_reducible assumption | grind | grind (ematch := 40) (gen := 40) (splits := 40) | lia), (by intro E eE; exact absurd eE (by simp))⟩
      · skip
        exact ⟨_, dr, ho, sp, Tr14i2, (by first | with_reducible assumption | grind | grind (ematch := 40) (gen := 40) (splits := 40) | lia), ⟨q3_h4i2, pho_h4i2, q4_h4i2, kdr, kho, ksp, (by first | with_reducible assumption | grind | grind (ematch := 40) (gen := 40) (splits := 40) | lia), (by first | with_reducible assumption | grind | grind (ematch := 40) (gen := 40) (splits := 40) | lia), (by first | with_reducible assumption | grind | grind (ematch := 40) (gen := 40) (splits := 40) | lia), (by first | with_reducible assumption | grind | grind (ematch := 40) (gen := 40) (splits := 40) | lia), (by first | with_reducible assumption | grind | grind (ematch := 40) (gen := 40) (splits := 40) | lia), (by first | with_reducible assumption | grind | grind (ematch := 40) (gen := 40) (splits := 40) | lia), (by first | with_reducible assumption | grind | grind (ematch := 40) (gen := 40) (splits := 40) | lia), (by first | with_reducible assumption | grind | grind (ematch := 40) (gen := 40) (splits := 40) | lia), (by first | with_reducible assumption | grind | grind (ematch := 40) (gen := 40) (splits := 40) | lia)⟩, (by first | with_reducible assumption | grind | grind (ematch := 40) (gen := 40) (splits := 40) | lia), (by first | with_reducible assumption | grind | grind (ematch := 40) (gen := 40) (splits := 40) | lia), (by first | with_reducible assumption | grind | grind (ematch := 40) (gen := 40) (splits := 40) | lia), (by first | with_reducible assumption | grind | grind (ematch := 40) (gen := 40) (splits := 40) | lia), (by intro E eE; have z := Sum.inr.inj eE; subst z; exact gr14i2_2 _ ex15i2)⟩
  · skip
    refine r_Ed_0 T kv0 ?_
    intro kx3 px3
    refine r_Ed_9 T kv0 pdr ?_
    refine r_Row_1 T kdr ?_
    intro x5 ex5 lx5 ux5 mx5
    subst ex5
    refine r_Row_o T kx3 ?_
    refine c_Row_hasRoom (v0 := (v0 + 1)) (v1 := ((vI h dr 1) + 1)) T kx3 ?_
    intro yr7 gr7_0 gr7_1
    dsimp only
    refine qk_if (fun cc6 => ?_) (fun cc6 => ?_)
    · skip
      refine qk_some ?_
      exact ⟨_, sp, ho, dr, T, (by first | with_reducible assumption | grind | grind (ematch := 40) (gen := 40) (splits := 40) | lia), ⟨psp, pho, pdr, ksp, kho, kdr, (by first | with_reducible assumption | grind | grind (ematch := 40) (gen := 40) (splits := 40) | lia), (by first | with_reducible assumption | grind | grind (ematch := 40) (gen := 40) (splits := 40) | lia), (by first | with_reducible assumption | grind | grind (ematch := 40) (gen := 40) (splits := 40) | lia), (by first | with_reducible assumption | grind | grind (ematch := 40) (gen := 40) (splits := 40) | lia), (by first | with_reducible assumption | grind | grind (ematch := 40) (gen := 40) (splits := 40) | lia), (by first | with_reducible assumption | grind | grind (ematch := 40) (gen := 40) (splits := 40) | lia), (by first | with_reducible assumption | grind | grind (ematch := 40) (gen := 40) (splits := 40) | lia), (by first | with_reducible assumption | grind | grind (ematch := 40) (gen := 40) (splits := 40) | lia), (by first | with_reducible assumption | grind | grind (ematch := 40) (gen := 40) (splits := 40) | lia)⟩, (by first | with_reducible assumption | grind | grind (ematch := 40) (gen := 40) (splits := 40) | lia), (by first | with_reducible assumption | grind | grind (ematch := 40) (gen := 40) (splits := 40) | lia), (by first | with_reducible assumption | grind | grind (ematch := 40) (gen := 40) (splits := 40) | lia), (by first | with_reducible assumption | grind | grind (ematch := 40) (gen := 40) (splits := 40) | lia), (by intro E eE; have z := Sum.inr.inj eE; subst z; exact Or.inl rfl)⟩
    · skip
      unfold f_Ed_takeDraft_34
      refine r_Ed_1 T kv0 psp ?_
      refine r_Ed_9 T kv0 pdr ?_
      refine w_Ed_1 (q := dr) T kv0 (by first | with_reducible assumption | grind | grind (ematch := 40) (gen := 40) (splits := 40) | lia) ?_
      intro πh3i7 h3i7 Th3i7 ph3i7 ih3i7 ah3i7
      have pho_h3i7 : πh3i7 v0 2 = some ho := by rw [ph3i7, if_neg (by grind)]; exact pho
      have pdr_h3i7 : πh3i7 v0 9 = some dr := by rw [ph3i7, if_neg (by grind)]; exact pdr
      have q8_h3i7 : πh3i7 v0 1 = some dr := by rw [ph3i7, if_pos ⟨rfl, rfl⟩]
      refine w_Ed_9 (q := sp) Th3i7 kv0 (by first | with_reducible assumption | grind | grind (ematch := 40) (gen := 40) (splits := 40) | lia) ?_
      intro πh4i7 h4i7 Th4i7 ph4i7 ih4i7 ah4i7
      have pho_h4i7 : πh4i7 v0 2 = some ho := by rw [ph4i7, if_neg (by grind)]; exact pho_h3i7
      have q8_h4i7 : πh4i7 v0 1 = some dr := by rw [ph4i7, if_neg (by grind)]; exact q8_h3i7
      have q9_h4i7 : πh4i7 v0 9 = some sp := by rw [ph4i7, if_pos ⟨rfl, rfl⟩]
      refine r_Ed_6 Th4i7 kv0 ?_
      intro x5i7 ex5i7
      subst ex5i7
      refine w_Ed_6 Th4i7 kv0 (by first | with_reducible assumption | grind | grind (ematch := 40) (gen := 40) (splits := 40) | lia) ?_
      intro h6i7 Th6i7 ih6i7 ah6i7
      refine w_Ed_15 Th6i7 kv0 (by first | with_reducible assumption | grind | grind (ematch := 40) (gen := 40) (splits := 40) | lia) ?_
      intro h7i7 Th7i7 ih7i7 ah7i7
      refine r_Cmd_13 Th7i7 kv1 ?_
      intro x8i7 ex8i7
      subst ex8i7
      refine qk_if (fun cc10 => ?_) (fun cc10 => ?_)
      · skip
        refine qk_some ?_
        exact ⟨_, dr, ho, sp, Th7i7, (by first | with_reducible assumption | grind | grind (ematch := 40) (gen := 40) (splits := 40) | lia), ⟨q8_h4i7, pho_h4i7, q9_h4i7, kdr, kho, ksp, (by first | with_reducible assumption | grind | grind (ematch := 40) (gen := 40) (splits := 40) | lia), (by first | with_reducible assumption | grind | grind (ematch := 40) (gen := 40) (splits := 40) | lia), (by first | with_reducible assumption | grind | grind (ematch := 40) (gen := 40) (splits := 40) | lia), (by first | with_reducible assumption | grind | grind (ematch := 40) (gen := 40) (splits := 40) | lia), (by first | with_reducible assumption | grind | grind (ematch := 40) (gen := 40) (splits := 40) | lia), (by first | with_reducible assumption | grind | grind (ematch := 40) (gen := 40) (splits := 40) | lia), (by first | with_reducible assumption | grind | grind (ematch := 40) (gen := 40) (splits := 40) | lia), (by first | with_reducible assumption | grind | grind (ematch := 40) (gen := 40) (splits := 40) | lia), (by first | with_reducible assumption | grind | grind (ematch := 40) (gen := 40) (splits := 40) | lia)⟩, (by first | with_reducible assumption | grind | grind (ematch := 40) (gen := 40) (splits := 40) | lia), (by first | with_reducible assumption | grind | grind (ematch := 40) (gen := 40) (splits := 40) | lia), (by first | with_reducible assumption | grind | grind (ematch := 40) (gen := 40) (splits := 40) | lia), (by first | with_reducible assumption | grind | grind (ematch := 40) (gen := 40) (splits := 40) | lia), (by intro E eE; exact absurd eE (by simp))⟩
      · skip
        refine r_Ed_1 Th7i7 kv0 q8_h4i7 ?_
        refine r_Ed_1 Th7i7 kv0 q8_h4i7 ?_
        refine r_Row_1 Th7i7 kdr ?_
        intro x12i7 ex12i7 lx12i7 ux12i7 mx12i7
        subst ex12i7
        refine r_Ed_o Th7i7 kv0 ?_
        refine c_Ed_tell (v0 := v0) (v1 := dr) (v2 := 0) (v3 := (vI h7i7 dr 1)) Th7i7 kv0 kdr (by first | with_reducible assumption | grind | grind (ematch := 40) (gen := 40) (splits := 40) | lia) (by first | with_reducible assumption | grind | grind (ematch := 40) (gen := 40) (splits := 40) | lia) (by first | with_reducible assumption | grind | grind (ematch := 40) (gen := 40) (splits := 40) | lia) (by first | with_reducible assumption | grind | grind (ematch := 40) (gen := 40) (splits := 40) | lia) ?_
        intro yr14i7 hr14i7 Tr14i7 gr14i7_0 gr14i7_1 gr14i7_2
        try dsimp only
        refine qk_zx (fun x15i7 ex15i7 => ?_) (fun Ex15i7 ex15i7 => ?_)
        · skip
          refine qk_some ?_
          exact ⟨_, dr, ho, sp, Tr14i7, (by first | with_reducible assumption | grind | grind (ematch := 40) (gen := 40) (splits := 40) | lia), ⟨q8_h4i7, pho_h4i7, q9_h4i7, kdr, kho, ksp, (by first | with_reducible assumption | grind | grind (ematch := 40) (gen := 40) (splits := 40) | lia), (by first | with_reducible assumption | grind | grind (ematch := 40) (gen := 40) (splits := 40) | lia), (by first | with_reducible assumption | grind | grind (ematch := 40) (gen := 40) (splits := 40) | lia), (by first | with_reducible assumption | grind | grind (ematch := 40) (gen := 40) (splits := 40) | lia), (by first | with_reducible assumption | grind | grind (ematch := 40) (gen := 40) (splits := 40) | lia), (by first | with_reducible assumption | grind | grind (ematch := 40) (gen := 40) (splits := 40) | lia), (by first | with_reducible assumption | grind | grind (ematch := 40) (gen := 40) (splits := 40) | lia), (by first | with_reducible assumption | grind | grind (ematch := 40) (gen := 40) (splits := 40) | lia), (by first | with_reducible assumption | grind | grind (ematch := 40) (gen := 40) (splits := 40) | lia)⟩, (by first | with_reducible assumption | grind | grind (ematch := 40) (gen := 40) (splits := 40) | lia), (by first | with_reducible assumption | grind | grind (ematch := 40) (gen := 40) (splits := 40) | lia), (by first | with_reducible assumption | grind | grind (ematch := 40) (gen := 40) (splits := 40) | lia), (by first | with_reducible assumption | grind | grind (ematch := 40) (gen := 40) (splits := 40) | lia), (by intro E eE; exact absurd eE (by simp))⟩
        · skip
          exact ⟨_, dr, ho, sp, Tr14i7, (by first | with_reducible assumption | grind | grind (ematch := 40) (gen := 40) (splits := 40) | lia), ⟨q8_h4i7, pho_h4i7, q9_h4i7, kdr, kho, ksp, (by first | with_reducible assumption | grind | grind (ematch := 40) (gen := 40) (splits := 40) | lia), (by first | with_reducible assumption | grind | grind (ematch := 40) (gen := 40) (splits := 40) | lia), (by first | with_reducible assumption | grind | grind (ematch := 40) (gen := 40) (splits := 40) | lia), (by first | with_reducible assumption | grind | grind (ematch := 40) (gen := 40) (splits := 40) | lia), (by first | with_reducible assumption | grind | grind (ematch := 40) (gen := 40) (splits := 40) | lia), (by first | with_reducible assumption | grind | grind (ematch := 40) (gen := 40) (splits := 40) | lia), (by first | with_reducible assumption | grind | grind (ematch := 40) (gen := 40) (splits := 40) | lia), (by first | with_reducible assumption | grind | grind (ematch := 40) (gen := 40) (splits := 40) | lia), (by first | with_reducible assumption | grind | grind (ematch := 40) (gen := 40) (splits := 40) | lia)⟩, (by first | with_reducible assumption | grind | grind (ematch := 40) (gen := 40) (splits := 40) | lia), (by first | with_reducible assumption | grind | grind (ematch := 40) (gen := 40) (splits := 40) | lia), (by first | with_reducible assumption | grind | grind (ematch := 40) (gen := 40) (splits := 40) | lia), (by first | with_reducible assumption | grind | grind (ematch := 40) (gen := 40) (splits := 40) | lia), (by intro E eE; have z := Sum.inr.inj eE; subst z; exact gr14i7_2 _ ex15i7)⟩
theorem c_Ed_takeDraft {L : q_L} {W : Nat → Prop} {h0 : z_H} {π : Nat → Nat → Option Nat} {N : Nat} {sp : Nat} {ho : Nat} {dr : Nat} {h : z_H} {v0 : Nat} {v1 : Nat} {v2 : Int32} {β : Type} {f : (Unit ⊕ String) × z_H → Option β} {Q : β → Prop} (T : q_U L W h0 π h) (kv0 : qκ L v0 = 4) (kv1 : qκ L v1 = 2) (ksp : qκ L sp = 11) (psp : π v0 1 = some sp) (kho : qκ L ho = 11) (pho : π v0 2 = some ho) (kdr : qκ L dr = 11) (pdr : π v0 9 = some dr) (wE : ∀ a, v0 ≤ a → a < v0 + 16 → W a) (bsp1 : v0 + 3 ≤ sp) (bsp2 : sp + 2 ≤ v0 + 16) (bsp3 : sp ≠ v0 + 7) (bho1 : v0 + 3 ≤ ho) (bho2 : ho + 2 ≤ v0 + 16) (bho3 : ho ≠ v0 + 7) (bdr1 : v0 + 3 ≤ dr) (bdr2 : dr + 2 ≤ v0 + 16) (bdr3 : dr ≠ v0 + 7) (hN : 100000 ≤ N) (H : ∀ y π1 s1 t1 d1 h', q_U L W h0 π1 h' → (∀ a k, ¬ (a = v0 ∧ (k = 1 ∨ k = 2 ∨ k = 9)) → ¬ (a = v0 + 9 ∧ (k = 2 ∨ k = 3 ∨ k = 4)) → π1 a k = π a k) → q_R L π1 v0 s1 t1 d1 → (∀ a k, ¬ (v0 ≤ a ∧ a < v0 + 16) → vI h' a k = vI h a k) → (∀ a j, 0 ≤ j → ¬ (v0 ≤ a ∧ a < v0 + 16) → vA h' a j = vA h a j) → (vI h' v0 3 = vI h v0 3) → (vI h' v0 12 = vI h v0 12) → (∀ E, y = .inr E → E = xE3 ∨ E = xE4) → qk (f (y, h')) Q) : qk (z_b (f_Ed_takeDraft N v0 v1 v2 h) f) Q := by
  refine qk_b (p_Ed_takeDraft T kv0 kv1 ksp psp kho pho kdr pdr wE bsp1 bsp2 bsp3 bho1 bho2 bho3 bdr1 bdr2 bdr3 hN) ?_
  rintro ⟨y, hz⟩ ⟨π1, s1, t1, d1, Tz, zz, Rz, g0, g1, g2, g3, g4⟩
  exact H y π1 s1 t1 d1 hz Tz zz Rz g0 g1 g2 g3 g4

set_option maxHeartbeats 2000000 in
theorem p_Ed_substitute_218 {L : q_L} {W : Nat → Prop} {h0 : z_H} {π : Nat → Nat → Option Nat} {N : Nat} {sp : Nat} {ho : Nat} {dr : Nat} {h : z_H} {v0 : Nat} {v1 : Nat} {v3 : Int32} {v4 : Int32} (T : q_U L W h0 π h) (kv0 : qκ L v0 = 4) (kv1 : qκ L v1 = 2) (ksp : qκ L sp = 11) (psp : π v0 1 = some sp) (kho : qκ L ho = 11) (pho : π v0 2 = some ho) (kdr : qκ L dr = 11) (pdr : π v0 9 = some dr) (wE : ∀ a, v0 ≤ a → a < v0 + 16 → W a) (bsp1 : v0 + 3 ≤ sp) (bsp2 : sp + 2 ≤ v0 + 16) (bsp3 : sp ≠ v0 + 7) (bho1 : v0 + 3 ≤ ho) (bho2 : ho + 2 ≤ v0 + 16) (bho3 : ho ≠ v0 + 7) (bdr1 : v0 + 3 ≤ dr) (bdr2 : dr + 2 ≤ v0 + 16) (bdr3 : dr ≠ v0 + 7) (b0 : 0 ≤ v4) (b1 : v4 ≤ 1000) (hN : 100000 ≤ N) : qk (f_Ed_substitute_218 N v0 v1 v3 v4 h) (fun r => ∃ π1 s1 t1 d1, q_U L W h0 π1 r.2 ∧ (∀ a k, ¬ (a = v0 ∧ (k = 1 ∨ k = 2 ∨ k = 9)) → ¬ (a = v0 + 9 ∧ (k = 2 ∨ k = 3 ∨ k = 4)) → π1 a k = π a k) ∧ q_R L π1 v0 s1 t1 d1 ∧ (∀ a k, ¬ (v0 ≤ a ∧ a < v0 + 16) → vI r.2 a k = vI h a k) ∧ (∀ a j, 0 ≤ j → ¬ (v0 ≤ a ∧ a < v0 + 16) → vA r.2 a j = vA h a j) ∧ (vI r.2 v0 3 = vI h v0 3) ∧ (vI r.2 v0 12 = vI h v0 12) ∧ (∀ E, r.1 = .inr E → E = xE3 ∨ E = xE4)) := by
  have hr_sp := q_rowhi T ksp
  have hr_ho := q_rowhi T kho
  have hr_dr := q_rowhi T kdr
  have ced := q_CEd T kv0
  unfold q_C_Ed at ced
  unfold f_Ed_substitute_218
  refine r_Ed_1 T kv0 psp ?_
  refine r_Row_1 T ksp ?_
  intro x2 ex2 lx2 ux2 mx2
  subst ex2
  refine r_Ed_o T kv0 ?_
  refine c_Ed_draftPart (v0 := v0) (v1 := v4) (v2 := (vI h sp 1)) (sp := sp) (dr := dr) T kv0 ksp psp kdr pdr (by first | with_reducible assumption | grind | grind (ematch := 40) (gen := 40) (splits := 40) | lia) (by first | with_reducible assumption | grind | grind (ematch := 40) (gen := 40) (splits := 40) | lia) (by first | with_reducible assumption | grind | grind (ematch := 40) (gen := 40) (splits := 40) | lia) (by first | with_reducible assumption | grind | grind (ematch := 40) (gen := 40) (splits := 40) | lia) (by first | with_reducible assumption | grind | grind (ematch := 40) (gen := 40) (splits := 40) | lia) (by first | with_reducible assumption | grind | grind (ematch := 40) (gen := 40) (splits := 40) | lia) (by first | with_reducible assumption | grind | grind (ematch := 40) (gen := 40) (splits := 40) | lia) ?_
  intro yr4 hr4 Tr4 gr4_0 gr4_1 gr4_2
  try dsimp only
  refine qk_zx (fun x5 ex5 => ?_) (fun Ex5 ex5 => ?_)
  · skip
    refine qk_if (fun cc1 => ?_) (fun cc1 => ?_)
    · skip
      refine qk_some ?_
      exact ⟨_, sp, ho, dr, Tr4, (by first | with_reducible assumption | grind | grind (ematch := 40) (gen := 40) (splits := 40) | lia), ⟨psp, pho, pdr, ksp, kho, kdr, (by first | with_reducible assumption | grind | grind (ematch := 40) (gen := 40) (splits := 40) | lia), (by first | with_reducible assumption | grind | grind (ematch := 40) (gen := 40) (splits := 40) | lia), (by first | with_reducible assumption | grind | grind (ematch := 40) (gen := 40) (splits := 40) | lia), (by first | with_reducible assumption | grind | grind (ematch := 40) (gen := 40) (splits := 40) | lia), (by first | with_reducible assumption | grind | grind (ematch := 40) (gen := 40) (splits := 40) | lia), (by first | with_reducible assumption | grind | grind (ematch := 40) (gen := 40) (splits := 40) | lia), (by first | with_reducible assumption | grind | grind (ematch := 40) (gen := 40) (splits := 40) | lia), (by first | with_reducible assumption | grind | grind (ematch := 40) (gen := 40) (splits := 40) | lia), (by first | with_reducible assumption | grind | grind (ematch := 40) (gen := 40) (splits := 40) | lia)⟩, (by first | with_reducible assumption | grind | grind (ematch := 40) (gen := 40) (splits := 40) | lia), (by first | with_reducible assumption | grind | grind (ematch := 40) (gen := 40) (splits := 40) | lia), (by first | with_reducible assumption | grind | grind (ematch := 40) (gen := 40) (splits := 40) | lia), (by first | with_reducible assumption | grind | grind (ematch := 40) (gen := 40) (splits := 40) | lia), (by intro E eE; exact absurd eE (by simp))⟩
    · skip
      refine r_Ed_o Tr4 kv0 ?_
      refine c_Ed_takeDraft (v0 := v0) (v1 := v1) (v2 := v3) (sp := sp) (ho := ho) (dr := dr) Tr4 kv0 kv1 ksp psp kho pho kdr pdr (by first | with_reducible assumption | grind | grind (ematch := 40) (gen := 40) (splits := 40) | lia) (by first | with_reducible assumption | grind | grind (ematch := 40) (gen := 40) (splits := 40) | lia) (by first | with_reducible assumption | grind | grind (ematch := 40) (gen := 40) (splits := 40) | lia) (by first | with_reducible assumption | grind | grind (ematch := 40) (gen := 40) (splits := 40) | lia) (by first | with_reducible assumption | grind | grind (ematch := 40) (gen := 40) (splits := 40) | lia) (by first | with_reducible assumption | grind | grind (ematch := 40) (gen := 40) (splits := 40) | lia) (by first | with_reducible assumption | grind | grind (ematch := 40) (gen := 40) (splits := 40) | lia) (by first | with_reducible assumption | grind | grind (ematch := 40) (gen := 40) (splits := 40) | lia) (by first | with_reducible assumption | grind | grind (ematch := 40) (gen := 40) (splits := 40) | lia) (by first | with_reducible assumption | grind | grind (ematch := 40) (gen := 40) (splits := 40) | lia) (by first | with_reducible assumption | grind | grind (ematch := 40) (gen := 40) (splits := 40) | lia) ?_
      intro yr11 πr11 sr11_s sr11_t sr11_d hr11 Tr11 zr11 Rr11 gr11_0 gr11_1 gr11_2 gr11_3 gr11_4
      have RRr11 := Rr11
      obtain ⟨Rr11_0, Rr11_1, Rr11_2, Rr11_3, Rr11_4, Rr11_5, Rr11_6, Rr11_7, Rr11_8, Rr11_9, Rr11_10, Rr11_11, Rr11_12, Rr11_13, Rr11_14⟩ := Rr11
      try dsimp only
      refine qk_zx (fun x12 ex12 => ?_) (fun Ex12 ex12 => ?_)
      · skip
        refine qk_some ?_
        exact ⟨_, sr11_s, sr11_t, sr11_d, Tr11, (by first | with_reducible assumption | grind | grind (ematch := 40) (gen := 40) (splits := 40) | lia), ⟨Rr11_0, Rr11_1, Rr11_2, Rr11_3, Rr11_4, Rr11_5, (by first | with_reducible assumption | grind | grind (ematch := 40) (gen := 40) (splits := 40) | lia), (by first | with_reducible assumption | grind | grind (ematch := 40) (gen := 40) (splits := 40) | lia), (by first | with_reducible assumption | grind | grind (ematch := 40) (gen := 40) (splits := 40) | lia), (by first | with_reducible assumption | grind | grind (ematch := 40) (gen := 40) (splits := 40) | lia), (by first | with_reducible assumption | grind | grind (ematch := 40) (gen := 40) (splits := 40) | lia), (by first | with_reducible assumption | grind | grind (ematch := 40) (gen := 40) (splits := 40) | lia), (by first | with_reducible assumption | grind | grind (ematch := 40) (gen := 40) (splits := 40) | lia), (by first | with_reducible assumption | grind | grind (ematch := 40) (gen := 40) (splits := 40) | lia), (by first | with_reducible assumption | grind | grind (ematch := 40) (gen := 40) (splits := 40) | lia)⟩, (by first | with_reducible assumption | grind | grind (ematch := 40) (gen := 40) (splits := 40) | lia), (by first | with_reducible assumption | grind | grind (ematch := 40) (gen := 40) (splits := 40) | lia), (by first | with_reducible assumption | grind | grind (ematch := 40) (gen := 40) (splits := 40) | lia), (by first | with_reducible assumption | grind | grind (ematch := 40) (gen := 40) (splits := 40) | lia), (by intro E eE; exact absurd eE (by simp))⟩
      · skip
        exact ⟨_, sr11_s, sr11_t, sr11_d, Tr11, (by first | with_reducible assumption | grind | grind (ematch := 40) (gen := 40) (splits := 40) | lia), ⟨Rr11_0, Rr11_1, Rr11_2, Rr11_3, Rr11_4, Rr11_5, (by first | with_reducible assumption | grind | grind (ematch := 40) (gen := 40) (splits := 40) | lia), (by first | with_reducible assumption | grind | grind (ematch := 40) (gen := 40) (splits := 40) | lia), (by first | with_reducible assumption | grind | grind (ematch := 40) (gen := 40) (splits := 40) | lia), (by first | with_reducible assumption | grind | grind (ematch := 40) (gen := 40) (splits := 40) | lia), (by first | with_reducible assumption | grind | grind (ematch := 40) (gen := 40) (splits := 40) | lia), (by first | with_reducible assumption | grind | grind (ematch := 40) (gen := 40) (splits := 40) | lia), (by first | with_reducible assumption | grind | grind (ematch := 40) (gen := 40) (splits := 40) | lia), (by first | with_reducible assumption | grind | grind (ematch := 40) (gen := 40) (splits := 40) | lia), (by first | with_reducible assumption | grind | grind (ematch := 40) (gen := 40) (splits := 40) | lia)⟩, (by first | with_reducible assumption | grind | grind (ematch := 40) (gen := 40) (splits := 40) | lia), (by first | with_reducible assumption | grind | grind (ematch := 40) (gen := 40) (splits := 40) | lia), (by first | with_reducible assumption | grind | grind (ematch := 40) (gen := 40) (splits := 40) | lia), (by first | with_reducible assumption | grind | grind (ematch := 40) (gen := 40) (splits := 40) | lia), (by intro E eE; have z := Sum.inr.inj eE; subst z; exact gr11_4 _ ex12)⟩
  · skip
    exact ⟨_, sp, ho, dr, Tr4, (by first | with_reducible assumption | grind | grind (ematch := 40) (gen := 40) (splits := 40) | lia), ⟨psp, pho, pdr, ksp, kho, kdr, (by first | with_reducible assumption | grind | grind (ematch := 40) (gen := 40) (splits := 40) | lia), (by first | with_reducible assumption | grind | grind (ematch := 40) (gen := 40) (splits := 40) | lia), (by first | with_reducible assumption | grind | grind (ematch := 40) (gen := 40) (splits := 40) | lia), (by first | with_reducible assumption | grind | grind (ematch := 40) (gen := 40) (splits := 40) | lia), (by first | with_reducible assumption | grind | grind (ematch := 40) (gen := 40) (splits := 40) | lia), (by first | with_reducible assumption | grind | grind (ematch := 40) (gen := 40) (splits := 40) | lia), (by first | with_reducible assumption | grind | grind (ematch := 40) (gen := 40) (splits := 40) | lia), (by first | with_reducible assumption | grind | grind (ematch := 40) (gen := 40) (splits := 40) | lia), (by first | with_reducible assumption | grind | grind (ematch := 40) (gen := 40) (splits := 40) | lia)⟩, (by first | with_reducible assumption | grind | grind (ematch := 40) (gen := 40) (splits := 40) | lia), (by first | with_reducible assumption | grind | grind (ematch := 40) (gen := 40) (splits := 40) | lia), (by first | with_reducible assumption | grind | grind (ematch := 40) (gen := 40) (splits := 40) | lia), (by first | with_reducible assumption | grind | grind (ematch := 40) (gen := 40) (splits := 40) | lia), (by intro E eE; have z := Sum.inr.inj eE; subst z; exact gr4_2 _ ex5)⟩
theorem c_Ed_substitute_218 {L : q_L} {W : Nat → Prop} {h0 : z_H} {π : Nat → Nat → Option Nat} {N : Nat} {sp : Nat} {ho : Nat} {dr : Nat} {h : z_H} {v0 : Nat} {v1 : Nat} {v3 : Int32} {v4 : Int32} {β : Type} {f : (Unit ⊕ String) × z_H → Option β} {Q : β → Prop} (T : q_U L W h0 π h) (kv0 : qκ L v0 = 4) (kv1 : qκ L v1 = 2) (ksp : qκ L sp = 11) (psp : π v0 1 = some sp) (kho : qκ L ho = 11) (pho : π v0 2 = some ho) (kdr : qκ L dr = 11) (pdr : π v0 9 = some dr) (wE : ∀ a, v0 ≤ a → a < v0 + 16 → W a) (bsp1 : v0 + 3 ≤ sp) (bsp2 : sp + 2 ≤ v0 + 16) (bsp3 : sp ≠ v0 + 7) (bho1 : v0 + 3 ≤ ho) (bho2 : ho + 2 ≤ v0 + 16) (bho3 : ho ≠ v0 + 7) (bdr1 : v0 + 3 ≤ dr) (bdr2 : dr + 2 ≤ v0 + 16) (bdr3 : dr ≠ v0 + 7) (b0 : 0 ≤ v4) (b1 : v4 ≤ 1000) (hN : 100000 ≤ N) (H : ∀ y π1 s1 t1 d1 h', q_U L W h0 π1 h' → (∀ a k, ¬ (a = v0 ∧ (k = 1 ∨ k = 2 ∨ k = 9)) → ¬ (a = v0 + 9 ∧ (k = 2 ∨ k = 3 ∨ k = 4)) → π1 a k = π a k) → q_R L π1 v0 s1 t1 d1 → (∀ a k, ¬ (v0 ≤ a ∧ a < v0 + 16) → vI h' a k = vI h a k) → (∀ a j, 0 ≤ j → ¬ (v0 ≤ a ∧ a < v0 + 16) → vA h' a j = vA h a j) → (vI h' v0 3 = vI h v0 3) → (vI h' v0 12 = vI h v0 12) → (∀ E, y = .inr E → E = xE3 ∨ E = xE4) → qk (f (y, h')) Q) : qk (z_b (f_Ed_substitute_218 N v0 v1 v3 v4 h) f) Q := by
  refine qk_b (p_Ed_substitute_218 T kv0 kv1 ksp psp kho pho kdr pdr wE bsp1 bsp2 bsp3 bho1 bho2 bho3 bdr1 bdr2 bdr3 b0 b1 hN) ?_
  rintro ⟨y, hz⟩ ⟨π1, s1, t1, d1, Tz, zz, Rz, g0, g1, g2, g3, g4⟩
  exact H y π1 s1 t1 d1 hz Tz zz Rz g0 g1 g2 g3 g4

set_option maxHeartbeats 8000000 in
theorem p_Ed_substitute_23_n {L : q_L} {W : Nat → Prop} {h0 : z_H} {N : Nat} {lo : Nat → Int32} (hqn : q_Q lo 62) : ∀ (n : Nat) (π : Nat → Nat → Option Nat) (sp : Nat) (ho : Nat) (dr : Nat) (pg : Nat) (v0 : Nat) (v1 : Nat) (v2 : Int32) (v3 : Int32) (v4 : Int32) (v5 : Int32) (v6 : Int32) (v7 : Int32) (h : z_H), q_U L W h0 π h → qκ L v0 = 4 → qκ L v1 = 2 → (qκ L sp = 11) → (π v0 1 = some sp) → (qκ L ho = 11) → (π v0 2 = some ho) → (qκ L dr = 11) → (π v0 9 = some dr) → (qκ L pg = 10) → (π v0 10 = some pg) → (∀ a, v0 ≤ a → a < v0 + 16 → W a) → (v0 + 3 ≤ sp) → (sp + 2 ≤ v0 + 16) → (sp ≠ v0 + 7) → (v0 + 3 ≤ ho) → (ho + 2 ≤ v0 + 16) → (ho ≠ v0 + 7) → (v0 + 3 ≤ dr) → (dr + 2 ≤ v0 + 16) → (dr ≠ v0 + 7) → (v0 + 16 ≤ pg) → (pg + 9 ≤ v1) → (v1 + 6 ≤ pg + 249) → (q_PW h (pg + 3) (v1 + 5)) → (0 ≤ v4) → (v4 ≤ 1000) → (0 ≤ v6) → (v6 ≤ 601) → (0 ≤ v7) → (v7 ≤ 61) → (100000 ≤ N) → (lo n ≤ v7) → qk (f_Ed_substitute_23 N  n v0 v1 v2 v3 v4 v5 v6 v7 h) (fun r => ∃ π1 s1 t1 d1, q_U L W h0 π1 r.2 ∧ (∀ a k, ¬ (a = v0 ∧ (k = 1 ∨ k = 2 ∨ k = 9)) → ¬ (a = v0 + 9 ∧ (k = 2 ∨ k = 3 ∨ k = 4)) → π1 a k = π a k) ∧ q_R L π1 v0 s1 t1 d1 ∧ (∀ a k, ¬ (v0 ≤ a ∧ a < v0 + 16) → vI r.2 a k = vI h a k) ∧ (∀ a j, 0 ≤ j → ¬ (v0 ≤ a ∧ a < v0 + 16) → vA r.2 a j = vA h a j) ∧ (vI r.2 v0 3 = vI h v0 3) ∧ (vI r.2 v0 12 = vI h v0 12) ∧ (∀ E, r.1 = .inr E → E = xE3 ∨ E = xE4)) := by
  intro n
  induction n with
  | zero => intro π sp ho dr pg v0 v1 v2 v3 v4 v5 v6 v7 h T kv0 kv1 ksp psp kho pho kdr pdr kpg ppg wE bsp1 bsp2 bsp3 bho1 bho2 bho3 bdr1 bdr2 bdr3 hpg hc1 hc2 PS b0 b1 c0 c1 d0 d1 hN hms; have hr_sp := q_rowhi T ksp; have hr_ho := q_rowhi T kho; have hr_dr := q_rowhi T kdr; have hz := hqn.1; exact absurd hms (by grind)
  | succ n ih =>
    intro π sp ho dr pg v0 v1 v2 v3 v4 v5 v6 v7 h T kv0 kv1 ksp psp kho pho kdr pdr kpg ppg wE bsp1 bsp2 bsp3 bho1 bho2 bho3 bdr1 bdr2 bdr3 hpg hc1 hc2 PS b0 b1 c0 c1 d0 d1 hN hms
    obtain ⟨hq1, hq2, hq3⟩ := hqn.2 n
    rw [f_Ed_substitute_23]
    have hr_sp := q_rowhi T ksp
    have hr_ho := q_rowhi T kho
    have hr_dr := q_rowhi T kdr
    have ced := q_CEd T kv0
    unfold q_C_Ed at ced
    refine qk_if (fun cc1 => ?_) (fun cc1 => ?_)
    · skip
      refine qk_mono (p_Ed_substitute_218 (v0 := v0) (v1 := v1) (v3 := v3) (v4 := v4) (sp := sp) (ho := ho) (dr := dr) T kv0 kv1 ksp psp kho pho kdr pdr (by clear ih; first | with_reducible assumption | grind | grind (ematch := 40) (gen := 40) (splits := 40) | lia) (by clear ih; first | with_reducible assumption | grind | grind (ematch := 40) (gen := 40) (splits := 40) | lia) (by clear ih; first | with_reducible assumption | grind | grind (ematch := 40) (gen := 40) (splits := 40) | lia) (by clear ih; first | with_reducible assumption | grind | grind (ematch := 40) (gen := 40) (splits := 40) | lia) (by clear ih; first | with_reducible assumption | grind | grind (ematch := 40) (gen := 40) (splits := 40) | lia) (by clear ih; first | with_reducible assumption | grind | grind (ematch := 40) (gen := 40) (splits := 40) | lia) (by clear ih; first | with_reducible assumption | grind | grind (ematch := 40) (gen := 40) (splits := 40) | lia) (by clear ih; first | with_reducible assumption | grind | grind (ematch := 40) (gen := 40) (splits := 40) | lia) (by clear ih; first | with_reducible assumption | grind | grind (ematch := 40) (gen := 40) (splits := 40) | lia) (by clear ih; first | with_reducible assumption | grind | grind (ematch := 40) (gen := 40) (splits := 40) | lia) (by clear ih; first | with_reducible assumption | grind | grind (ematch := 40) (gen := 40) (splits := 40) | lia) (by clear ih; first | with_reducible assumption | grind | grind (ematch := 40) (gen := 40) (splits := 40) | lia) (by clear ih; first | with_reducible assumption | grind | grind (ematch := 40) (gen := 40) (splits := 40) | lia)) ?_
      rintro ⟨y, hz⟩ ⟨πz, sz_s, sz_t, sz_d, Tz, zz, Rz, g0, g1, g2, g3, g4⟩
      try dsimp only at *
      exact ⟨_, _, _, _, Tz, (by clear ih; first | with_reducible assumption | grind | grind (ematch := 40) (gen := 40) (splits := 40) | lia), Rz, (by clear ih; first | with_reducible assumption | grind | grind (ematch := 40) (gen := 40) (splits := 40) | lia), (by clear ih; first | with_reducible assumption | grind | grind (ematch := 40) (gen := 40) (splits := 40) | lia), (by clear ih; first | with_reducible assumption | grind | grind (ematch := 40) (gen := 40) (splits := 40) | lia), (by clear ih; first | with_reducible assumption | grind | grind (ematch := 40) (gen := 40) (splits := 40) | lia), (by clear ih; exact g4)⟩
    · skip
      refine r_Ed_1 T kv0 psp ?_
      refine r_Row_1 T ksp ?_
      intro x3 ex3 lx3 ux3 mx3
      subst ex3
      refine qk_if (fun cc3 => ?_) (fun cc3 => ?_)
      · skip
        refine qk_mono (p_Ed_substitute_218 (v0 := v0) (v1 := v1) (v3 := v3) (v4 := v4) (sp := sp) (ho := ho) (dr := dr) T kv0 kv1 ksp psp kho pho kdr pdr (by clear ih; first | with_reducible assumption | grind | grind (ematch := 40) (gen := 40) (splits := 40) | lia) (by clear ih; first | with_reducible assumption | grind | grind (ematch := 40) (gen := 40) (splits := 40) | lia) (by clear ih; first | with_reducible assumption | grind | grind (ematch := 40) (gen := 40) (splits := 40) | lia) (by clear ih; first | with_reducible assumption | grind | grind (ematch := 40) (gen := 40) (splits := 40) | lia) (by clear ih; first | with_reducible assumption | grind | grind (ematch := 40) (gen := 40) (splits := 40) | lia) (by clear ih; first | with_reducible assumption | grind | grind (ematch := 40) (gen := 40) (splits := 40) | lia) (by clear ih; first | with_reducible assumption | grind | grind (ematch := 40) (gen := 40) (splits := 40) | lia) (by clear ih; first | with_reducible assumption | grind | grind (ematch := 40) (gen := 40) (splits := 40) | lia) (by clear ih; first | with_reducible assumption | grind | grind (ematch := 40) (gen := 40) (splits := 40) | lia) (by clear ih; first | with_reducible assumption | grind | grind (ematch := 40) (gen := 40) (splits := 40) | lia) (by clear ih; first | with_reducible assumption | grind | grind (ematch := 40) (gen := 40) (splits := 40) | lia) (by clear ih; first | with_reducible assumption | grind | grind (ematch := 40) (gen := 40) (splits := 40) | lia) (by clear ih; first | with_reducible assumption | grind | grind (ematch := 40) (gen := 40) (splits := 40) | lia)) ?_
        rintro ⟨y, hz⟩ ⟨πz, sz_s, sz_t, sz_d, Tz, zz, Rz, g0, g1, g2, g3, g4⟩
        try dsimp only at *
        exact ⟨_, _, _, _, Tz, (by clear ih; first | with_reducible assumption | grind | grind (ematch := 40) (gen := 40) (splits := 40) | lia), Rz, (by clear ih; first | with_reducible assumption | grind | grind (ematch := 40) (gen := 40) (splits := 40) | lia), (by clear ih; first | with_reducible assumption | grind | grind (ematch := 40) (gen := 40) (splits := 40) | lia), (by clear ih; first | with_reducible assumption | grind | grind (ematch := 40) (gen := 40) (splits := 40) | lia), (by clear ih; first | with_reducible assumption | grind | grind (ematch := 40) (gen := 40) (splits := 40) | lia), (by clear ih; exact g4)⟩
      · skip
        refine qk_if (fun cc5 => ?_) (fun cc5 => ?_)
        · skip
          unfold f_Ed_substitute_58
          refine qk_if (fun _ => ?_) (fun cc7 => absurd (by decide) cc7)
          refine r_Ed_8 T kv0 ?_
          intro kx2i6
          refine r_Ed_10 T kv0 ppg ?_
          refine r_Prog_1 T kpg ?_
          intro kx4i6
          refine r_Cmd_2 T kv1 ?_
          intro kx5i6
          refine r_Ed_1 T kv0 psp ?_
          refine r_Ma_o T kx2i6 ?_
          refine c_Ma_find (v0 := (v0 + 9)) (v1 := (pg + 3)) (v2 := (v1 + 5)) (v3 := sp) (v4 := v6) T kx2i6 kx4i6 kx5i6 ksp (by clear ih; first | with_reducible assumption | grind | grind (ematch := 40) (gen := 40) (splits := 40) | lia) (by clear ih; first | with_reducible assumption | grind | grind (ematch := 40) (gen := 40) (splits := 40) | lia) (by clear ih; first | with_reducible assumption | grind | grind (ematch := 40) (gen := 40) (splits := 40) | lia) (by clear ih; first | with_reducible assumption | grind | grind (ematch := 40) (gen := 40) (splits := 40) | lia) (by clear ih; first | with_reducible assumption | grind | grind (ematch := 40) (gen := 40) (splits := 40) | lia) (by clear ih; exact PS.1) (by clear ih; exact q_hg T kx4i6) (by clear ih; first | with_reducible assumption | grind | grind (ematch := 40) (gen := 40) (splits := 40) | lia) (by clear ih; first | with_reducible assumption | grind | grind (ematch := 40) (gen := 40) (splits := 40) | lia) (by clear ih; first | with_reducible assumption | grind | grind (ematch := 40) (gen := 40) (splits := 40) | lia) ?_
          intro yr8i6 πr8i6 hr8i6 Tr8i6 zr8i6 zr8i6_0 zr8i6_1 zr8i6_2 gr8i6_0 gr8i6_1 gr8i6_2 gr8i6_3
          have psp_r8i6 : πr8i6 v0 1 = some sp := by rw [zr8i6 v0 1 (by grind) (by grind) (by grind)]; exact psp
          have pho_r8i6 : πr8i6 v0 2 = some ho := by rw [zr8i6 v0 2 (by grind) (by grind) (by grind)]; exact pho
          have pdr_r8i6 : πr8i6 v0 9 = some dr := by rw [zr8i6 v0 9 (by grind) (by grind) (by grind)]; exact pdr
          have ppg_r8i6 : πr8i6 v0 10 = some pg := by rw [zr8i6 v0 10 (by grind) (by grind) (by grind)]; exact ppg
          dsimp only
          refine qk_if (fun cc8 => ?_) (fun cc8 => ?_)
          · skip
            refine qk_mono (p_Ed_substitute_218 (v0 := v0) (v1 := v1) (v3 := v3) (v4 := v4) (sp := sp) (ho := ho) (dr := dr) Tr8i6 kv0 kv1 ksp psp_r8i6 kho pho_r8i6 kdr pdr_r8i6 (by clear ih; first | with_reducible assumption | grind | grind (ematch := 40) (gen := 40) (splits := 40) | lia) (by clear ih; first | with_reducible assumption | grind | grind (ematch := 40) (gen := 40) (splits := 40) | lia) (by clear ih; first | with_reducible assumption | grind | grind (ematch := 40) (gen := 40) (splits := 40) | lia) (by clear ih; first | with_reducible assumption | grind | grind (ematch := 40) (gen := 40) (splits := 40) | lia) (by clear ih; first | with_reducible assumption | grind | grind (ematch := 40) (gen := 40) (splits := 40) | lia) (by clear ih; first | with_reducible assumption | grind | grind (ematch := 40) (gen := 40) (splits := 40) | lia) (by clear ih; first | with_reducible assumption | grind | grind (ematch := 40) (gen := 40) (splits := 40) | lia) (by clear ih; first | with_reducible assumption | grind | grind (ematch := 40) (gen := 40) (splits := 40) | lia) (by clear ih; first | with_reducible assumption | grind | grind (ematch := 40) (gen := 40) (splits := 40) | lia) (by clear ih; first | with_reducible assumption | grind | grind (ematch := 40) (gen := 40) (splits := 40) | lia) (by clear ih; first | with_reducible assumption | grind | grind (ematch := 40) (gen := 40) (splits := 40) | lia) (by clear ih; first | with_reducible assumption | grind | grind (ematch := 40) (gen := 40) (splits := 40) | lia) (by clear ih; first | with_reducible assumption | grind | grind (ematch := 40) (gen := 40) (splits := 40) | lia)) ?_
            rintro ⟨y, hz⟩ ⟨πz, sz_s, sz_t, sz_d, Tz, zz, Rz, g0, g1, g2, g3, g4⟩
            try dsimp only at *
            exact ⟨_, _, _, _, Tz, (by clear ih; first | with_reducible assumption | grind | grind (ematch := 40) (gen := 40) (splits := 40) | lia), Rz, (by clear ih; first | with_reducible assumption | grind | grind (ematch := 40) (gen := 40) (splits := 40) | lia), (by clear ih; first | with_reducible assumption | grind | grind (ematch := 40) (gen := 40) (splits := 40) | lia), (by clear ih; first | with_reducible assumption | grind | grind (ematch := 40) (gen := 40) (splits := 40) | lia), (by clear ih; first | with_reducible assumption | grind | grind (ematch := 40) (gen := 40) (splits := 40) | lia), (by clear ih; exact g4)⟩
          · skip
            refine r_Ed_8 Tr8i6 kv0 ?_
            intro kx10i6
            refine r_Ma_0 Tr8i6 kx10i6 ?_
            intro x11i6 ex11i6 lx11i6 ux11i6
            subst ex11i6
            refine r_Ed_8 Tr8i6 kv0 ?_
            intro kx12i6
            refine r_Ma_1 Tr8i6 kx12i6 ?_
            intro x13i6 ex13i6 lx13i6 ux13i6
            subst ex13i6
            refine qk_if (fun cc10 => ?_) (fun cc10 => ?_)
            · skip
              unfold f_Ed_substitute_117
              refine qk_if (fun cc12 => absurd cc12 (by decide)) (fun _ => ?_)
              refine r_Ed_8 Tr8i6 kv0 ?_
              intro kx2i11
              refine r_Ma_0 Tr8i6 kx2i11 ?_
              intro x3i11 ex3i11 lx3i11 ux3i11
              subst ex3i11
              refine qk_if (fun cc13 => ?_) (fun cc13 => ?_)
              · skip
                unfold f_Ed_substitute_177
                refine r_Ed_8 Tr8i6 kv0 ?_
                intro kx1i14
                refine r_Ma_1 Tr8i6 kx1i14 ?_
                intro x2i14 ex2i14 lx2i14 ux2i14
                subst ex2i14
                refine qk_if (fun cc15 => absurd cc15 (by decide)) (fun _ => ?_)
                refine r_Ed_8 Tr8i6 kv0 ?_
                intro kx7i14
                refine r_Ma_1 Tr8i6 kx7i14 ?_
                intro x8i14 ex8i14 lx8i14 ux8i14
                subst ex8i14
                refine qk_bs ?_
                refine qk_bs ?_
                refine qk_mono (ih _ _ _ _ _ (v0) (v1) (v2) (v3) (v4) ((vI hr8i6 (v0 + 9) 1)) (((vI hr8i6 (v0 + 9) 1) + 1)) ((v7 + 1)) hr8i6 Tr8i6 kv0 kv1 ksp psp_r8i6 kho pho_r8i6 kdr pdr_r8i6 kpg ppg_r8i6 (by clear ih; first | with_reducible assumption | grind | grind (ematch := 40) (gen := 40) (splits := 40) | lia) (by clear ih; first | with_reducible assumption | grind | grind (ematch := 40) (gen := 40) (splits := 40) | lia) (by clear ih; first | with_reducible assumption | grind | grind (ematch := 40) (gen := 40) (splits := 40) | lia) (by clear ih; first | with_reducible assumption | grind | grind (ematch := 40) (gen := 40) (splits := 40) | lia) (by clear ih; first | with_reducible assumption | grind | grind (ematch := 40) (gen := 40) (splits := 40) | lia) (by clear ih; first | with_reducible assumption | grind | grind (ematch := 40) (gen := 40) (splits := 40) | lia) (by clear ih; first | with_reducible assumption | grind | grind (ematch := 40) (gen := 40) (splits := 40) | lia) (by clear ih; first | with_reducible assumption | grind | grind (ematch := 40) (gen := 40) (splits := 40) | lia) (by clear ih; first | with_reducible assumption | grind | grind (ematch := 40) (gen := 40) (splits := 40) | lia) (by clear ih; first | with_reducible assumption | grind | grind (ematch := 40) (gen := 40) (splits := 40) | lia) (by clear ih; first | with_reducible assumption | grind | grind (ematch := 40) (gen := 40) (splits := 40) | lia) (by clear ih; first | with_reducible assumption | grind | grind (ematch := 40) (gen := 40) (splits := 40) | lia) (by clear ih; first | with_reducible assumption | grind | grind (ematch := 40) (gen := 40) (splits := 40) | lia) (by clear ih; first | exact PS | exact q_PW_eq2 PS (by grind) (by grind) (by grind) (by grind) (by grind) (by grind) (by grind)) (by clear ih; first | with_reducible assumption | grind | grind (ematch := 40) (gen := 40) (splits := 40) | lia) (by clear ih; first | with_reducible assumption | grind | grind (ematch := 40) (gen := 40) (splits := 40) | lia) (by clear ih; first | with_reducible assumption | grind | grind (ematch := 40) (gen := 40) (splits := 40) | lia) (by clear ih; first | with_reducible assumption | grind | grind (ematch := 40) (gen := 40) (splits := 40) | lia) (by clear ih; first | with_reducible assumption | grind | grind (ematch := 40) (gen := 40) (splits := 40) | lia) (by clear ih; first | with_reducible assumption | grind | grind (ematch := 40) (gen := 40) (splits := 40) | lia) (by clear ih; first | with_reducible assumption | grind | grind (ematch := 40) (gen := 40) (splits := 40) | lia) (by clear ih; first | with_reducible assumption | grind | grind (ematch := 40) (gen := 40) (splits := 40) | lia)) ?_
                rintro ⟨y, hz⟩ ⟨πz, sz_s, sz_t, sz_d, Tz, zz, Rz, g0, g1, g2, g3, g4⟩
                try dsimp only at *
                exact ⟨_, _, _, _, Tz, (by clear ih; first | with_reducible assumption | grind | grind (ematch := 40) (gen := 40) (splits := 40) | lia), Rz, (by clear ih; first | with_reducible assumption | grind | grind (ematch := 40) (gen := 40) (splits := 40) | lia), (by clear ih; first | with_reducible assumption | grind | grind (ematch := 40) (gen := 40) (splits := 40) | lia), (by clear ih; first | with_reducible assumption | grind | grind (ematch := 40) (gen := 40) (splits := 40) | lia), (by clear ih; first | with_reducible assumption | grind | grind (ematch := 40) (gen := 40) (splits := 40) | lia), (by clear ih; exact g4)⟩
              · skip
                unfold f_Ed_substitute_136
                refine qk_bs ?_
                refine r_Cmd_o Tr8i6 kv1 ?_
                refine c_Cmd_replaces (v0 := v1) (v1 := (v2 + 1)) Tr8i6 kv1 ?_
                intro yr3i17 gr3i17_0
                dsimp only
                refine qk_if (fun cc18 => ?_) (fun cc18 => ?_)
                · skip
                  unfold f_Ed_substitute_177
                  refine r_Ed_8 Tr8i6 kv0 ?_
                  intro kx1i19
                  refine r_Ma_1 Tr8i6 kx1i19 ?_
                  intro x2i19 ex2i19 lx2i19 ux2i19
                  subst ex2i19
                  refine qk_if (fun cc20 => absurd cc20 (by decide)) (fun _ => ?_)
                  refine r_Ed_8 Tr8i6 kv0 ?_
                  intro kx7i19
                  refine r_Ma_1 Tr8i6 kx7i19 ?_
                  intro x8i19 ex8i19 lx8i19 ux8i19
                  subst ex8i19
                  refine qk_bs ?_
                  refine qk_bs ?_
                  refine qk_mono (ih _ _ _ _ _ (v0) (v1) ((v2 + 1)) (v3) (v4) ((vI hr8i6 (v0 + 9) 1)) (((vI hr8i6 (v0 + 9) 1) + 1)) ((v7 + 1)) hr8i6 Tr8i6 kv0 kv1 ksp psp_r8i6 kho pho_r8i6 kdr pdr_r8i6 kpg ppg_r8i6 (by clear ih; first | with_reducible assumption | grind | grind (ematch := 40) (gen := 40) (splits := 40) | lia) (by clear ih; first | with_reducible assumption | grind | grind (ematch := 40) (gen := 40) (splits := 40) | lia) (by clear ih; first | with_reducible assumption | grind | grind (ematch := 40) (gen := 40) (splits := 40) | lia) (by clear ih; first | with_reducible assumption | grind | grind (ematch := 40) (gen := 40) (splits := 40) | lia) (by clear ih; first | with_reducible assumption | grind | grind (ematch := 40) (gen := 40) (splits := 40) | lia) (by clear ih; first | with_reducible assumption | grind | grind (ematch := 40) (gen := 40) (splits := 40) | lia) (by clear ih; first | with_reducible assumption | grind | grind (ematch := 40) (gen := 40) (splits := 40) | lia) (by clear ih; first | with_reducible assumption | grind | grind (ematch := 40) (gen := 40) (splits := 40) | lia) (by clear ih; first | with_reducible assumption | grind | grind (ematch := 40) (gen := 40) (splits := 40) | lia) (by clear ih; first | with_reducible assumption | grind | grind (ematch := 40) (gen := 40) (splits := 40) | lia) (by clear ih; first | with_reducible assumption | grind | grind (ematch := 40) (gen := 40) (splits := 40) | lia) (by clear ih; first | with_reducible assumption | grind | grind (ematch := 40) (gen := 40) (splits := 40) | lia) (by clear ih; first | with_reducible assumption | grind | grind (ematch := 40) (gen := 40) (splits := 40) | lia) (by clear ih; first | exact PS | exact q_PW_eq2 PS (by grind) (by grind) (by grind) (by grind) (by grind) (by grind) (by grind)) (by clear ih; first | with_reducible assumption | grind | grind (ematch := 40) (gen := 40) (splits := 40) | lia) (by clear ih; first | with_reducible assumption | grind | grind (ematch := 40) (gen := 40) (splits := 40) | lia) (by clear ih; first | with_reducible assumption | grind | grind (ematch := 40) (gen := 40) (splits := 40) | lia) (by clear ih; first | with_reducible assumption | grind | grind (ematch := 40) (gen := 40) (splits := 40) | lia) (by clear ih; first | with_reducible assumption | grind | grind (ematch := 40) (gen := 40) (splits := 40) | lia) (by clear ih; first | with_reducible assumption | grind | grind (ematch := 40) (gen := 40) (splits := 40) | lia) (by clear ih; first | with_reducible assumption | grind | grind (ematch := 40) (gen := 40) (splits := 40) | lia) (by clear ih; first | with_reducible assumption | grind | grind (ematch := 40) (gen := 40) (splits := 40) | lia)) ?_
                  rintro ⟨y, hz⟩ ⟨πz, sz_s, sz_t, sz_d, Tz, zz, Rz, g0, g1, g2, g3, g4⟩
                  try dsimp only at *
                  exact ⟨_, _, _, _, Tz, (by clear ih; first | with_reducible assumption | grind | grind (ematch := 40) (gen := 40) (splits := 40) | lia), Rz, (by clear ih; first | with_reducible assumption | grind | grind (ematch := 40) (gen := 40) (splits := 40) | lia), (by clear ih; first | with_reducible assumption | grind | grind (ematch := 40) (gen := 40) (splits := 40) | lia), (by clear ih; first | with_reducible assumption | grind | grind (ematch := 40) (gen := 40) (splits := 40) | lia), (by clear ih; first | with_reducible assumption | grind | grind (ematch := 40) (gen := 40) (splits := 40) | lia), (by clear ih; exact g4)⟩
                · skip
                  refine r_Ed_8 Tr8i6 kv0 ?_
                  intro kx5i17
                  refine r_Ma_0 Tr8i6 kx5i17 ?_
                  intro x6i17 ex6i17 lx6i17 ux6i17
                  subst ex6i17
                  refine r_Ed_o Tr8i6 kv0 ?_
                  refine c_Ed_draftPart (v0 := v0) (v1 := v4) (v2 := (vI hr8i6 (v0 + 9) 0)) (sp := sp) (dr := dr) Tr8i6 kv0 ksp psp_r8i6 kdr pdr_r8i6 (by clear ih; first | with_reducible assumption | grind | grind (ematch := 40) (gen := 40) (splits := 40) | lia) (by clear ih; first | with_reducible assumption | grind | grind (ematch := 40) (gen := 40) (splits := 40) | lia) (by clear ih; first | with_reducible assumption | grind | grind (ematch := 40) (gen := 40) (splits := 40) | lia) (by clear ih; first | with_reducible assumption | grind | grind (ematch := 40) (gen := 40) (splits := 40) | lia) (by clear ih; first | with_reducible assumption | grind | grind (ematch := 40) (gen := 40) (splits := 40) | lia) (by clear ih; first | with_reducible assumption | grind | grind (ematch := 40) (gen := 40) (splits := 40) | lia) (by clear ih; first | with_reducible assumption | grind | grind (ematch := 40) (gen := 40) (splits := 40) | lia) ?_
                  intro yr8i17 hr8i17 Tr8i17 gr8i17_0 gr8i17_1 gr8i17_2
                  try dsimp only
                  refine qk_zx (fun x9i17 ex9i17 => ?_) (fun Ex9i17 ex9i17 => ?_)
                  · skip
                    refine r_Ed_o Tr8i17 kv0 ?_
                    refine c_Ed_draftReplacement (v0 := v0) (v1 := v1) (sp := sp) (dr := dr) (pg := pg) Tr8i17 kv0 kv1 ksp psp_r8i6 kdr pdr_r8i6 kpg ppg_r8i6 (by clear ih; first | with_reducible assumption | grind | grind (ematch := 40) (gen := 40) (splits := 40) | lia) (by clear ih; first | with_reducible assumption | grind | grind (ematch := 40) (gen := 40) (splits := 40) | lia) (by clear ih; first | with_reducible assumption | grind | grind (ematch := 40) (gen := 40) (splits := 40) | lia) (by clear ih; first | with_reducible assumption | grind | grind (ematch := 40) (gen := 40) (splits := 40) | lia) (by clear ih; first | with_reducible assumption | grind | grind (ematch := 40) (gen := 40) (splits := 40) | lia) ?_
                    intro yr14i17 hr14i17 Tr14i17 gr14i17_0 gr14i17_1 gr14i17_2
                    try dsimp only
                    refine qk_zx (fun x15i17 ex15i17 => ?_) (fun Ex15i17 ex15i17 => ?_)
                    · skip
                      refine r_Ed_8 Tr14i17 kv0 ?_
                      intro kx19i17
                      refine r_Ma_1 Tr14i17 kx19i17 ?_
                      intro x20i17 ex20i17 lx20i17 ux20i17
                      subst ex20i17
                      refine qk_bs ?_
                      unfold f_Ed_substitute_177
                      refine r_Ed_8 Tr14i17 kv0 ?_
                      intro kx1i22
                      refine r_Ma_1 Tr14i17 kx1i22 ?_
                      intro x2i22 ex2i22 lx2i22 ux2i22
                      subst ex2i22
                      refine qk_if (fun cc23 => absurd cc23 (by decide)) (fun _ => ?_)
                      refine r_Ed_8 Tr14i17 kv0 ?_
                      intro kx7i22
                      refine r_Ma_1 Tr14i17 kx7i22 ?_
                      intro x8i22 ex8i22 lx8i22 ux8i22
                      subst ex8i22
                      refine qk_bs ?_
                      refine qk_bs ?_
                      refine qk_mono (ih _ _ _ _ _ (v0) (v1) ((v2 + 1)) ((v3 + 1)) ((vI hr14i17 (v0 + 9) 1)) ((vI hr14i17 (v0 + 9) 1)) (((vI hr14i17 (v0 + 9) 1) + 1)) ((v7 + 1)) hr14i17 Tr14i17 kv0 kv1 ksp psp_r8i6 kho pho_r8i6 kdr pdr_r8i6 kpg ppg_r8i6 (by clear ih; first | with_reducible assumption | grind | grind (ematch := 40) (gen := 40) (splits := 40) | lia) (by clear ih; first | with_reducible assumption | grind | grind (ematch := 40) (gen := 40) (splits := 40) | lia) (by clear ih; first | with_reducible assumption | grind | grind (ematch := 40) (gen := 40) (splits := 40) | lia) (by clear ih; first | with_reducible assumption | grind | grind (ematch := 40) (gen := 40) (splits := 40) | lia) (by clear ih; first | with_reducible assumption | grind | grind (ematch := 40) (gen := 40) (splits := 40) | lia) (by clear ih; first | with_reducible assumption | grind | grind (ematch := 40) (gen := 40) (splits := 40) | lia) (by clear ih; first | with_reducible assumption | grind | grind (ematch := 40) (gen := 40) (splits := 40) | lia) (by clear ih; first | with_reducible assumption | grind | grind (ematch := 40) (gen := 40) (splits := 40) | lia) (by clear ih; first | with_reducible assumption | grind | grind (ematch := 40) (gen := 40) (splits := 40) | lia) (by clear ih; first | with_reducible assumption | grind | grind (ematch := 40) (gen := 40) (splits := 40) | lia) (by clear ih; first | with_reducible assumption | grind | grind (ematch := 40) (gen := 40) (splits := 40) | lia) (by clear ih; first | with_reducible assumption | grind | grind (ematch := 40) (gen := 40) (splits := 40) | lia) (by clear ih; first | with_reducible assumption | grind | grind (ematch := 40) (gen := 40) (splits := 40) | lia) (by clear ih; first | exact PS | exact q_PW_eq2 PS (by grind) (by grind) (by grind) (by grind) (by grind) (by grind) (by grind)) (by clear ih; first | with_reducible assumption | grind | grind (ematch := 40) (gen := 40) (splits := 40) | lia) (by clear ih; first | with_reducible assumption | grind | grind (ematch := 40) (gen := 40) (splits := 40) | lia) (by clear ih; first | with_reducible assumption | grind | grind (ematch := 40) (gen := 40) (splits := 40) | lia) (by clear ih; first | with_reducible assumption | grind | grind (ematch := 40) (gen := 40) (splits := 40) | lia) (by clear ih; first | with_reducible assumption | grind | grind (ematch := 40) (gen := 40) (splits := 40) | lia) (by clear ih; first | with_reducible assumption | grind | grind (ematch := 40) (gen := 40) (splits := 40) | lia) (by clear ih; first | with_reducible assumption | grind | grind (ematch := 40) (gen := 40) (splits := 40) | lia) (by clear ih; first | with_reducible assumption | grind | grind (ematch := 40) (gen := 40) (splits := 40) | lia)) ?_
                      rintro ⟨y, hz⟩ ⟨πz, sz_s, sz_t, sz_d, Tz, zz, Rz, g0, g1, g2, g3, g4⟩
                      try dsimp only at *
                      exact ⟨_, _, _, _, Tz, (by clear ih; first | with_reducible assumption | grind | grind (ematch := 40) (gen := 40) (splits := 40) | lia), Rz, (by clear ih; first | with_reducible assumption | grind | grind (ematch := 40) (gen := 40) (splits := 40) | lia), (by clear ih; first | with_reducible assumption | grind | grind (ematch := 40) (gen := 40) (splits := 40) | lia), (by clear ih; first | with_reducible assumption | grind | grind (ematch := 40) (gen := 40) (splits := 40) | lia), (by clear ih; first | with_reducible assumption | grind | grind (ematch := 40) (gen := 40) (splits := 40) | lia), (by clear ih; exact g4)⟩
                    · skip
                      exact ⟨_, sp, ho, dr, Tr14i17, (by clear ih; first | with_reducible assumption | grind | grind (ematch := 40) (gen := 40) (splits := 40) | lia), ⟨psp_r8i6, pho_r8i6, pdr_r8i6, ksp, kho, kdr, (by clear ih; first | with_reducible assumption | grind | grind (ematch := 40) (gen := 40) (splits := 40) | lia), (by clear ih; first | with_reducible assumption | grind | grind (ematch := 40) (gen := 40) (splits := 40) | lia), (by clear ih; first | with_reducible assumption | grind | grind (ematch := 40) (gen := 40) (splits := 40) | lia), (by clear ih; first | with_reducible assumption | grind | grind (ematch := 40) (gen := 40) (splits := 40) | lia), (by clear ih; first | with_reducible assumption | grind | grind (ematch := 40) (gen := 40) (splits := 40) | lia), (by clear ih; first | with_reducible assumption | grind | grind (ematch := 40) (gen := 40) (splits := 40) | lia), (by clear ih; first | with_reducible assumption | grind | grind (ematch := 40) (gen := 40) (splits := 40) | lia), (by clear ih; first | with_reducible assumption | grind | grind (ematch := 40) (gen := 40) (splits := 40) | lia), (by clear ih; first | with_reducible assumption | grind | grind (ematch := 40) (gen := 40) (splits := 40) | lia)⟩, (by clear ih; first | with_reducible assumption | grind | grind (ematch := 40) (gen := 40) (splits := 40) | lia), (by clear ih; first | with_reducible assumption | grind | grind (ematch := 40) (gen := 40) (splits := 40) | lia), (by clear ih; first | with_reducible assumption | grind | grind (ematch := 40) (gen := 40) (splits := 40) | lia), (by clear ih; first | with_reducible assumption | grind | grind (ematch := 40) (gen := 40) (splits := 40) | lia), (by clear ih; intro E eE; have z := Sum.inr.inj eE; subst z; exact gr14i17_2 _ ex15i17)⟩
                  · skip
                    exact ⟨_, sp, ho, dr, Tr8i17, (by clear ih; first | with_reducible assumption | grind | grind (ematch := 40) (gen := 40) (splits := 40) | lia), ⟨psp_r8i6, pho_r8i6, pdr_r8i6, ksp, kho, kdr, (by clear ih; first | with_reducible assumption | grind | grind (ematch := 40) (gen := 40) (splits := 40) | lia), (by clear ih; first | with_reducible assumption | grind | grind (ematch := 40) (gen := 40) (splits := 40) | lia), (by clear ih; first | with_reducible assumption | grind | grind (ematch := 40) (gen := 40) (splits := 40) | lia), (by clear ih; first | with_reducible assumption | grind | grind (ematch := 40) (gen := 40) (splits := 40) | lia), (by clear ih; first | with_reducible assumption | grind | grind (ematch := 40) (gen := 40) (splits := 40) | lia), (by clear ih; first | with_reducible assumption | grind | grind (ematch := 40) (gen := 40) (splits := 40) | lia), (by clear ih; first | with_reducible assumption | grind | grind (ematch := 40) (gen := 40) (splits := 40) | lia), (by clear ih; first | with_reducible assumption | grind | grind (ematch := 40) (gen := 40) (splits := 40) | lia), (by clear ih; first | with_reducible assumption | grind | grind (ematch := 40) (gen := 40) (splits := 40) | lia)⟩, (by clear ih; first | with_reducible assumption | grind | grind (ematch := 40) (gen := 40) (splits := 40) | lia), (by clear ih; first | with_reducible assumption | grind | grind (ematch := 40) (gen := 40) (splits := 40) | lia), (by clear ih; first | with_reducible assumption | grind | grind (ematch := 40) (gen := 40) (splits := 40) | lia), (by clear ih; first | with_reducible assumption | grind | grind (ematch := 40) (gen := 40) (splits := 40) | lia), (by clear ih; intro E eE; have z := Sum.inr.inj eE; subst z; exact gr8i17_2 _ ex9i17)⟩
            · skip
              unfold f_Ed_substitute_117
              refine qk_if (fun _ => ?_) (fun cc26 => absurd (by decide) cc26)
              unfold f_Ed_substitute_136
              refine qk_bs ?_
              refine r_Cmd_o Tr8i6 kv1 ?_
              refine c_Cmd_replaces (v0 := v1) (v1 := (v2 + 1)) Tr8i6 kv1 ?_
              intro yr3i27 gr3i27_0
              dsimp only
              refine qk_if (fun cc28 => ?_) (fun cc28 => ?_)
              · skip
                unfold f_Ed_substitute_177
                refine r_Ed_8 Tr8i6 kv0 ?_
                intro kx1i29
                refine r_Ma_1 Tr8i6 kx1i29 ?_
                intro x2i29 ex2i29 lx2i29 ux2i29
                subst ex2i29
                refine qk_if (fun _ => ?_) (fun cc30 => absurd (by decide) cc30)
                refine r_Ed_8 Tr8i6 kv0 ?_
                intro kx4i29
                refine r_Ma_1 Tr8i6 kx4i29 ?_
                intro x5i29 ex5i29 lx5i29 ux5i29
                subst ex5i29
                refine qk_bs ?_
                refine qk_mono (ih _ _ _ _ _ (v0) (v1) ((v2 + 1)) (v3) (v4) ((vI hr8i6 (v0 + 9) 1)) ((vI hr8i6 (v0 + 9) 1)) ((v7 + 1)) hr8i6 Tr8i6 kv0 kv1 ksp psp_r8i6 kho pho_r8i6 kdr pdr_r8i6 kpg ppg_r8i6 (by clear ih; first | with_reducible assumption | grind | grind (ematch := 40) (gen := 40) (splits := 40) | lia) (by clear ih; first | with_reducible assumption | grind | grind (ematch := 40) (gen := 40) (splits := 40) | lia) (by clear ih; first | with_reducible assumption | grind | grind (ematch := 40) (gen := 40) (splits := 40) | lia) (by clear ih; first | with_reducible assumption | grind | grind (ematch := 40) (gen := 40) (splits := 40) | lia) (by clear ih; first | with_reducible assumption | grind | grind (ematch := 40) (gen := 40) (splits := 40) | lia) (by clear ih; first | with_reducible assumption | grind | grind (ematch := 40) (gen := 40) (splits := 40) | lia) (by clear ih; first | with_reducible assumption | grind | grind (ematch := 40) (gen := 40) (splits := 40) | lia) (by clear ih; first | with_reducible assumption | grind | grind (ematch := 40) (gen := 40) (splits := 40) | lia) (by clear ih; first | with_reducible assumption | grind | grind (ematch := 40) (gen := 40) (splits := 40) | lia) (by clear ih; first | with_reducible assumption | grind | grind (ematch := 40) (gen := 40) (splits := 40) | lia) (by clear ih; first | with_reducible assumption | grind | grind (ematch := 40) (gen := 40) (splits := 40) | lia) (by clear ih; first | with_reducible assumption | grind | grind (ematch := 40) (gen := 40) (splits := 40) | lia) (by clear ih; first | with_reducible assumption | grind | grind (ematch := 40) (gen := 40) (splits := 40) | lia) (by clear ih; first | exact PS | exact q_PW_eq2 PS (by grind) (by grind) (by grind) (by grind) (by grind) (by grind) (by grind)) (by clear ih; first | with_reducible assumption | grind | grind (ematch := 40) (gen := 40) (splits := 40) | lia) (by clear ih; first | with_reducible assumption | grind | grind (ematch := 40) (gen := 40) (splits := 40) | lia) (by clear ih; first | with_reducible assumption | grind | grind (ematch := 40) (gen := 40) (splits := 40) | lia) (by clear ih; first | with_reducible assumption | grind | grind (ematch := 40) (gen := 40) (splits := 40) | lia) (by clear ih; first | with_reducible assumption | grind | grind (ematch := 40) (gen := 40) (splits := 40) | lia) (by clear ih; first | with_reducible assumption | grind | grind (ematch := 40) (gen := 40) (splits := 40) | lia) (by clear ih; first | with_reducible assumption | grind | grind (ematch := 40) (gen := 40) (splits := 40) | lia) (by clear ih; first | with_reducible assumption | grind | grind (ematch := 40) (gen := 40) (splits := 40) | lia)) ?_
                rintro ⟨y, hz⟩ ⟨πz, sz_s, sz_t, sz_d, Tz, zz, Rz, g0, g1, g2, g3, g4⟩
                try dsimp only at *
                exact ⟨_, _, _, _, Tz, (by clear ih; first | with_reducible assumption | grind | grind (ematch := 40) (gen := 40) (splits := 40) | lia), Rz, (by clear ih; first | with_reducible assumption | grind | grind (ematch := 40) (gen := 40) (splits := 40) | lia), (by clear ih; first | with_reducible assumption | grind | grind (ematch := 40) (gen := 40) (splits := 40) | lia), (by clear ih; first | with_reducible assumption | grind | grind (ematch := 40) (gen := 40) (splits := 40) | lia), (by clear ih; first | with_reducible assumption | grind | grind (ematch := 40) (gen := 40) (splits := 40) | lia), (by clear ih; exact g4)⟩
              · skip
                refine r_Ed_8 Tr8i6 kv0 ?_
                intro kx5i27
                refine r_Ma_0 Tr8i6 kx5i27 ?_
                intro x6i27 ex6i27 lx6i27 ux6i27
                subst ex6i27
                refine r_Ed_o Tr8i6 kv0 ?_
                refine c_Ed_draftPart (v0 := v0) (v1 := v4) (v2 := (vI hr8i6 (v0 + 9) 0)) (sp := sp) (dr := dr) Tr8i6 kv0 ksp psp_r8i6 kdr pdr_r8i6 (by clear ih; first | with_reducible assumption | grind | grind (ematch := 40) (gen := 40) (splits := 40) | lia) (by clear ih; first | with_reducible assumption | grind | grind (ematch := 40) (gen := 40) (splits := 40) | lia) (by clear ih; first | with_reducible assumption | grind | grind (ematch := 40) (gen := 40) (splits := 40) | lia) (by clear ih; first | with_reducible assumption | grind | grind (ematch := 40) (gen := 40) (splits := 40) | lia) (by clear ih; first | with_reducible assumption | grind | grind (ematch := 40) (gen := 40) (splits := 40) | lia) (by clear ih; first | with_reducible assumption | grind | grind (ematch := 40) (gen := 40) (splits := 40) | lia) (by clear ih; first | with_reducible assumption | grind | grind (ematch := 40) (gen := 40) (splits := 40) | lia) ?_
                intro yr8i27 hr8i27 Tr8i27 gr8i27_0 gr8i27_1 gr8i27_2
                try dsimp only
                refine qk_zx (fun x9i27 ex9i27 => ?_) (fun Ex9i27 ex9i27 => ?_)
                · skip
                  refine r_Ed_o Tr8i27 kv0 ?_
                  refine c_Ed_draftReplacement (v0 := v0) (v1 := v1) (sp := sp) (dr := dr) (pg := pg) Tr8i27 kv0 kv1 ksp psp_r8i6 kdr pdr_r8i6 kpg ppg_r8i6 (by clear ih; first | with_reducible assumption | grind | grind (ematch := 40) (gen := 40) (splits := 40) | lia) (by clear ih; first | with_reducible assumption | grind | grind (ematch := 40) (gen := 40) (splits := 40) | lia) (by clear ih; first | with_reducible assumption | grind | grind (ematch := 40) (gen := 40) (splits := 40) | lia) (by clear ih; first | with_reducible assumption | grind | grind (ematch := 40) (gen := 40) (splits := 40) | lia) (by clear ih; first | with_reducible assumption | grind | grind (ematch := 40) (gen := 40) (splits := 40) | lia) ?_
                  intro yr14i27 hr14i27 Tr14i27 gr14i27_0 gr14i27_1 gr14i27_2
                  try dsimp only
                  refine qk_zx (fun x15i27 ex15i27 => ?_) (fun Ex15i27 ex15i27 => ?_)
                  · skip
                    refine r_Ed_8 Tr14i27 kv0 ?_
                    intro kx19i27
                    refine r_Ma_1 Tr14i27 kx19i27 ?_
                    intro x20i27 ex20i27 lx20i27 ux20i27
                    subst ex20i27
                    refine qk_bs ?_
                    unfold f_Ed_substitute_177
                    refine r_Ed_8 Tr14i27 kv0 ?_
                    intro kx1i32
                    refine r_Ma_1 Tr14i27 kx1i32 ?_
                    intro x2i32 ex2i32 lx2i32 ux2i32
                    subst ex2i32
                    refine qk_if (fun _ => ?_) (fun cc33 => absurd (by decide) cc33)
                    refine r_Ed_8 Tr14i27 kv0 ?_
                    intro kx4i32
                    refine r_Ma_1 Tr14i27 kx4i32 ?_
                    intro x5i32 ex5i32 lx5i32 ux5i32
                    subst ex5i32
                    refine qk_bs ?_
                    refine qk_mono (ih _ _ _ _ _ (v0) (v1) ((v2 + 1)) ((v3 + 1)) ((vI hr14i27 (v0 + 9) 1)) ((vI hr14i27 (v0 + 9) 1)) ((vI hr14i27 (v0 + 9) 1)) ((v7 + 1)) hr14i27 Tr14i27 kv0 kv1 ksp psp_r8i6 kho pho_r8i6 kdr pdr_r8i6 kpg ppg_r8i6 (by clear ih; first | with_reducible assumption | grind | grind (ematch := 40) (gen := 40) (splits := 40) | lia) (by clear ih; first | with_reducible assumption | grind | grind (ematch := 40) (gen := 40) (splits := 40) | lia) (by clear ih; first | with_reducible assumption | grind | grind (ematch := 40) (gen := 40) (splits := 40) | lia) (by clear ih; first | with_reducible assumption | grind | grind (ematch := 40) (gen := 40) (splits := 40) | lia) (by clear ih; first | with_reducible assumption | grind | grind (ematch := 40) (gen := 40) (splits := 40) | lia) (by clear ih; first | with_reducible assumption | grind | grind (ematch := 40) (gen := 40) (splits := 40) | lia) (by clear ih; first | with_reducible assumption | grind | grind (ematch := 40) (gen := 40) (splits := 40) | lia) (by clear ih; first | with_reducible assumption | grind | grind (ematch := 40) (gen := 40) (splits := 40) | lia) (by clear ih; first | with_reducible assumption | grind | grind (ematch := 40) (gen := 40) (splits := 40) | lia) (by clear ih; first | with_reducible assumption | grind | grind (ematch := 40) (gen := 40) (splits := 40) | lia) (by clear ih; first | with_reducible assumption | grind | grind (ematch := 40) (gen := 40) (splits := 40) | lia) (by clear ih; first | with_reducible assumption | grind | grind (ematch := 40) (gen := 40) (splits := 40) | lia) (by clear ih; first | with_reducible assumption | grind | grind (ematch := 40) (gen := 40) (splits := 40) | lia) (by clear ih; first | exact PS | exact q_PW_eq2 PS (by grind) (by grind) (by grind) (by grind) (by grind) (by grind) (by grind)) (by clear ih; first | with_reducible assumption | grind | grind (ematch := 40) (gen := 40) (splits := 40) | lia) (by clear ih; first | with_reducible assumption | grind | grind (ematch := 40) (gen := 40) (splits := 40) | lia) (by clear ih; first | with_reducible assumption | grind | grind (ematch := 40) (gen := 40) (splits := 40) | lia) (by clear ih; first | with_reducible assumption | grind | grind (ematch := 40) (gen := 40) (splits := 40) | lia) (by clear ih; first | with_reducible assumption | grind | grind (ematch := 40) (gen := 40) (splits := 40) | lia) (by clear ih; first | with_reducible assumption | grind | grind (ematch := 40) (gen := 40) (splits := 40) | lia) (by clear ih; first | with_reducible assumption | grind | grind (ematch := 40) (gen := 40) (splits := 40) | lia) (by clear ih; first | with_reducible assumption | grind | grind (ematch := 40) (gen := 40) (splits := 40) | lia)) ?_
                    rintro ⟨y, hz⟩ ⟨πz, sz_s, sz_t, sz_d, Tz, zz, Rz, g0, g1, g2, g3, g4⟩
                    try dsimp only at *
                    exact ⟨_, _, _, _, Tz, (by clear ih; first | with_reducible assumption | grind | grind (ematch := 40) (gen := 40) (splits := 40) | lia), Rz, (by clear ih; first | with_reducible assumption | grind | grind (ematch := 40) (gen := 40) (splits := 40) | lia), (by clear ih; first | with_reducible assumption | grind | grind (ematch := 40) (gen := 40) (splits := 40) | lia), (by clear ih; first | with_reducible assumption | grind | grind (ematch := 40) (gen := 40) (splits := 40) | lia), (by clear ih; first | with_reducible assumption | grind | grind (ematch := 40) (gen := 40) (splits := 40) | lia), (by clear ih; exact g4)⟩
                  · skip
                    exact ⟨_, sp, ho, dr, Tr14i27, (by clear ih; first | with_reducible assumption | grind | grind (ematch := 40) (gen := 40) (splits := 40) | lia), ⟨psp_r8i6, pho_r8i6, pdr_r8i6, ksp, kho, kdr, (by clear ih; first | with_reducible assumption | grind | grind (ematch := 40) (gen := 40) (splits := 40) | lia), (by clear ih; first | with_reducible assumption | grind | grind (ematch := 40) (gen := 40) (splits := 40) | lia), (by clear ih; first | with_reducible assumption | grind | grind (ematch := 40) (gen := 40) (splits := 40) | lia), (by clear ih; first | with_reducible assumption | grind | grind (ematch := 40) (gen := 40) (splits := 40) | lia), (by clear ih; first | with_reducible assumption | grind | grind (ematch := 40) (gen := 40) (splits := 40) | lia), (by clear ih; first | with_reducible assumption | grind | grind (ematch := 40) (gen := 40) (splits := 40) | lia), (by clear ih; first | with_reducible assumption | grind | grind (ematch := 40) (gen := 40) (splits := 40) | lia), (by clear ih; first | with_reducible assumption | grind | grind (ematch := 40) (gen := 40) (splits := 40) | lia), (by clear ih; first | with_reducible assumption | grind | grind (ematch := 40) (gen := 40) (splits := 40) | lia)⟩, (by clear ih; first | with_reducible assumption | grind | grind (ematch := 40) (gen := 40) (splits := 40) | lia), (by clear ih; first | with_reducible assumption | grind | grind (ematch := 40) (gen := 40) (splits := 40) | lia), (by clear ih; first | with_reducible assumption | grind | grind (ematch := 40) (gen := 40) (splits := 40) | lia), (by clear ih; first | with_reducible assumption | grind | grind (ematch := 40) (gen := 40) (splits := 40) | lia), (by clear ih; intro E eE; have z := Sum.inr.inj eE; subst z; exact gr14i27_2 _ ex15i27)⟩
                · skip
                  exact ⟨_, sp, ho, dr, Tr8i27, (by clear ih; first | with_reducible assumption | grind | grind (ematch := 40) (gen := 40) (splits := 40) | lia), ⟨psp_r8i6, pho_r8i6, pdr_r8i6, ksp, kho, kdr, (by clear ih; first | with_reducible assumption | grind | grind (ematch := 40) (gen := 40) (splits := 40) | lia), (by clear ih; first | with_reducible assumption | grind | grind (ematch := 40) (gen := 40) (splits := 40) | lia), (by clear ih; first | with_reducible assumption | grind | grind (ematch := 40) (gen := 40) (splits := 40) | lia), (by clear ih; first | with_reducible assumption | grind | grind (ematch := 40) (gen := 40) (splits := 40) | lia), (by clear ih; first | with_reducible assumption | grind | grind (ematch := 40) (gen := 40) (splits := 40) | lia), (by clear ih; first | with_reducible assumption | grind | grind (ematch := 40) (gen := 40) (splits := 40) | lia), (by clear ih; first | with_reducible assumption | grind | grind (ematch := 40) (gen := 40) (splits := 40) | lia), (by clear ih; first | with_reducible assumption | grind | grind (ematch := 40) (gen := 40) (splits := 40) | lia), (by clear ih; first | with_reducible assumption | grind | grind (ematch := 40) (gen := 40) (splits := 40) | lia)⟩, (by clear ih; first | with_reducible assumption | grind | grind (ematch := 40) (gen := 40) (splits := 40) | lia), (by clear ih; first | with_reducible assumption | grind | grind (ematch := 40) (gen := 40) (splits := 40) | lia), (by clear ih; first | with_reducible assumption | grind | grind (ematch := 40) (gen := 40) (splits := 40) | lia), (by clear ih; first | with_reducible assumption | grind | grind (ematch := 40) (gen := 40) (splits := 40) | lia), (by clear ih; intro E eE; have z := Sum.inr.inj eE; subst z; exact gr8i27_2 _ ex9i27)⟩
        · skip
          refine r_Cmd_12 T kv1 ?_
          intro x6 ex6
          subst ex6
          refine qk_if (fun cc35 => ?_) (fun cc35 => ?_)
          · skip
            unfold f_Ed_substitute_58
            refine qk_if (fun cc37 => absurd cc37 (by decide)) (fun _ => ?_)
            refine qk_mono (p_Ed_substitute_218 (v0 := v0) (v1 := v1) (v3 := v3) (v4 := v4) (sp := sp) (ho := ho) (dr := dr) T kv0 kv1 ksp psp kho pho kdr pdr (by clear ih; first | with_reducible assumption | grind | grind (ematch := 40) (gen := 40) (splits := 40) | lia) (by clear ih; first | with_reducible assumption | grind | grind (ematch := 40) (gen := 40) (splits := 40) | lia) (by clear ih; first | with_reducible assumption | grind | grind (ematch := 40) (gen := 40) (splits := 40) | lia) (by clear ih; first | with_reducible assumption | grind | grind (ematch := 40) (gen := 40) (splits := 40) | lia) (by clear ih; first | with_reducible assumption | grind | grind (ematch := 40) (gen := 40) (splits := 40) | lia) (by clear ih; first | with_reducible assumption | grind | grind (ematch := 40) (gen := 40) (splits := 40) | lia) (by clear ih; first | with_reducible assumption | grind | grind (ematch := 40) (gen := 40) (splits := 40) | lia) (by clear ih; first | with_reducible assumption | grind | grind (ematch := 40) (gen := 40) (splits := 40) | lia) (by clear ih; first | with_reducible assumption | grind | grind (ematch := 40) (gen := 40) (splits := 40) | lia) (by clear ih; first | with_reducible assumption | grind | grind (ematch := 40) (gen := 40) (splits := 40) | lia) (by clear ih; first | with_reducible assumption | grind | grind (ematch := 40) (gen := 40) (splits := 40) | lia) (by clear ih; first | with_reducible assumption | grind | grind (ematch := 40) (gen := 40) (splits := 40) | lia) (by clear ih; first | with_reducible assumption | grind | grind (ematch := 40) (gen := 40) (splits := 40) | lia)) ?_
            rintro ⟨y, hz⟩ ⟨πz, sz_s, sz_t, sz_d, Tz, zz, Rz, g0, g1, g2, g3, g4⟩
            try dsimp only at *
            exact ⟨_, _, _, _, Tz, (by clear ih; first | with_reducible assumption | grind | grind (ematch := 40) (gen := 40) (splits := 40) | lia), Rz, (by clear ih; first | with_reducible assumption | grind | grind (ematch := 40) (gen := 40) (splits := 40) | lia), (by clear ih; first | with_reducible assumption | grind | grind (ematch := 40) (gen := 40) (splits := 40) | lia), (by clear ih; first | with_reducible assumption | grind | grind (ematch := 40) (gen := 40) (splits := 40) | lia), (by clear ih; first | with_reducible assumption | grind | grind (ematch := 40) (gen := 40) (splits := 40) | lia), (by clear ih; exact g4)⟩
          · skip
            unfold f_Ed_substitute_58
            refine qk_if (fun _ => ?_) (fun cc40 => absurd (by decide) cc40)
            refine r_Ed_8 T kv0 ?_
            intro kx2i39
            refine r_Ed_10 T kv0 ppg ?_
            refine r_Prog_1 T kpg ?_
            intro kx4i39
            refine r_Cmd_2 T kv1 ?_
            intro kx5i39
            refine r_Ed_1 T kv0 psp ?_
            refine r_Ma_o T kx2i39 ?_
            refine c_Ma_find (v0 := (v0 + 9)) (v1 := (pg + 3)) (v2 := (v1 + 5)) (v3 := sp) (v4 := v6) T kx2i39 kx4i39 kx5i39 ksp (by clear ih; first | with_reducible assumption | grind | grind (ematch := 40) (gen := 40) (splits := 40) | lia) (by clear ih; first | with_reducible assumption | grind | grind (ematch := 40) (gen := 40) (splits := 40) | lia) (by clear ih; first | with_reducible assumption | grind | grind (ematch := 40) (gen := 40) (splits := 40) | lia) (by clear ih; first | with_reducible assumption | grind | grind (ematch := 40) (gen := 40) (splits := 40) | lia) (by clear ih; first | with_reducible assumption | grind | grind (ematch := 40) (gen := 40) (splits := 40) | lia) (by clear ih; exact PS.1) (by clear ih; exact q_hg T kx4i39) (by clear ih; first | with_reducible assumption | grind | grind (ematch := 40) (gen := 40) (splits := 40) | lia) (by clear ih; first | with_reducible assumption | grind | grind (ematch := 40) (gen := 40) (splits := 40) | lia) (by clear ih; first | with_reducible assumption | grind | grind (ematch := 40) (gen := 40) (splits := 40) | lia) ?_
            intro yr8i39 πr8i39 hr8i39 Tr8i39 zr8i39 zr8i39_0 zr8i39_1 zr8i39_2 gr8i39_0 gr8i39_1 gr8i39_2 gr8i39_3
            have psp_r8i39 : πr8i39 v0 1 = some sp := by rw [zr8i39 v0 1 (by grind) (by grind) (by grind)]; exact psp
            have pho_r8i39 : πr8i39 v0 2 = some ho := by rw [zr8i39 v0 2 (by grind) (by grind) (by grind)]; exact pho
            have pdr_r8i39 : πr8i39 v0 9 = some dr := by rw [zr8i39 v0 9 (by grind) (by grind) (by grind)]; exact pdr
            have ppg_r8i39 : πr8i39 v0 10 = some pg := by rw [zr8i39 v0 10 (by grind) (by grind) (by grind)]; exact ppg
            dsimp only
            refine qk_if (fun cc41 => ?_) (fun cc41 => ?_)
            · skip
              refine qk_mono (p_Ed_substitute_218 (v0 := v0) (v1 := v1) (v3 := v3) (v4 := v4) (sp := sp) (ho := ho) (dr := dr) Tr8i39 kv0 kv1 ksp psp_r8i39 kho pho_r8i39 kdr pdr_r8i39 (by clear ih; first | with_reducible assumption | grind | grind (ematch := 40) (gen := 40) (splits := 40) | lia) (by clear ih; first | with_reducible assumption | grind | grind (ematch := 40) (gen := 40) (splits := 40) | lia) (by clear ih; first | with_reducible assumption | grind | grind (ematch := 40) (gen := 40) (splits := 40) | lia) (by clear ih; first | with_reducible assumption | grind | grind (ematch := 40) (gen := 40) (splits := 40) | lia) (by clear ih; first | with_reducible assumption | grind | grind (ematch := 40) (gen := 40) (splits := 40) | lia) (by clear ih; first | with_reducible assumption | grind | grind (ematch := 40) (gen := 40) (splits := 40) | lia) (by clear ih; first | with_reducible assumption | grind | grind (ematch := 40) (gen := 40) (splits := 40) | lia) (by clear ih; first | with_reducible assumption | grind | grind (ematch := 40) (gen := 40) (splits := 40) | lia) (by clear ih; first | with_reducible assumption | grind | grind (ematch := 40) (gen := 40) (splits := 40) | lia) (by clear ih; first | with_reducible assumption | grind | grind (ematch := 40) (gen := 40) (splits := 40) | lia) (by clear ih; first | with_reducible assumption | grind | grind (ematch := 40) (gen := 40) (splits := 40) | lia) (by clear ih; first | with_reducible assumption | grind | grind (ematch := 40) (gen := 40) (splits := 40) | lia) (by clear ih; first | with_reducible assumption | grind | grind (ematch := 40) (gen := 40) (splits := 40) | lia)) ?_
              rintro ⟨y, hz⟩ ⟨πz, sz_s, sz_t, sz_d, Tz, zz, Rz, g0, g1, g2, g3, g4⟩
              try dsimp only at *
              exact ⟨_, _, _, _, Tz, (by clear ih; first | with_reducible assumption | grind | grind (ematch := 40) (gen := 40) (splits := 40) | lia), Rz, (by clear ih; first | with_reducible assumption | grind | grind (ematch := 40) (gen := 40) (splits := 40) | lia), (by clear ih; first | with_reducible assumption | grind | grind (ematch := 40) (gen := 40) (splits := 40) | lia), (by clear ih; first | with_reducible assumption | grind | grind (ematch := 40) (gen := 40) (splits := 40) | lia), (by clear ih; first | with_reducible assumption | grind | grind (ematch := 40) (gen := 40) (splits := 40) | lia), (by clear ih; exact g4)⟩
            · skip
              refine r_Ed_8 Tr8i39 kv0 ?_
              intro kx10i39
              refine r_Ma_0 Tr8i39 kx10i39 ?_
              intro x11i39 ex11i39 lx11i39 ux11i39
              subst ex11i39
              refine r_Ed_8 Tr8i39 kv0 ?_
              intro kx12i39
              refine r_Ma_1 Tr8i39 kx12i39 ?_
              intro x13i39 ex13i39 lx13i39 ux13i39
              subst ex13i39
              refine qk_if (fun cc43 => ?_) (fun cc43 => ?_)
              · skip
                unfold f_Ed_substitute_117
                refine qk_if (fun cc45 => absurd cc45 (by decide)) (fun _ => ?_)
                refine r_Ed_8 Tr8i39 kv0 ?_
                intro kx2i44
                refine r_Ma_0 Tr8i39 kx2i44 ?_
                intro x3i44 ex3i44 lx3i44 ux3i44
                subst ex3i44
                refine qk_if (fun cc46 => ?_) (fun cc46 => ?_)
                · skip
                  unfold f_Ed_substitute_177
                  refine r_Ed_8 Tr8i39 kv0 ?_
                  intro kx1i47
                  refine r_Ma_1 Tr8i39 kx1i47 ?_
                  intro x2i47 ex2i47 lx2i47 ux2i47
                  subst ex2i47
                  refine qk_if (fun cc48 => absurd cc48 (by decide)) (fun _ => ?_)
                  refine r_Ed_8 Tr8i39 kv0 ?_
                  intro kx7i47
                  refine r_Ma_1 Tr8i39 kx7i47 ?_
                  intro x8i47 ex8i47 lx8i47 ux8i47
                  subst ex8i47
                  refine qk_bs ?_
                  refine qk_bs ?_
                  refine qk_mono (ih _ _ _ _ _ (v0) (v1) (v2) (v3) (v4) ((vI hr8i39 (v0 + 9) 1)) (((vI hr8i39 (v0 + 9) 1) + 1)) ((v7 + 1)) hr8i39 Tr8i39 kv0 kv1 ksp psp_r8i39 kho pho_r8i39 kdr pdr_r8i39 kpg ppg_r8i39 (by clear ih; first | with_reducible assumption | grind | grind (ematch := 40) (gen := 40) (splits := 40) | lia) (by clear ih; first | with_reducible assumption | grind | grind (ematch := 40) (gen := 40) (splits := 40) | lia) (by clear ih; first | with_reducible assumption | grind | grind (ematch := 40) (gen := 40) (splits := 40) | lia) (by clear ih; first | with_reducible assumption | grind | grind (ematch := 40) (gen := 40) (splits := 40) | lia) (by clear ih; first | with_reducible assumption | grind | grind (ematch := 40) (gen := 40) (splits := 40) | lia) (by clear ih; first | with_reducible assumption | grind | grind (ematch := 40) (gen := 40) (splits := 40) | lia) (by clear ih; first | with_reducible assumption | grind | grind (ematch := 40) (gen := 40) (splits := 40) | lia) (by clear ih; first | with_reducible assumption | grind | grind (ematch := 40) (gen := 40) (splits := 40) | lia) (by clear ih; first | with_reducible assumption | grind | grind (ematch := 40) (gen := 40) (splits := 40) | lia) (by clear ih; first | with_reducible assumption | grind | grind (ematch := 40) (gen := 40) (splits := 40) | lia) (by clear ih; first | with_reducible assumption | grind | grind (ematch := 40) (gen := 40) (splits := 40) | lia) (by clear ih; first | with_reducible assumption | grind | grind (ematch := 40) (gen := 40) (splits := 40) | lia) (by clear ih; first | with_reducible assumption | grind | grind (ematch := 40) (gen := 40) (splits := 40) | lia) (by clear ih; first | exact PS | exact q_PW_eq2 PS (by grind) (by grind) (by grind) (by grind) (by grind) (by grind) (by grind)) (by clear ih; first | with_reducible assumption | grind | grind (ematch := 40) (gen := 40) (splits := 40) | lia) (by clear ih; first | with_reducible assumption | grind | grind (ematch := 40) (gen := 40) (splits := 40) | lia) (by clear ih; first | with_reducible assumption | grind | grind (ematch := 40) (gen := 40) (splits := 40) | lia) (by clear ih; first | with_reducible assumption | grind | grind (ematch := 40) (gen := 40) (splits := 40) | lia) (by clear ih; first | with_reducible assumption | grind | grind (ematch := 40) (gen := 40) (splits := 40) | lia) (by clear ih; first | with_reducible assumption | grind | grind (ematch := 40) (gen := 40) (splits := 40) | lia) (by clear ih; first | with_reducible assumption | grind | grind (ematch := 40) (gen := 40) (splits := 40) | lia) (by clear ih; first | with_reducible assumption | grind | grind (ematch := 40) (gen := 40) (splits := 40) | lia)) ?_
                  rintro ⟨y, hz⟩ ⟨πz, sz_s, sz_t, sz_d, Tz, zz, Rz, g0, g1, g2, g3, g4⟩
                  try dsimp only at *
                  exact ⟨_, _, _, _, Tz, (by clear ih; first | with_reducible assumption | grind | grind (ematch := 40) (gen := 40) (splits := 40) | lia), Rz, (by clear ih; first | with_reducible assumption | grind | grind (ematch := 40) (gen := 40) (splits := 40) | lia), (by clear ih; first | with_reducible assumption | grind | grind (ematch := 40) (gen := 40) (splits := 40) | lia), (by clear ih; first | with_reducible assumption | grind | grind (ematch := 40) (gen := 40) (splits := 40) | lia), (by clear ih; first | with_reducible assumption | grind | grind (ematch := 40) (gen := 40) (splits := 40) | lia), (by clear ih; exact g4)⟩
                · skip
                  unfold f_Ed_substitute_136
                  refine qk_bs ?_
                  refine r_Cmd_o Tr8i39 kv1 ?_
                  refine c_Cmd_replaces (v0 := v1) (v1 := (v2 + 1)) Tr8i39 kv1 ?_
                  intro yr3i50 gr3i50_0
                  dsimp only
                  refine qk_if (fun cc51 => ?_) (fun cc51 => ?_)
                  · skip
                    unfold f_Ed_substitute_177
                    refine r_Ed_8 Tr8i39 kv0 ?_
                    intro kx1i52
                    refine r_Ma_1 Tr8i39 kx1i52 ?_
                    intro x2i52 ex2i52 lx2i52 ux2i52
                    subst ex2i52
                    refine qk_if (fun cc53 => absurd cc53 (by decide)) (fun _ => ?_)
                    refine r_Ed_8 Tr8i39 kv0 ?_
                    intro kx7i52
                    refine r_Ma_1 Tr8i39 kx7i52 ?_
                    intro x8i52 ex8i52 lx8i52 ux8i52
                    subst ex8i52
                    refine qk_bs ?_
                    refine qk_bs ?_
                    refine qk_mono (ih _ _ _ _ _ (v0) (v1) ((v2 + 1)) (v3) (v4) ((vI hr8i39 (v0 + 9) 1)) (((vI hr8i39 (v0 + 9) 1) + 1)) ((v7 + 1)) hr8i39 Tr8i39 kv0 kv1 ksp psp_r8i39 kho pho_r8i39 kdr pdr_r8i39 kpg ppg_r8i39 (by clear ih; first | with_reducible assumption | grind | grind (ematch := 40) (gen := 40) (splits := 40) | lia) (by clear ih; first | with_reducible assumption | grind | grind (ematch := 40) (gen := 40) (splits := 40) | lia) (by clear ih; first | with_reducible assumption | grind | grind (ematch := 40) (gen := 40) (splits := 40) | lia) (by clear ih; first | with_reducible assumption | grind | grind (ematch := 40) (gen := 40) (splits := 40) | lia) (by clear ih; first | with_reducible assumption | grind | grind (ematch := 40) (gen := 40) (splits := 40) | lia) (by clear ih; first | with_reducible assumption | grind | grind (ematch := 40) (gen := 40) (splits := 40) | lia) (by clear ih; first | with_reducible assumption | grind | grind (ematch := 40) (gen := 40) (splits := 40) | lia) (by clear ih; first | with_reducible assumption | grind | grind (ematch := 40) (gen := 40) (splits := 40) | lia) (by clear ih; first | with_reducible assumption | grind | grind (ematch := 40) (gen := 40) (splits := 40) | lia) (by clear ih; first | with_reducible assumption | grind | grind (ematch := 40) (gen := 40) (splits := 40) | lia) (by clear ih; first | with_reducible assumption | grind | grind (ematch := 40) (gen := 40) (splits := 40) | lia) (by clear ih; first | with_reducible assumption | grind | grind (ematch := 40) (gen := 40) (splits := 40) | lia) (by clear ih; first | with_reducible assumption | grind | grind (ematch := 40) (gen := 40) (splits := 40) | lia) (by clear ih; first | exact PS | exact q_PW_eq2 PS (by grind) (by grind) (by grind) (by grind) (by grind) (by grind) (by grind)) (by clear ih; first | with_reducible assumption | grind | grind (ematch := 40) (gen := 40) (splits := 40) | lia) (by clear ih; first | with_reducible assumption | grind | grind (ematch := 40) (gen := 40) (splits := 40) | lia) (by clear ih; first | with_reducible assumption | grind | grind (ematch := 40) (gen := 40) (splits := 40) | lia) (by clear ih; first | with_reducible assumption | grind | grind (ematch := 40) (gen := 40) (splits := 40) | lia) (by clear ih; first | with_reducible assumption | grind | grind (ematch := 40) (gen := 40) (splits := 40) | lia) (by clear ih; first | with_reducible assumption | grind | grind (ematch := 40) (gen := 40) (splits := 40) | lia) (by clear ih; first | with_reducible assumption | grind | grind (ematch := 40) (gen := 40) (splits := 40) | lia) (by clear ih; first | with_reducible assumption | grind | grind (ematch := 40) (gen := 40) (splits := 40) | lia)) ?_
                    rintro ⟨y, hz⟩ ⟨πz, sz_s, sz_t, sz_d, Tz, zz, Rz, g0, g1, g2, g3, g4⟩
                    try dsimp only at *
                    exact ⟨_, _, _, _, Tz, (by clear ih; first | with_reducible assumption | grind | grind (ematch := 40) (gen := 40) (splits := 40) | lia), Rz, (by clear ih; first | with_reducible assumption | grind | grind (ematch := 40) (gen := 40) (splits := 40) | lia), (by clear ih; first | with_reducible assumption | grind | grind (ematch := 40) (gen := 40) (splits := 40) | lia), (by clear ih; first | with_reducible assumption | grind | grind (ematch := 40) (gen := 40) (splits := 40) | lia), (by clear ih; first | with_reducible assumption | grind | grind (ematch := 40) (gen := 40) (splits := 40) | lia), (by clear ih; exact g4)⟩
                  · skip
                    refine r_Ed_8 Tr8i39 kv0 ?_
                    intro kx5i50
                    refine r_Ma_0 Tr8i39 kx5i50 ?_
                    intro x6i50 ex6i50 lx6i50 ux6i50
                    subst ex6i50
                    refine r_Ed_o Tr8i39 kv0 ?_
                    refine c_Ed_draftPart (v0 := v0) (v1 := v4) (v2 := (vI hr8i39 (v0 + 9) 0)) (sp := sp) (dr := dr) Tr8i39 kv0 ksp psp_r8i39 kdr pdr_r8i39 (by clear ih; first | with_reducible assumption | grind | grind (ematch := 40) (gen := 40) (splits := 40) | lia) (by clear ih; first | with_reducible assumption | grind | grind (ematch := 40) (gen := 40) (splits := 40) | lia) (by clear ih; first | with_reducible assumption | grind | grind (ematch := 40) (gen := 40) (splits := 40) | lia) (by clear ih; first | with_reducible assumption | grind | grind (ematch := 40) (gen := 40) (splits := 40) | lia) (by clear ih; first | with_reducible assumption | grind | grind (ematch := 40) (gen := 40) (splits := 40) | lia) (by clear ih; first | with_reducible assumption | grind | grind (ematch := 40) (gen := 40) (splits := 40) | lia) (by clear ih; first | with_reducible assumption | grind | grind (ematch := 40) (gen := 40) (splits := 40) | lia) ?_
                    intro yr8i50 hr8i50 Tr8i50 gr8i50_0 gr8i50_1 gr8i50_2
                    try dsimp only
                    refine qk_zx (fun x9i50 ex9i50 => ?_) (fun Ex9i50 ex9i50 => ?_)
                    · skip
                      refine r_Ed_o Tr8i50 kv0 ?_
                      refine c_Ed_draftReplacement (v0 := v0) (v1 := v1) (sp := sp) (dr := dr) (pg := pg) Tr8i50 kv0 kv1 ksp psp_r8i39 kdr pdr_r8i39 kpg ppg_r8i39 (by clear ih; first | with_reducible assumption | grind | grind (ematch := 40) (gen := 40) (splits := 40) | lia) (by clear ih; first | with_reducible assumption | grind | grind (ematch := 40) (gen := 40) (splits := 40) | lia) (by clear ih; first | with_reducible assumption | grind | grind (ematch := 40) (gen := 40) (splits := 40) | lia) (by clear ih; first | with_reducible assumption | grind | grind (ematch := 40) (gen := 40) (splits := 40) | lia) (by clear ih; first | with_reducible assumption | grind | grind (ematch := 40) (gen := 40) (splits := 40) | lia) ?_
                      intro yr14i50 hr14i50 Tr14i50 gr14i50_0 gr14i50_1 gr14i50_2
                      try dsimp only
                      refine qk_zx (fun x15i50 ex15i50 => ?_) (fun Ex15i50 ex15i50 => ?_)
                      · skip
                        refine r_Ed_8 Tr14i50 kv0 ?_
                        intro kx19i50
                        refine r_Ma_1 Tr14i50 kx19i50 ?_
                        intro x20i50 ex20i50 lx20i50 ux20i50
                        subst ex20i50
                        refine qk_bs ?_
                        unfold f_Ed_substitute_177
                        refine r_Ed_8 Tr14i50 kv0 ?_
                        intro kx1i55
                        refine r_Ma_1 Tr14i50 kx1i55 ?_
                        intro x2i55 ex2i55 lx2i55 ux2i55
                        subst ex2i55
                        refine qk_if (fun cc56 => absurd cc56 (by decide)) (fun _ => ?_)
                        refine r_Ed_8 Tr14i50 kv0 ?_
                        intro kx7i55
                        refine r_Ma_1 Tr14i50 kx7i55 ?_
                        intro x8i55 ex8i55 lx8i55 ux8i55
                        subst ex8i55
                        refine qk_bs ?_
                        refine qk_bs ?_
                        refine qk_mono (ih _ _ _ _ _ (v0) (v1) ((v2 + 1)) ((v3 + 1)) ((vI hr14i50 (v0 + 9) 1)) ((vI hr14i50 (v0 + 9) 1)) (((vI hr14i50 (v0 + 9) 1) + 1)) ((v7 + 1)) hr14i50 Tr14i50 kv0 kv1 ksp psp_r8i39 kho pho_r8i39 kdr pdr_r8i39 kpg ppg_r8i39 (by clear ih; first | with_reducible assumption | grind | grind (ematch := 40) (gen := 40) (splits := 40) | lia) (by clear ih; first | with_reducible assumption | grind | grind (ematch := 40) (gen := 40) (splits := 40) | lia) (by clear ih; first | with_reducible assumption | grind | grind (ematch := 40) (gen := 40) (splits := 40) | lia) (by clear ih; first | with_reducible assumption | grind | grind (ematch := 40) (gen := 40) (splits := 40) | lia) (by clear ih; first | with_reducible assumption | grind | grind (ematch := 40) (gen := 40) (splits := 40) | lia) (by clear ih; first | with_reducible assumption | grind | grind (ematch := 40) (gen := 40) (splits := 40) | lia) (by clear ih; first | with_reducible assumption | grind | grind (ematch := 40) (gen := 40) (splits := 40) | lia) (by clear ih; first | with_reducible assumption | grind | grind (ematch := 40) (gen := 40) (splits := 40) | lia) (by clear ih; first | with_reducible assumption | grind | grind (ematch := 40) (gen := 40) (splits := 40) | lia) (by clear ih; first | with_reducible assumption | grind | grind (ematch := 40) (gen := 40) (splits := 40) | lia) (by clear ih; first | with_reducible assumption | grind | grind (ematch := 40) (gen := 40) (splits := 40) | lia) (by clear ih; first | with_reducible assumption | grind | grind (ematch := 40) (gen := 40) (splits := 40) | lia) (by clear ih; first | with_reducible assumption | grind | grind (ematch := 40) (gen := 40) (splits := 40) | lia) (by clear ih; first | exact PS | exact q_PW_eq2 PS (by grind) (by grind) (by grind) (by grind) (by grind) (by grind) (by grind)) (by clear ih; first | with_reducible assumption | grind | grind (ematch := 40) (gen := 40) (splits := 40) | lia) (by clear ih; first | with_reducible assumption | grind | grind (ematch := 40) (gen := 40) (splits := 40) | lia) (by clear ih; first | with_reducible assumption | grind | grind (ematch := 40) (gen := 40) (splits := 40) | lia) (by clear ih; first | with_reducible assumption | grind | grind (ematch := 40) (gen := 40) (splits := 40) | lia) (by clear ih; first | with_reducible assumption | grind | grind (ematch := 40) (gen := 40) (splits := 40) | lia) (by clear ih; first | with_reducible assumption | grind | grind (ematch := 40) (gen := 40) (splits := 40) | lia) (by clear ih; first | with_reducible assumption | grind | grind (ematch := 40) (gen := 40) (splits := 40) | lia) (by clear ih; first | with_reducible assumption | grind | grind (ematch := 40) (gen := 40) (splits := 40) | lia)) ?_
                        rintro ⟨y, hz⟩ ⟨πz, sz_s, sz_t, sz_d, Tz, zz, Rz, g0, g1, g2, g3, g4⟩
                        try dsimp only at *
                        exact ⟨_, _, _, _, Tz, (by clear ih; first | with_reducible assumption | grind | grind (ematch := 40) (gen := 40) (splits := 40) | lia), Rz, (by clear ih; first | with_reducible assumption | grind | grind (ematch := 40) (gen := 40) (splits := 40) | lia), (by clear ih; first | with_reducible assumption | grind | grind (ematch := 40) (gen := 40) (splits := 40) | lia), (by clear ih; first | with_reducible assumption | grind | grind (ematch := 40) (gen := 40) (splits := 40) | lia), (by clear ih; first | with_reducible assumption | grind | grind (ematch := 40) (gen := 40) (splits := 40) | lia), (by clear ih; exact g4)⟩
                      · skip
                        exact ⟨_, sp, ho, dr, Tr14i50, (by clear ih; first | with_reducible assumption | grind | grind (ematch := 40) (gen := 40) (splits := 40) | lia), ⟨psp_r8i39, pho_r8i39, pdr_r8i39, ksp, kho, kdr, (by clear ih; first | with_reducible assumption | grind | grind (ematch := 40) (gen := 40) (splits := 40) | lia), (by clear ih; first | with_reducible assumption | grind | grind (ematch := 40) (gen := 40) (splits := 40) | lia), (by clear ih; first | with_reducible assumption | grind | grind (ematch := 40) (gen := 40) (splits := 40) | lia), (by clear ih; first | with_reducible assumption | grind | grind (ematch := 40) (gen := 40) (splits := 40) | lia), (by clear ih; first | with_reducible assumption | grind | grind (ematch := 40) (gen := 40) (splits := 40) | lia), (by clear ih; first | with_reducible assumption | grind | grind (ematch := 40) (gen := 40) (splits := 40) | lia), (by clear ih; first | with_reducible assumption | grind | grind (ematch := 40) (gen := 40) (splits := 40) | lia), (by clear ih; first | with_reducible assumption | grind | grind (ematch := 40) (gen := 40) (splits := 40) | lia), (by clear ih; first | with_reducible assumption | grind | grind (ematch := 40) (gen := 40) (splits := 40) | lia)⟩, (by clear ih; first | with_reducible assumption | grind | grind (ematch := 40) (gen := 40) (splits := 40) | lia), (by clear ih; first | with_reducible assumption | grind | grind (ematch := 40) (gen := 40) (splits := 40) | lia), (by clear ih; first | with_reducible assumption | grind | grind (ematch := 40) (gen := 40) (splits := 40) | lia), (by clear ih; first | with_reducible assumption | grind | grind (ematch := 40) (gen := 40) (splits := 40) | lia), (by clear ih; intro E eE; have z := Sum.inr.inj eE; subst z; exact gr14i50_2 _ ex15i50)⟩
                    · skip
                      exact ⟨_, sp, ho, dr, Tr8i50, (by clear ih; first | with_reducible assumption | grind | grind (ematch := 40) (gen := 40) (splits := 40) | lia), ⟨psp_r8i39, pho_r8i39, pdr_r8i39, ksp, kho, kdr, (by clear ih; first | with_reducible assumption | grind | grind (ematch := 40) (gen := 40) (splits := 40) | lia), (by clear ih; first | with_reducible assumption | grind | grind (ematch := 40) (gen := 40) (splits := 40) | lia), (by clear ih; first | with_reducible assumption | grind | grind (ematch := 40) (gen := 40) (splits := 40) | lia), (by clear ih; first | with_reducible assumption | grind | grind (ematch := 40) (gen := 40) (splits := 40) | lia), (by clear ih; first | with_reducible assumption | grind | grind (ematch := 40) (gen := 40) (splits := 40) | lia), (by clear ih; first | with_reducible assumption | grind | grind (ematch := 40) (gen := 40) (splits := 40) | lia), (by clear ih; first | with_reducible assumption | grind | grind (ematch := 40) (gen := 40) (splits := 40) | lia), (by clear ih; first | with_reducible assumption | grind | grind (ematch := 40) (gen := 40) (splits := 40) | lia), (by clear ih; first | with_reducible assumption | grind | grind (ematch := 40) (gen := 40) (splits := 40) | lia)⟩, (by clear ih; first | with_reducible assumption | grind | grind (ematch := 40) (gen := 40) (splits := 40) | lia), (by clear ih; first | with_reducible assumption | grind | grind (ematch := 40) (gen := 40) (splits := 40) | lia), (by clear ih; first | with_reducible assumption | grind | grind (ematch := 40) (gen := 40) (splits := 40) | lia), (by clear ih; first | with_reducible assumption | grind | grind (ematch := 40) (gen := 40) (splits := 40) | lia), (by clear ih; intro E eE; have z := Sum.inr.inj eE; subst z; exact gr8i50_2 _ ex9i50)⟩
              · skip
                unfold f_Ed_substitute_117
                refine qk_if (fun _ => ?_) (fun cc59 => absurd (by decide) cc59)
                unfold f_Ed_substitute_136
                refine qk_bs ?_
                refine r_Cmd_o Tr8i39 kv1 ?_
                refine c_Cmd_replaces (v0 := v1) (v1 := (v2 + 1)) Tr8i39 kv1 ?_
                intro yr3i60 gr3i60_0
                dsimp only
                refine qk_if (fun cc61 => ?_) (fun cc61 => ?_)
                · skip
                  unfold f_Ed_substitute_177
                  refine r_Ed_8 Tr8i39 kv0 ?_
                  intro kx1i62
                  refine r_Ma_1 Tr8i39 kx1i62 ?_
                  intro x2i62 ex2i62 lx2i62 ux2i62
                  subst ex2i62
                  refine qk_if (fun _ => ?_) (fun cc63 => absurd (by decide) cc63)
                  refine r_Ed_8 Tr8i39 kv0 ?_
                  intro kx4i62
                  refine r_Ma_1 Tr8i39 kx4i62 ?_
                  intro x5i62 ex5i62 lx5i62 ux5i62
                  subst ex5i62
                  refine qk_bs ?_
                  refine qk_mono (ih _ _ _ _ _ (v0) (v1) ((v2 + 1)) (v3) (v4) ((vI hr8i39 (v0 + 9) 1)) ((vI hr8i39 (v0 + 9) 1)) ((v7 + 1)) hr8i39 Tr8i39 kv0 kv1 ksp psp_r8i39 kho pho_r8i39 kdr pdr_r8i39 kpg ppg_r8i39 (by clear ih; first | with_reducible assumption | grind | grind (ematch := 40) (gen := 40) (splits := 40) | lia) (by clear ih; first | with_reducible assumption | grind | grind (ematch := 40) (gen := 40) (splits := 40) | lia) (by clear ih; first | with_reducible assumption | grind | grind (ematch := 40) (gen := 40) (splits := 40) | lia) (by clear ih; first | with_reducible assumption | grind | grind (ematch := 40) (gen := 40) (splits := 40) | lia) (by clear ih; first | with_reducible assumption | grind | grind (ematch := 40) (gen := 40) (splits := 40) | lia) (by clear ih; first | with_reducible assumption | grind | grind (ematch := 40) (gen := 40) (splits := 40) | lia) (by clear ih; first | with_reducible assumption | grind | grind (ematch := 40) (gen := 40) (splits := 40) | lia) (by clear ih; first | with_reducible assumption | grind | grind (ematch := 40) (gen := 40) (splits := 40) | lia) (by clear ih; first | with_reducible assumption | grind | grind (ematch := 40) (gen := 40) (splits := 40) | lia) (by clear ih; first | with_reducible assumption | grind | grind (ematch := 40) (gen := 40) (splits := 40) | lia) (by clear ih; first | with_reducible assumption | grind | grind (ematch := 40) (gen := 40) (splits := 40) | lia) (by clear ih; first | with_reducible assumption | grind | grind (ematch := 40) (gen := 40) (splits := 40) | lia) (by clear ih; first | with_reducible assumption | grind | grind (ematch := 40) (gen := 40) (splits := 40) | lia) (by clear ih; first | exact PS | exact q_PW_eq2 PS (by grind) (by grind) (by grind) (by grind) (by grind) (by grind) (by grind)) (by clear ih; first | with_reducible assumption | grind | grind (ematch := 40) (gen := 40) (splits := 40) | lia) (by clear ih; first | with_reducible assumption | grind | grind (ematch := 40) (gen := 40) (splits := 40) | lia) (by clear ih; first | with_reducible assumption | grind | grind (ematch := 40) (gen := 40) (splits := 40) | lia) (by clear ih; first | with_reducible assumption | grind | grind (ematch := 40) (gen := 40) (splits := 40) | lia) (by clear ih; first | with_reducible assumption | grind | grind (ematch := 40) (gen := 40) (splits := 40) | lia) (by clear ih; first | with_reducible assumption | grind | grind (ematch := 40) (gen := 40) (splits := 40) | lia) (by clear ih; first | with_reducible assumption | grind | grind (ematch := 40) (gen := 40) (splits := 40) | lia) (by clear ih; first | with_reducible assumption | grind | grind (ematch := 40) (gen := 40) (splits := 40) | lia)) ?_
                  rintro ⟨y, hz⟩ ⟨πz, sz_s, sz_t, sz_d, Tz, zz, Rz, g0, g1, g2, g3, g4⟩
                  try dsimp only at *
                  exact ⟨_, _, _, _, Tz, (by clear ih; first | with_reducible assumption | grind | grind (ematch := 40) (gen := 40) (splits := 40) | lia), Rz, (by clear ih; first | with_reducible assumption | grind | grind (ematch := 40) (gen := 40) (splits := 40) | lia), (by clear ih; first | with_reducible assumption | grind | grind (ematch := 40) (gen := 40) (splits := 40) | lia), (by clear ih; first | with_reducible assumption | grind | grind (ematch := 40) (gen := 40) (splits := 40) | lia), (by clear ih; first | with_reducible assumption | grind | grind (ematch := 40) (gen := 40) (splits := 40) | lia), (by clear ih; exact g4)⟩
                · skip
                  refine r_Ed_8 Tr8i39 kv0 ?_
                  intro kx5i60
                  refine r_Ma_0 Tr8i39 kx5i60 ?_
                  intro x6i60 ex6i60 lx6i60 ux6i60
                  subst ex6i60
                  refine r_Ed_o Tr8i39 kv0 ?_
                  refine c_Ed_draftPart (v0 := v0) (v1 := v4) (v2 := (vI hr8i39 (v0 + 9) 0)) (sp := sp) (dr := dr) Tr8i39 kv0 ksp psp_r8i39 kdr pdr_r8i39 (by clear ih; first | with_reducible assumption | grind | grind (ematch := 40) (gen := 40) (splits := 40) | lia) (by clear ih; first | with_reducible assumption | grind | grind (ematch := 40) (gen := 40) (splits := 40) | lia) (by clear ih; first | with_reducible assumption | grind | grind (ematch := 40) (gen := 40) (splits := 40) | lia) (by clear ih; first | with_reducible assumption | grind | grind (ematch := 40) (gen := 40) (splits := 40) | lia) (by clear ih; first | with_reducible assumption | grind | grind (ematch := 40) (gen := 40) (splits := 40) | lia) (by clear ih; first | with_reducible assumption | grind | grind (ematch := 40) (gen := 40) (splits := 40) | lia) (by clear ih; first | with_reducible assumption | grind | grind (ematch := 40) (gen := 40) (splits := 40) | lia) ?_
                  intro yr8i60 hr8i60 Tr8i60 gr8i60_0 gr8i60_1 gr8i60_2
                  try dsimp only
                  refine qk_zx (fun x9i60 ex9i60 => ?_) (fun Ex9i60 ex9i60 => ?_)
                  · skip
                    refine r_Ed_o Tr8i60 kv0 ?_
                    refine c_Ed_draftReplacement (v0 := v0) (v1 := v1) (sp := sp) (dr := dr) (pg := pg) Tr8i60 kv0 kv1 ksp psp_r8i39 kdr pdr_r8i39 kpg ppg_r8i39 (by clear ih; first | with_reducible assumption | grind | grind (ematch := 40) (gen := 40) (splits := 40) | lia) (by clear ih; first | with_reducible assumption | grind | grind (ematch := 40) (gen := 40) (splits := 40) | lia) (by clear ih; first | with_reducible assumption | grind | grind (ematch := 40) (gen := 40) (splits := 40) | lia) (by clear ih; first | with_reducible assumption | grind | grind (ematch := 40) (gen := 40) (splits := 40) | lia) (by clear ih; first | with_reducible assumption | grind | grind (ematch := 40) (gen := 40) (splits := 40) | lia) ?_
                    intro yr14i60 hr14i60 Tr14i60 gr14i60_0 gr14i60_1 gr14i60_2
                    try dsimp only
                    refine qk_zx (fun x15i60 ex15i60 => ?_) (fun Ex15i60 ex15i60 => ?_)
                    · skip
                      refine r_Ed_8 Tr14i60 kv0 ?_
                      intro kx19i60
                      refine r_Ma_1 Tr14i60 kx19i60 ?_
                      intro x20i60 ex20i60 lx20i60 ux20i60
                      subst ex20i60
                      refine qk_bs ?_
                      unfold f_Ed_substitute_177
                      refine r_Ed_8 Tr14i60 kv0 ?_
                      intro kx1i65
                      refine r_Ma_1 Tr14i60 kx1i65 ?_
                      intro x2i65 ex2i65 lx2i65 ux2i65
                      subst ex2i65
                      refine qk_if (fun _ => ?_) (fun cc66 => absurd (by decide) cc66)
                      refine r_Ed_8 Tr14i60 kv0 ?_
                      intro kx4i65
                      refine r_Ma_1 Tr14i60 kx4i65 ?_
                      intro x5i65 ex5i65 lx5i65 ux5i65
                      subst ex5i65
                      refine qk_bs ?_
                      refine qk_mono (ih _ _ _ _ _ (v0) (v1) ((v2 + 1)) ((v3 + 1)) ((vI hr14i60 (v0 + 9) 1)) ((vI hr14i60 (v0 + 9) 1)) ((vI hr14i60 (v0 + 9) 1)) ((v7 + 1)) hr14i60 Tr14i60 kv0 kv1 ksp psp_r8i39 kho pho_r8i39 kdr pdr_r8i39 kpg ppg_r8i39 (by clear ih; first | with_reducible assumption | grind | grind (ematch := 40) (gen := 40) (splits := 40) | lia) (by clear ih; first | with_reducible assumption | grind | grind (ematch := 40) (gen := 40) (splits := 40) | lia) (by clear ih; first | with_reducible assumption | grind | grind (ematch := 40) (gen := 40) (splits := 40) | lia) (by clear ih; first | with_reducible assumption | grind | grind (ematch := 40) (gen := 40) (splits := 40) | lia) (by clear ih; first | with_reducible assumption | grind | grind (ematch := 40) (gen := 40) (splits := 40) | lia) (by clear ih; first | with_reducible assumption | grind | grind (ematch := 40) (gen := 40) (splits := 40) | lia) (by clear ih; first | with_reducible assumption | grind | grind (ematch := 40) (gen := 40) (splits := 40) | lia) (by clear ih; first | with_reducible assumption | grind | grind (ematch := 40) (gen := 40) (splits := 40) | lia) (by clear ih; first | with_reducible assumption | grind | grind (ematch := 40) (gen := 40) (splits := 40) | lia) (by clear ih; first | with_reducible assumption | grind | grind (ematch := 40) (gen := 40) (splits := 40) | lia) (by clear ih; first | with_reducible assumption | grind | grind (ematch := 40) (gen := 40) (splits := 40) | lia) (by clear ih; first | with_reducible assumption | grind | grind (ematch := 40) (gen := 40) (splits := 40) | lia) (by clear ih; first | with_reducible assumption | grind | grind (ematch := 40) (gen := 40) (splits := 40) | lia) (by clear ih; first | exact PS | exact q_PW_eq2 PS (by grind) (by grind) (by grind) (by grind) (by grind) (by grind) (by grind)) (by clear ih; first | with_reducible assumption | grind | grind (ematch := 40) (gen := 40) (splits := 40) | lia) (by clear ih; first | with_reducible assumption | grind | grind (ematch := 40) (gen := 40) (splits := 40) | lia) (by clear ih; first | with_reducible assumption | grind | grind (ematch := 40) (gen := 40) (splits := 40) | lia) (by clear ih; first | with_reducible assumption | grind | grind (ematch := 40) (gen := 40) (splits := 40) | lia) (by clear ih; first | with_reducible assumption | grind | grind (ematch := 40) (gen := 40) (splits := 40) | lia) (by clear ih; first | with_reducible assumption | grind | grind (ematch := 40) (gen := 40) (splits := 40) | lia) (by clear ih; first | with_reducible assumption | grind | grind (ematch := 40) (gen := 40) (splits := 40) | lia) (by clear ih; first | with_reducible assumption | grind | grind (ematch := 40) (gen := 40) (splits := 40) | lia)) ?_
                      rintro ⟨y, hz⟩ ⟨πz, sz_s, sz_t, sz_d, Tz, zz, Rz, g0, g1, g2, g3, g4⟩
                      try dsimp only at *
                      exact ⟨_, _, _, _, Tz, (by clear ih; first | with_reducible assumption | grind | grind (ematch := 40) (gen := 40) (splits := 40) | lia), Rz, (by clear ih; first | with_reducible assumption | grind | grind (ematch := 40) (gen := 40) (splits := 40) | lia), (by clear ih; first | with_reducible assumption | grind | grind (ematch := 40) (gen := 40) (splits := 40) | lia), (by clear ih; first | with_reducible assumption | grind | grind (ematch := 40) (gen := 40) (splits := 40) | lia), (by clear ih; first | with_reducible assumption | grind | grind (ematch := 40) (gen := 40) (splits := 40) | lia), (by clear ih; exact g4)⟩
                    · skip
                      exact ⟨_, sp, ho, dr, Tr14i60, (by clear ih; first | with_reducible assumption | grind | grind (ematch := 40) (gen := 40) (splits := 40) | lia), ⟨psp_r8i39, pho_r8i39, pdr_r8i39, ksp, kho, kdr, (by clear ih; first | with_reducible assumption | grind | grind (ematch := 40) (gen := 40) (splits := 40) | lia), (by clear ih; first | with_reducible assumption | grind | grind (ematch := 40) (gen := 40) (splits := 40) | lia), (by clear ih; first | with_reducible assumption | grind | grind (ematch := 40) (gen := 40) (splits := 40) | lia), (by clear ih; first | with_reducible assumption | grind | grind (ematch := 40) (gen := 40) (splits := 40) | lia), (by clear ih; first | with_reducible assumption | grind | grind (ematch := 40) (gen := 40) (splits := 40) | lia), (by clear ih; first | with_reducible assumption | grind | grind (ematch := 40) (gen := 40) (splits := 40) | lia), (by clear ih; first | with_reducible assumption | grind | grind (ematch := 40) (gen := 40) (splits := 40) | lia), (by clear ih; first | with_reducible assumption | grind | grind (ematch := 40) (gen := 40) (splits := 40) | lia), (by clear ih; first | with_reducible assumption | grind | grind (ematch := 40) (gen := 40) (splits := 40) | lia)⟩, (by clear ih; first | with_reducible assumption | grind | grind (ematch := 40) (gen := 40) (splits := 40) | lia), (by clear ih; first | with_reducible assumption | grind | grind (ematch := 40) (gen := 40) (splits := 40) | lia), (by clear ih; first | with_reducible assumption | grind | grind (ematch := 40) (gen := 40) (splits := 40) | lia), (by clear ih; first | with_reducible assumption | grind | grind (ematch := 40) (gen := 40) (splits := 40) | lia), (by clear ih; intro E eE; have z := Sum.inr.inj eE; subst z; exact gr14i60_2 _ ex15i60)⟩
                  · skip
                    exact ⟨_, sp, ho, dr, Tr8i60, (by clear ih; first | with_reducible assumption | grind | grind (ematch := 40) (gen := 40) (splits := 40) | lia), ⟨psp_r8i39, pho_r8i39, pdr_r8i39, ksp, kho, kdr, (by clear ih; first | with_reducible assumption | grind | grind (ematch := 40) (gen := 40) (splits := 40) | lia), (by clear ih; first | with_reducible assumption | grind | grind (ematch := 40) (gen := 40) (splits := 40) | lia), (by clear ih; first | with_reducible assumption | grind | grind (ematch := 40) (gen := 40) (splits := 40) | lia), (by clear ih; first | with_reducible assumption | grind | grind (ematch := 40) (gen := 40) (splits := 40) | lia), (by clear ih; first | with_reducible assumption | grind | grind (ematch := 40) (gen := 40) (splits := 40) | lia), (by clear ih; first | with_reducible assumption | grind | grind (ematch := 40) (gen := 40) (splits := 40) | lia), (by clear ih; first | with_reducible assumption | grind | grind (ematch := 40) (gen := 40) (splits := 40) | lia), (by clear ih; first | with_reducible assumption | grind | grind (ematch := 40) (gen := 40) (splits := 40) | lia), (by clear ih; first | with_reducible assumption | grind | grind (ematch := 40) (gen := 40) (splits := 40) | lia)⟩, (by clear ih; first | with_reducible assumption | grind | grind (ematch := 40) (gen := 40) (splits := 40) | lia), (by clear ih; first | with_reducible assumption | grind | grind (ematch := 40) (gen := 40) (splits := 40) | lia), (by clear ih; first | with_reducible assumption | grind | grind (ematch := 40) (gen := 40) (splits := 40) | lia), (by clear ih; first | with_reducible assumption | grind | grind (ematch := 40) (gen := 40) (splits := 40) | lia), (by clear ih; intro E eE; have z := Sum.inr.inj eE; subst z; exact gr8i60_2 _ ex9i60)⟩
theorem p_Ed_substitute_23 {L : q_L} {W : Nat → Prop} {h0 : z_H} {π : Nat → Nat → Option Nat} {N : Nat} {sp : Nat} {ho : Nat} {dr : Nat} {pg : Nat} {h : z_H} {v0 : Nat} {v1 : Nat} {v2 : Int32} {v3 : Int32} {v4 : Int32} {v5 : Int32} {v6 : Int32} {v7 : Int32} (T : q_U L W h0 π h) (kv0 : qκ L v0 = 4) (kv1 : qκ L v1 = 2) (ksp : qκ L sp = 11) (psp : π v0 1 = some sp) (kho : qκ L ho = 11) (pho : π v0 2 = some ho) (kdr : qκ L dr = 11) (pdr : π v0 9 = some dr) (kpg : qκ L pg = 10) (ppg : π v0 10 = some pg) (wE : ∀ a, v0 ≤ a → a < v0 + 16 → W a) (bsp1 : v0 + 3 ≤ sp) (bsp2 : sp + 2 ≤ v0 + 16) (bsp3 : sp ≠ v0 + 7) (bho1 : v0 + 3 ≤ ho) (bho2 : ho + 2 ≤ v0 + 16) (bho3 : ho ≠ v0 + 7) (bdr1 : v0 + 3 ≤ dr) (bdr2 : dr + 2 ≤ v0 + 16) (bdr3 : dr ≠ v0 + 7) (hpg : v0 + 16 ≤ pg) (hc1 : pg + 9 ≤ v1) (hc2 : v1 + 6 ≤ pg + 249) (PS : q_PW h (pg + 3) (v1 + 5)) (b0 : 0 ≤ v4) (b1 : v4 ≤ 1000) (c0 : 0 ≤ v6) (c1 : v6 ≤ 601) (d0 : 0 ≤ v7) (d1 : v7 ≤ 61) (hN : 100000 ≤ N) : qk (f_Ed_substitute_23 N  N v0 v1 v2 v3 v4 v5 v6 v7 h) (fun r => ∃ π1 s1 t1 d1, q_U L W h0 π1 r.2 ∧ (∀ a k, ¬ (a = v0 ∧ (k = 1 ∨ k = 2 ∨ k = 9)) → ¬ (a = v0 + 9 ∧ (k = 2 ∨ k = 3 ∨ k = 4)) → π1 a k = π a k) ∧ q_R L π1 v0 s1 t1 d1 ∧ (∀ a k, ¬ (v0 ≤ a ∧ a < v0 + 16) → vI r.2 a k = vI h a k) ∧ (∀ a j, 0 ≤ j → ¬ (v0 ≤ a ∧ a < v0 + 16) → vA r.2 a j = vA h a j) ∧ (vI r.2 v0 3 = vI h v0 3) ∧ (vI r.2 v0 12 = vI h v0 12) ∧ (∀ E, r.1 = .inr E → E = xE3 ∨ E = xE4)) := by
  have hq := q_qnN hN
  have hr_sp := q_rowhi T ksp
  have hr_ho := q_rowhi T kho
  have hr_dr := q_rowhi T kdr
  refine p_Ed_substitute_23_n (q_lo (M := 62) (by decide) (by decide)) N _ _ _ _ _ v0 v1 v2 v3 v4 v5 v6 v7 h T kv0 kv1 ksp psp kho pho kdr pdr kpg ppg wE bsp1 bsp2 bsp3 bho1 bho2 bho3 bdr1 bdr2 bdr3 hpg hc1 hc2 PS b0 b1 c0 c1 d0 d1 hN ?_ 
  show 62 - q_n N ≤ _
  rw [hq]
  lia

set_option maxHeartbeats 2000000 in
theorem p_Ed_substitute {L : q_L} {W : Nat → Prop} {h0 : z_H} {π : Nat → Nat → Option Nat} {N : Nat} {sp : Nat} {ho : Nat} {dr : Nat} {pg : Nat} {h : z_H} {v0 : Nat} {v1 : Nat} (T : q_U L W h0 π h) (kv0 : qκ L v0 = 4) (kv1 : qκ L v1 = 2) (ksp : qκ L sp = 11) (psp : π v0 1 = some sp) (kho : qκ L ho = 11) (pho : π v0 2 = some ho) (kdr : qκ L dr = 11) (pdr : π v0 9 = some dr) (kpg : qκ L pg = 10) (ppg : π v0 10 = some pg) (wE : ∀ a, v0 ≤ a → a < v0 + 16 → W a) (bsp1 : v0 + 3 ≤ sp) (bsp2 : sp + 2 ≤ v0 + 16) (bsp3 : sp ≠ v0 + 7) (bho1 : v0 + 3 ≤ ho) (bho2 : ho + 2 ≤ v0 + 16) (bho3 : ho ≠ v0 + 7) (bdr1 : v0 + 3 ≤ dr) (bdr2 : dr + 2 ≤ v0 + 16) (bdr3 : dr ≠ v0 + 7) (hpg : v0 + 16 ≤ pg) (hc1 : pg + 9 ≤ v1) (hc2 : v1 + 6 ≤ pg + 249) (PS : q_PW h (pg + 3) (v1 + 5)) (hN : 100000 ≤ N) : qk (f_Ed_substitute N v0 v1 h) (fun r => ∃ π1 s1 t1 d1, q_U L W h0 π1 r.2 ∧ (∀ a k, ¬ (a = v0 ∧ (k = 1 ∨ k = 2 ∨ k = 9)) → ¬ (a = v0 + 9 ∧ (k = 2 ∨ k = 3 ∨ k = 4)) → π1 a k = π a k) ∧ q_R L π1 v0 s1 t1 d1 ∧ (∀ a k, ¬ (v0 ≤ a ∧ a < v0 + 16) → vI r.2 a k = vI h a k) ∧ (∀ a j, 0 ≤ j → ¬ (v0 ≤ a ∧ a < v0 + 16) → vA r.2 a j = vA h a j) ∧ (vI r.2 v0 3 = vI h v0 3) ∧ (vI r.2 v0 12 = vI h v0 12) ∧ (∀ E, r.1 = .inr E → E = xE3 ∨ E = xE4)) := by
  have hr_sp := q_rowhi T ksp
  have hr_ho := q_rowhi T kho
  have hr_dr := q_rowhi T kdr
  have ced := q_CEd T kv0
  unfold q_C_Ed at ced
  unfold f_Ed_substitute
  refine r_Ed_9 T kv0 pdr ?_
  refine r_Row_o T kdr ?_
  refine c_Row_empty (v0 := dr) T kdr (by first | with_reducible assumption | grind | grind (ematch := 40) (gen := 40) (splits := 40) | lia) ?_
  intro r3 Tr3 gr3_0 gr3_1
  refine qk_bs ?_
  refine qk_mono (p_Ed_substitute_23 (v0 := v0) (v1 := v1) (v2 := 0) (v3 := 0) (v4 := 0) (v5 := ((-1))) (v6 := 0) (v7 := 0) (sp := sp) (ho := ho) (dr := dr) (pg := pg) Tr3 kv0 kv1 ksp psp kho pho kdr pdr kpg ppg (by first | with_reducible assumption | grind | grind (ematch := 40) (gen := 40) (splits := 40) | lia) (by first | with_reducible assumption | grind | grind (ematch := 40) (gen := 40) (splits := 40) | lia) (by first | with_reducible assumption | grind | grind (ematch := 40) (gen := 40) (splits := 40) | lia) (by first | with_reducible assumption | grind | grind (ematch := 40) (gen := 40) (splits := 40) | lia) (by first | with_reducible assumption | grind | grind (ematch := 40) (gen := 40) (splits := 40) | lia) (by first | with_reducible assumption | grind | grind (ematch := 40) (gen := 40) (splits := 40) | lia) (by first | with_reducible assumption | grind | grind (ematch := 40) (gen := 40) (splits := 40) | lia) (by first | with_reducible assumption | grind | grind (ematch := 40) (gen := 40) (splits := 40) | lia) (by first | with_reducible assumption | grind | grind (ematch := 40) (gen := 40) (splits := 40) | lia) (by first | with_reducible assumption | grind | grind (ematch := 40) (gen := 40) (splits := 40) | lia) (by first | with_reducible assumption | grind | grind (ematch := 40) (gen := 40) (splits := 40) | lia) (by first | with_reducible assumption | grind | grind (ematch := 40) (gen := 40) (splits := 40) | lia) (by first | with_reducible assumption | grind | grind (ematch := 40) (gen := 40) (splits := 40) | lia) (by first | exact PS | exact q_PW_eq2 PS (by grind) (by grind) (by grind) (by grind) (by grind) (by grind) (by grind)) (by first | with_reducible assumption | grind | grind (ematch := 40) (gen := 40) (splits := 40) | lia) (by first | with_reducible assumption | grind | grind (ematch := 40) (gen := 40) (splits := 40) | lia) (by first | with_reducible assumption | grind | grind (ematch := 40) (gen := 40) (splits := 40) | lia) (by first | with_reducible assumption | grind | grind (ematch := 40) (gen := 40) (splits := 40) | lia) (by first | with_reducible assumption | grind | grind (ematch := 40) (gen := 40) (splits := 40) | lia) (by first | with_reducible assumption | grind | grind (ematch := 40) (gen := 40) (splits := 40) | lia) (by first | with_reducible assumption | grind | grind (ematch := 40) (gen := 40) (splits := 40) | lia)) ?_
  rintro ⟨y, hz⟩ ⟨πz, sz_s, sz_t, sz_d, Tz, zz, Rz, g0, g1, g2, g3, g4⟩
  try dsimp only at *
  exact ⟨_, _, _, _, Tz, (by first | with_reducible assumption | grind | grind (ematch := 40) (gen := 40) (splits := 40) | lia), Rz, (by first | with_reducible assumption | grind | grind (ematch := 40) (gen := 40) (splits := 40) | lia), (by first | with_reducible assumption | grind | grind (ematch := 40) (gen := 40) (splits := 40) | lia), (by first | with_reducible assumption | grind | grind (ematch := 40) (gen := 40) (splits := 40) | lia), (by first | with_reducible assumption | grind | grind (ematch := 40) (gen := 40) (splits := 40) | lia), (by exact g4)⟩
theorem c_Ed_substitute {L : q_L} {W : Nat → Prop} {h0 : z_H} {π : Nat → Nat → Option Nat} {N : Nat} {sp : Nat} {ho : Nat} {dr : Nat} {pg : Nat} {h : z_H} {v0 : Nat} {v1 : Nat} {β : Type} {f : (Unit ⊕ String) × z_H → Option β} {Q : β → Prop} (T : q_U L W h0 π h) (kv0 : qκ L v0 = 4) (kv1 : qκ L v1 = 2) (ksp : qκ L sp = 11) (psp : π v0 1 = some sp) (kho : qκ L ho = 11) (pho : π v0 2 = some ho) (kdr : qκ L dr = 11) (pdr : π v0 9 = some dr) (kpg : qκ L pg = 10) (ppg : π v0 10 = some pg) (wE : ∀ a, v0 ≤ a → a < v0 + 16 → W a) (bsp1 : v0 + 3 ≤ sp) (bsp2 : sp + 2 ≤ v0 + 16) (bsp3 : sp ≠ v0 + 7) (bho1 : v0 + 3 ≤ ho) (bho2 : ho + 2 ≤ v0 + 16) (bho3 : ho ≠ v0 + 7) (bdr1 : v0 + 3 ≤ dr) (bdr2 : dr + 2 ≤ v0 + 16) (bdr3 : dr ≠ v0 + 7) (hpg : v0 + 16 ≤ pg) (hc1 : pg + 9 ≤ v1) (hc2 : v1 + 6 ≤ pg + 249) (PS : q_PW h (pg + 3) (v1 + 5)) (hN : 100000 ≤ N) (H : ∀ y π1 s1 t1 d1 h', q_U L W h0 π1 h' → (∀ a k, ¬ (a = v0 ∧ (k = 1 ∨ k = 2 ∨ k = 9)) → ¬ (a = v0 + 9 ∧ (k = 2 ∨ k = 3 ∨ k = 4)) → π1 a k = π a k) → q_R L π1 v0 s1 t1 d1 → (∀ a k, ¬ (v0 ≤ a ∧ a < v0 + 16) → vI h' a k = vI h a k) → (∀ a j, 0 ≤ j → ¬ (v0 ≤ a ∧ a < v0 + 16) → vA h' a j = vA h a j) → (vI h' v0 3 = vI h v0 3) → (vI h' v0 12 = vI h v0 12) → (∀ E, y = .inr E → E = xE3 ∨ E = xE4) → qk (f (y, h')) Q) : qk (z_b (f_Ed_substitute N v0 v1 h) f) Q := by
  refine qk_b (p_Ed_substitute T kv0 kv1 ksp psp kho pho kdr pdr kpg ppg wE bsp1 bsp2 bsp3 bho1 bho2 bho3 bdr1 bdr2 bdr3 hpg hc1 hc2 PS hN) ?_
  rintro ⟨y, hz⟩ ⟨π1, s1, t1, d1, Tz, zz, Rz, g0, g1, g2, g3, g4⟩
  exact H y π1 s1 t1 d1 hz Tz zz Rz g0 g1 g2 g3 g4
