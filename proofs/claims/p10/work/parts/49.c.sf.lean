set_option maxHeartbeats 4000000 in
theorem p_SF_parse {L : q_L} {W : Nat → Prop} {h0 : z_H} {π : Nat → Nat → Option Nat} {N : Nat} {p : Nat} {q : Nat} {h : z_H} {v0 : Nat} (T : q_U L W h0 π h) (kv0 : qκ L v0 = 12) (kp : qκ L p = 10) (pp : π v0 6 = some p) (kq : qκ L q = 10) (pq : π v0 7 = some q) (ppc : π ((v0 + 4) + 2) 0 = some ((v0 + 4) + 1)) (wS : ∀ a, v0 ≤ a → a < v0 + 552 → W a) (hq1 : v0 + 30 ≤ q) (hq2 : q + 249 ≤ v0 + 552) (hN : 100000 ≤ N) : qk (f_SF_parse N v0 h) (fun r => ∃ π1, q_U L W h0 π1 r.2 ∧ (∀ a k, ¬ (a = v0 ∧ k = 6) → ¬ (a = v0 ∧ k = 7) → ¬ (a = (v0 + 4) ∧ k = 5) → ¬ (a = (v0 + 4) ∧ k = 6) → ¬ (a = ((v0 + 4) + 1) ∧ k = 0) → ¬ (a = ((v0 + 4) + 2) ∧ k = 1) → ¬ (a = ((v0 + 4) + 2) ∧ k = 2) → π1 a k = π a k) ∧ (∀ n, r.1 = .inl n → π1 v0 6 = some q ∧ π1 v0 7 = some p ∧ q_PG r.2 q) ∧ (∀ E, r.1 = .inr E → E = xE1 ∧ π1 v0 6 = some p ∧ π1 v0 7 = some q) ∧ (∀ a k, ¬ (v0 + 4 ≤ a ∧ a < v0 + 9) → ¬ (q ≤ a ∧ a < q + 249) → ¬ (a = v0 ∧ (k = 8 ∨ k = 9)) → vI r.2 a k = vI h a k) ∧ (∀ a j, 0 ≤ j → ¬ (v0 + 4 ≤ a ∧ a < v0 + 9) → ¬ (q ≤ a ∧ a < q + 249) → vA r.2 a j = vA h a j)) := by
  have csf := q_CSF T kv0
  unfold q_C_SF at csf
  have hrs := q_rowhi T csf.1
  unfold f_SF_parse
  refine r_SF_2 T kv0 ?_
  intro kx1
  refine r_SF_0 T kv0 ?_
  intro kx2 px2
  refine r_SF_7 T kv0 pq ?_
  refine r_Pa_o T kx1 ?_
  refine c_Pa_read (v0 := (v0 + 4)) (v1 := (v0 + 1)) (v2 := q) T kx1 kx2 kq ppc (by first | with_reducible assumption | grind | grind (ematch := 40) (gen := 40) (splits := 40) | lia) (by first | with_reducible assumption | grind | grind (ematch := 40) (gen := 40) (splits := 40) | lia) (by first | with_reducible assumption | grind | grind (ematch := 40) (gen := 40) (splits := 40) | lia) (by first | with_reducible assumption | grind | grind (ematch := 40) (gen := 40) (splits := 40) | lia) ?_
  intro yr5 πr5 hr5 Tr5 zr5 zr5q0 zr5q1 gr5_0 gr5_1 gr5_2 gr5_3
  have pp_r5 : πr5 v0 6 = some p := by rw [zr5 v0 6 (by grind) (by grind) (by grind) (by grind) (by grind)]; exact pp
  have pq_r5 : πr5 v0 7 = some q := by rw [zr5 v0 7 (by grind) (by grind) (by grind) (by grind) (by grind)]; exact pq
  have ppc_r5 : πr5 ((v0 + 4) + 2) 0 = some ((v0 + 4) + 1) := by rw [zr5 ((v0 + 4) + 2) 0 (by grind) (by grind) (by grind) (by grind) (by grind)]; exact ppc
  dsimp only
  refine qk_if (fun cc1 => ?_) (fun cc1 => ?_)
  · skip
    refine r_SF_2 Tr5 kv0 ?_
    intro kx15
    refine r_Pa_o Tr5 kx15 ?_
    refine c_Pa_refusedAt (v0 := (v0 + 4)) Tr5 kx15 ?_
    intro yr17 
    dsimp only
    refine w_SF_9 Tr5 kv0 (by first | with_reducible assumption | grind | grind (ematch := 40) (gen := 40) (splits := 40) | lia) ?_
    intro h18 Th18 ih18 ah18
    refine qk_some ?_
    exact ⟨_, Th18, (by first | with_reducible assumption | grind | grind (ematch := 40) (gen := 40) (splits := 40) | lia), (by intro n eE; exact absurd eE (by simp)), (by intro E eE; have z := Sum.inr.inj eE; exact ⟨z.symm, by grind, by grind⟩), (by first | with_reducible assumption | grind | grind (ematch := 40) (gen := 40) (splits := 40) | lia), (by first | with_reducible assumption | grind | grind (ematch := 40) (gen := 40) (splits := 40) | lia)⟩
  · skip
    refine w_SF_9 Tr5 kv0 (by first | with_reducible assumption | grind | grind (ematch := 40) (gen := 40) (splits := 40) | lia) ?_
    intro h7 Th7 ih7 ah7
    refine r_SF_6 Th7 kv0 pp_r5 ?_
    refine r_SF_7 Th7 kv0 pq_r5 ?_
    refine w_SF_6 (q := q) Th7 kv0 (by first | with_reducible assumption | grind | grind (ematch := 40) (gen := 40) (splits := 40) | lia) ?_
    intro πh10 h10 Th10 ph10 ih10 ah10
    have pq_h10 : πh10 v0 7 = some q := by rw [ph10, if_neg (by grind)]; exact pq_r5
    have ppc_h10 : πh10 ((v0 + 4) + 2) 0 = some ((v0 + 4) + 1) := by rw [ph10, if_neg (by grind)]; exact ppc_r5
    have zr5q0_h10 : πh10 (v0 + 4) 5 = some q := by rw [ph10, if_neg (by grind)]; exact zr5q0
    have zr5q1_h10 : πh10 ((v0 + 4) + 1) 0 = some (q + 1) := by rw [ph10, if_neg (by grind)]; exact zr5q1
    have q2_h10 : πh10 v0 6 = some q := by rw [ph10, if_pos ⟨rfl, rfl⟩]
    refine w_SF_7 (q := p) Th10 kv0 (by first | with_reducible assumption | grind | grind (ematch := 40) (gen := 40) (splits := 40) | lia) ?_
    intro πh11 h11 Th11 ph11 ih11 ah11
    have ppc_h11 : πh11 ((v0 + 4) + 2) 0 = some ((v0 + 4) + 1) := by rw [ph11, if_neg (by grind)]; exact ppc_h10
    have zr5q0_h11 : πh11 (v0 + 4) 5 = some q := by rw [ph11, if_neg (by grind)]; exact zr5q0_h10
    have zr5q1_h11 : πh11 ((v0 + 4) + 1) 0 = some (q + 1) := by rw [ph11, if_neg (by grind)]; exact zr5q1_h10
    have q2_h11 : πh11 v0 6 = some q := by rw [ph11, if_neg (by grind)]; exact q2_h10
    have q3_h11 : πh11 v0 7 = some p := by rw [ph11, if_pos ⟨rfl, rfl⟩]
    refine w_SF_8 Th11 kv0 (by first | with_reducible assumption | grind | grind (ematch := 40) (gen := 40) (splits := 40) | lia) ?_
    intro h12 Th12 ih12 ah12
    refine r_SF_6 Th12 kv0 q2_h11 ?_
    refine r_Prog_3 Th12 kq ?_
    intro x14 ex14 lx14 ux14
    subst ex14
    refine qk_some ?_
    exact ⟨_, Th12, (by first | with_reducible assumption | grind | grind (ematch := 40) (gen := 40) (splits := 40) | lia), (by intro n eE; exact ⟨by grind, by grind, q_PG_eq (e := v0) (n := 4) (gr5_1 (by grind)) (by grind) (by grind) (by grind)⟩), (by intro E eE; exact absurd eE (by simp)), (by first | with_reducible assumption | grind | grind (ematch := 40) (gen := 40) (splits := 40) | lia), (by first | with_reducible assumption | grind | grind (ematch := 40) (gen := 40) (splits := 40) | lia)⟩
theorem c_SF_parse {L : q_L} {W : Nat → Prop} {h0 : z_H} {π : Nat → Nat → Option Nat} {N : Nat} {p : Nat} {q : Nat} {h : z_H} {v0 : Nat} {β : Type} {f : (Int32 ⊕ String) × z_H → Option β} {Q : β → Prop} (T : q_U L W h0 π h) (kv0 : qκ L v0 = 12) (kp : qκ L p = 10) (pp : π v0 6 = some p) (kq : qκ L q = 10) (pq : π v0 7 = some q) (ppc : π ((v0 + 4) + 2) 0 = some ((v0 + 4) + 1)) (wS : ∀ a, v0 ≤ a → a < v0 + 552 → W a) (hq1 : v0 + 30 ≤ q) (hq2 : q + 249 ≤ v0 + 552) (hN : 100000 ≤ N) (H : ∀ y π1 h', q_U L W h0 π1 h' → (∀ a k, ¬ (a = v0 ∧ k = 6) → ¬ (a = v0 ∧ k = 7) → ¬ (a = (v0 + 4) ∧ k = 5) → ¬ (a = (v0 + 4) ∧ k = 6) → ¬ (a = ((v0 + 4) + 1) ∧ k = 0) → ¬ (a = ((v0 + 4) + 2) ∧ k = 1) → ¬ (a = ((v0 + 4) + 2) ∧ k = 2) → π1 a k = π a k) → (∀ n, y = .inl n → π1 v0 6 = some q ∧ π1 v0 7 = some p ∧ q_PG h' q) → (∀ E, y = .inr E → E = xE1 ∧ π1 v0 6 = some p ∧ π1 v0 7 = some q) → (∀ a k, ¬ (v0 + 4 ≤ a ∧ a < v0 + 9) → ¬ (q ≤ a ∧ a < q + 249) → ¬ (a = v0 ∧ (k = 8 ∨ k = 9)) → vI h' a k = vI h a k) → (∀ a j, 0 ≤ j → ¬ (v0 + 4 ≤ a ∧ a < v0 + 9) → ¬ (q ≤ a ∧ a < q + 249) → vA h' a j = vA h a j) → qk (f (y, h')) Q) : qk (z_b (f_SF_parse N v0 h) f) Q := by
  refine qk_b (p_SF_parse T kv0 kp pp kq pq ppc wS hq1 hq2 hN) ?_
  rintro ⟨y, hz⟩ ⟨π1, Tz, z0, g0, g1, g2, g3⟩
  exact H y π1 hz Tz z0 g0 g1 g2 g3

set_option maxHeartbeats 4000000 in
theorem p_SF_run {L : q_L} {W : Nat → Prop} {h0 : z_H} {π : Nat → Nat → Option Nat} {N : Nat} {sp : Nat} {ho : Nat} {dr : Nat} {p : Nat} {h : z_H} {v0 : Nat} (T : q_U L W h0 π h) (kv0 : qκ L v0 = 12) (ksp : qκ L sp = 11) (psp : π (v0 + 9) 1 = some sp) (kho : qκ L ho = 11) (pho : π (v0 + 9) 2 = some ho) (kdr : qκ L dr = 11) (pdr : π (v0 + 9) 9 = some dr) (kp : qκ L p = 10) (pp : π v0 6 = some p) (wS : ∀ a, v0 ≤ a → a < v0 + 552 → W a) (R0 : q_R L π (v0 + 9) sp ho dr) (PG : q_PG h p) (hp1 : v0 + 30 ≤ p) (hp2 : p + 249 ≤ v0 + 552) (hN : 100000 ≤ N) : qk (f_SF_run N v0 h) (fun r => ∃ π1, q_U L W h0 π1 r.2 ∧ (∀ a k, ¬ (a = (v0 + 9) ∧ k = 1) → ¬ (a = (v0 + 9) ∧ k = 2) → ¬ (a = (v0 + 9) ∧ k = 9) → ¬ (a = (v0 + 9) ∧ k = 10) → ¬ (a = (v0 + 9) ∧ k = 11) → ¬ (a = ((v0 + 9) + 9) ∧ k = 2) → ¬ (a = ((v0 + 9) + 9) ∧ k = 3) → ¬ (a = ((v0 + 9) + 9) ∧ k = 4) → π1 a k = π a k) ∧ (∃ s1 t1 d1, q_R L π1 (v0 + 9) s1 t1 d1) ∧ (∀ E, r.1 = .inr E → E = xE2 ∨ E = xE3 ∨ E = xE4) ∧ (∀ a k, ¬ (v0 + 9 ≤ a ∧ a < v0 + 25) → k ≠ 15 → vI r.2 a k = vI h a k) ∧ (∀ a j, 0 ≤ j → ¬ (v0 + 9 ≤ a ∧ a < v0 + 25) → vA r.2 a j = vA h a j)) := by
  have hr_sp := q_rowhi T ksp
  have hr_ho := q_rowhi T kho
  have hr_dr := q_rowhi T kdr
  have csf := q_CSF T kv0
  unfold q_C_SF at csf
  have hrs := q_rowhi T csf.1
  have RZ := R0
  obtain ⟨_, _, _, _, _, _, q1, q2, q3, q4, q5, q6, q7, q8, q9⟩ := RZ
  have t5 := T.2.2.2.1 v0 5
  unfold f_SF_run
  refine r_SF_8 T kv0 ?_
  intro x1 ex1
  subst ex1
  refine qk_if (fun cc1 => ?_) (fun cc1 => ?_)
  · skip
    refine qk_some ?_
    exact ⟨_, T, (by first | with_reducible assumption | grind | grind (ematch := 40) (gen := 40) (splits := 40) | lia), (by exact ⟨_, _, _, R0⟩), (by intro E eE; exact Or.inl (Sum.inr.inj eE).symm), (by first | with_reducible assumption | grind | grind (ematch := 40) (gen := 40) (splits := 40) | lia), (by first | with_reducible assumption | grind | grind (ematch := 40) (gen := 40) (splits := 40) | lia)⟩
  · skip
    refine r_SF_3 T kv0 ?_
    intro kx3
    refine r_SF_6 T kv0 pp ?_
    refine r_SF_1 T kv0 ?_
    refine r_SF_5 T kv0 ?_
    intro x6 ex6 lx6 ux6
    subst ex6
    refine r_Ed_o T kx3 ?_
    refine c_Ed_edit (v0 := (v0 + 9)) (v1 := p) (v2 := (v0 + 3)) (v3 := (vI h v0 5)) (sf := v0) (sp := sp) (ho := ho) (dr := dr) T kx3 kp kv0 ksp psp kho pho kdr pdr (by first | with_reducible assumption | grind | grind (ematch := 40) (gen := 40) (splits := 40) | lia) (by first | with_reducible assumption | grind | grind (ematch := 40) (gen := 40) (splits := 40) | lia) (by first | with_reducible assumption | grind | grind (ematch := 40) (gen := 40) (splits := 40) | lia) (by first | with_reducible assumption | grind | grind (ematch := 40) (gen := 40) (splits := 40) | lia) (by first | with_reducible assumption | grind | grind (ematch := 40) (gen := 40) (splits := 40) | lia) (by first | with_reducible assumption | grind | grind (ematch := 40) (gen := 40) (splits := 40) | lia) (by first | with_reducible assumption | grind | grind (ematch := 40) (gen := 40) (splits := 40) | lia) (by first | with_reducible assumption | grind | grind (ematch := 40) (gen := 40) (splits := 40) | lia) (by first | with_reducible assumption | grind | grind (ematch := 40) (gen := 40) (splits := 40) | lia) (by first | with_reducible assumption | grind | grind (ematch := 40) (gen := 40) (splits := 40) | lia) (by first | with_reducible assumption | grind | grind (ematch := 40) (gen := 40) (splits := 40) | lia) (by first | with_reducible assumption | grind | grind (ematch := 40) (gen := 40) (splits := 40) | lia) (by rfl) (by first | with_reducible assumption | grind | grind (ematch := 40) (gen := 40) (splits := 40) | lia) (by first | with_reducible assumption | grind | grind (ematch := 40) (gen := 40) (splits := 40) | lia) (by first | with_reducible assumption | grind | grind (ematch := 40) (gen := 40) (splits := 40) | lia) (by first | with_reducible assumption | grind | grind (ematch := 40) (gen := 40) (splits := 40) | lia) ?_
    intro yr8 πr8 sr8_s sr8_t sr8_d hr8 Tr8 zr8 Rr8 gr8_0 gr8_1 gr8_2
    have RRr8 := Rr8
    obtain ⟨Rr8_0, Rr8_1, Rr8_2, Rr8_3, Rr8_4, Rr8_5, Rr8_6, Rr8_7, Rr8_8, Rr8_9, Rr8_10, Rr8_11, Rr8_12, Rr8_13, Rr8_14⟩ := Rr8
    have pp_r8 : πr8 v0 6 = some p := by rw [zr8 v0 6 (by grind) (by grind)]; exact pp
    try dsimp only
    refine qk_zx (fun x9 ex9 => ?_) (fun Ex9 ex9 => ?_)
    · skip
      refine r_SF_3 Tr8 kv0 ?_
      intro kx13
      refine r_Ed_0 Tr8 kx13 ?_
      intro kx14 px14
      refine r_Row_1 Tr8 kx14 ?_
      intro x15 ex15 lx15 ux15 mx15
      subst ex15
      refine qk_some ?_
      exact ⟨_, Tr8, (by first | with_reducible assumption | grind | grind (ematch := 40) (gen := 40) (splits := 40) | lia), (by exact ⟨_, _, _, RRr8⟩), (by intro E eE; exact absurd eE (by simp)), (by first | with_reducible assumption | grind | grind (ematch := 40) (gen := 40) (splits := 40) | lia), (by first | with_reducible assumption | grind | grind (ematch := 40) (gen := 40) (splits := 40) | lia)⟩
    · skip
      exact ⟨_, Tr8, (by first | with_reducible assumption | grind | grind (ematch := 40) (gen := 40) (splits := 40) | lia), (by exact ⟨_, _, _, RRr8⟩), (by intro E eE; have z := Sum.inr.inj eE; subst z; exact Or.inr (gr8_2 _ ex9)), (by first | with_reducible assumption | grind | grind (ematch := 40) (gen := 40) (splits := 40) | lia), (by first | with_reducible assumption | grind | grind (ematch := 40) (gen := 40) (splits := 40) | lia)⟩
theorem c_SF_run {L : q_L} {W : Nat → Prop} {h0 : z_H} {π : Nat → Nat → Option Nat} {N : Nat} {sp : Nat} {ho : Nat} {dr : Nat} {p : Nat} {h : z_H} {v0 : Nat} {β : Type} {f : (Int32 ⊕ String) × z_H → Option β} {Q : β → Prop} (T : q_U L W h0 π h) (kv0 : qκ L v0 = 12) (ksp : qκ L sp = 11) (psp : π (v0 + 9) 1 = some sp) (kho : qκ L ho = 11) (pho : π (v0 + 9) 2 = some ho) (kdr : qκ L dr = 11) (pdr : π (v0 + 9) 9 = some dr) (kp : qκ L p = 10) (pp : π v0 6 = some p) (wS : ∀ a, v0 ≤ a → a < v0 + 552 → W a) (R0 : q_R L π (v0 + 9) sp ho dr) (PG : q_PG h p) (hp1 : v0 + 30 ≤ p) (hp2 : p + 249 ≤ v0 + 552) (hN : 100000 ≤ N) (H : ∀ y π1 h', q_U L W h0 π1 h' → (∀ a k, ¬ (a = (v0 + 9) ∧ k = 1) → ¬ (a = (v0 + 9) ∧ k = 2) → ¬ (a = (v0 + 9) ∧ k = 9) → ¬ (a = (v0 + 9) ∧ k = 10) → ¬ (a = (v0 + 9) ∧ k = 11) → ¬ (a = ((v0 + 9) + 9) ∧ k = 2) → ¬ (a = ((v0 + 9) + 9) ∧ k = 3) → ¬ (a = ((v0 + 9) + 9) ∧ k = 4) → π1 a k = π a k) → (∃ s1 t1 d1, q_R L π1 (v0 + 9) s1 t1 d1) → (∀ E, y = .inr E → E = xE2 ∨ E = xE3 ∨ E = xE4) → (∀ a k, ¬ (v0 + 9 ≤ a ∧ a < v0 + 25) → k ≠ 15 → vI h' a k = vI h a k) → (∀ a j, 0 ≤ j → ¬ (v0 + 9 ≤ a ∧ a < v0 + 25) → vA h' a j = vA h a j) → qk (f (y, h')) Q) : qk (z_b (f_SF_run N v0 h) f) Q := by
  refine qk_b (p_SF_run T kv0 ksp psp kho pho kdr pdr kp pp wS R0 PG hp1 hp2 hN) ?_
  rintro ⟨y, hz⟩ ⟨π1, Tz, z0, g0, g1, g2, g3⟩
  exact H y π1 hz Tz z0 g0 g1 g2 g3

set_option maxHeartbeats 4000000 in
theorem p_SF_match {L : q_L} {W : Nat → Prop} {h0 : z_H} {π : Nat → Nat → Option Nat} {N : Nat} {p : Nat} {h : z_H} {v0 : Nat} {v1 : Int32} {v2 : Int32} {v3 : Int32} (T : q_U L W h0 π h) (kv0 : qκ L v0 = 12) (kp : qκ L p = 10) (pp : π v0 6 = some p) (wS : ∀ a, v0 ≤ a → a < v0 + 552 → W a) (PG : q_PG h p) (hp1 : v0 + 30 ≤ p) (hp2 : p + 249 ≤ v0 + 552) (hN : 100000 ≤ N) : qk (f_SF_match N v0 v1 v2 v3 h) (fun r => ∃ π1, q_U L W h0 π1 r.2 ∧ (∀ a k, ¬ (a = (v0 + 25) ∧ k = 2) → ¬ (a = (v0 + 25) ∧ k = 3) → ¬ (a = (v0 + 25) ∧ k = 4) → π1 a k = π a k) ∧ (∀ E, r.1 = .inr E → E = xE1 ∨ E = xE2 ∨ E = xE3) ∧ (∀ a k, a ≠ v0 + 25 → vI r.2 a k = vI h a k) ∧ (∀ a j, 0 ≤ j → ¬ (v0 + 25 < a ∧ a < v0 + 30) → vA r.2 a j = vA h a j)) := by
  have csf := q_CSF T kv0
  unfold q_C_SF at csf
  have hrs := q_rowhi T csf.1
  have t5 := T.2.2.2.1 v0 5
  have cpg := q_CProg T kp
  unfold q_C_Prog at cpg
  have tp := T.2.2.2.1 p 3
  unfold f_SF_match
  refine qk_if (fun cc1 => ?_) (fun cc1 => ?_)
  · skip
    unfold f_SF_match_10
    refine qk_some ?_
    exact ⟨_, T, (by first | with_reducible assumption | grind | grind (ematch := 40) (gen := 40) (splits := 40) | lia), (by first | with_reducible assumption | grind | grind (ematch := 40) (gen := 40) (splits := 40) | lia), (by first | with_reducible assumption | grind | grind (ematch := 40) (gen := 40) (splits := 40) | lia), (by first | with_reducible assumption | grind | grind (ematch := 40) (gen := 40) (splits := 40) | lia)⟩
  · skip
    refine qk_if (fun cc3 => ?_) (fun cc3 => ?_)
    · skip
      refine r_SF_8 T kv0 ?_
      intro x3 ex3
      subst ex3
      refine qk_if (fun cc4 => ?_) (fun cc4 => ?_)
      · skip
        refine qk_some ?_
        exact ⟨_, T, (by first | with_reducible assumption | grind | grind (ematch := 40) (gen := 40) (splits := 40) | lia), (by first | with_reducible assumption | grind | grind (ematch := 40) (gen := 40) (splits := 40) | lia), (by first | with_reducible assumption | grind | grind (ematch := 40) (gen := 40) (splits := 40) | lia), (by first | with_reducible assumption | grind | grind (ematch := 40) (gen := 40) (splits := 40) | lia)⟩
      · skip
        refine qk_if (fun cc5 => ?_) (fun cc5 => ?_)
        · skip
          unfold f_SF_match_48
          refine qk_some ?_
          exact ⟨_, T, (by first | with_reducible assumption | grind | grind (ematch := 40) (gen := 40) (splits := 40) | lia), (by first | with_reducible assumption | grind | grind (ematch := 40) (gen := 40) (splits := 40) | lia), (by first | with_reducible assumption | grind | grind (ematch := 40) (gen := 40) (splits := 40) | lia), (by first | with_reducible assumption | grind | grind (ematch := 40) (gen := 40) (splits := 40) | lia)⟩
        · skip
          refine r_SF_6 T kv0 pp ?_
          refine r_Prog_3 T kp ?_
          intro x7 ex7 lx7 ux7
          subst ex7
          refine qk_if (fun cc7 => ?_) (fun cc7 => ?_)
          · skip
            refine r_SF_6 T kv0 pp ?_
            refine r_Prog_2 T kp ?_
            refine r_Prog_e8 T kp (by first | with_reducible assumption | grind | grind (ematch := 40) (gen := 40) (splits := 40) | lia) (by first | with_reducible assumption | grind | grind (ematch := 40) (gen := 40) (splits := 40) | lia) ?_
            intro kx11 bx11
            refine r_Cmd_3 T kx11 ?_
            intro x12 ex12
            subst ex12
            refine qk_if (fun cc8 => ?_) (fun cc8 => ?_)
            · skip
              refine qk_if (fun cc9 => ?_) (fun cc9 => ?_)
              · skip
                unfold f_SF_match_97
                refine qk_some ?_
                exact ⟨_, T, (by first | with_reducible assumption | grind | grind (ematch := 40) (gen := 40) (splits := 40) | lia), (by first | with_reducible assumption | grind | grind (ematch := 40) (gen := 40) (splits := 40) | lia), (by first | with_reducible assumption | grind | grind (ematch := 40) (gen := 40) (splits := 40) | lia), (by first | with_reducible assumption | grind | grind (ematch := 40) (gen := 40) (splits := 40) | lia)⟩
              · skip
                refine r_SF_5 T kv0 ?_
                intro x15 ex15 lx15 ux15
                subst ex15
                refine qk_if (fun cc11 => ?_) (fun cc11 => ?_)
                · skip
                  refine r_SF_4 T kv0 ?_
                  intro kx17
                  refine r_SF_6 T kv0 pp ?_
                  refine r_Prog_1 T kp ?_
                  intro kx19
                  refine r_Cmd_2 T kx11 ?_
                  intro kx20
                  refine r_SF_1 T kv0 ?_
                  refine r_SF_e3 T kv0 (by first | with_reducible assumption | grind | grind (ematch := 40) (gen := 40) (splits := 40) | lia) (by first | with_reducible assumption | grind | grind (ematch := 40) (gen := 40) (splits := 40) | lia) ?_
                  intro kx22 px22 bx22
                  have hrx22 := q_rowhi T kx22
                  refine r_Ma_o T kx17 ?_
                  refine c_Ma_find (v0 := (v0 + 25)) (v1 := (p + 3)) (v2 := ((p + (9 + 6 * Int32.toNatClampNeg v1)) + 5)) (v3 := (v0 + (528 + 2 * Int32.toNatClampNeg v2))) (v4 := 0) T kx17 kx19 kx20 kx22 (by first | with_reducible assumption | grind | grind (ematch := 40) (gen := 40) (splits := 40) | lia) (by first | with_reducible assumption | grind | grind (ematch := 40) (gen := 40) (splits := 40) | lia) (by first | with_reducible assumption | grind | grind (ematch := 40) (gen := 40) (splits := 40) | lia) (by first | with_reducible assumption | grind | grind (ematch := 40) (gen := 40) (splits := 40) | lia) (by first | with_reducible assumption | grind | grind (ematch := 40) (gen := 40) (splits := 40) | lia) (by exact ((PG _ (by grind) (by grind)).1.2.2 (by grind)).1) (by exact q_hg T kx19) (by first | with_reducible assumption | grind | grind (ematch := 40) (gen := 40) (splits := 40) | lia) (by first | with_reducible assumption | grind | grind (ematch := 40) (gen := 40) (splits := 40) | lia) (by first | with_reducible assumption | grind | grind (ematch := 40) (gen := 40) (splits := 40) | lia) ?_
                  intro yr24 πr24 hr24 Tr24 zr24 zr24q0 zr24q1 zr24q2 gr24_0 gr24_1 gr24_2 gr24_3
                  have pp_r24 : πr24 v0 6 = some p := by rw [zr24 v0 6 (by grind) (by grind) (by grind)]; exact pp
                  dsimp only
                  refine qk_if (fun cc12 => ?_) (fun cc12 => ?_)
                  · skip
                    refine qk_some ?_
                    exact ⟨_, Tr24, (by first | with_reducible assumption | grind | grind (ematch := 40) (gen := 40) (splits := 40) | lia), (by first | with_reducible assumption | grind | grind (ematch := 40) (gen := 40) (splits := 40) | lia), (by first | with_reducible assumption | grind | grind (ematch := 40) (gen := 40) (splits := 40) | lia), (by first | with_reducible assumption | grind | grind (ematch := 40) (gen := 40) (splits := 40) | lia)⟩
                  · skip
                    refine r_SF_4 Tr24 kv0 ?_
                    intro kx26
                    refine r_Ma_o Tr24 kx26 ?_
                    refine c_Ma_told (v0 := (v0 + 25)) (v1 := v3) (pt := ((p + (9 + 6 * Int32.toNatClampNeg v1)) + 5)) Tr24 kx26 kx20 zr24q1 (by first | with_reducible assumption | grind | grind (ematch := 40) (gen := 40) (splits := 40) | lia) (by first | with_reducible assumption | grind | grind (ematch := 40) (gen := 40) (splits := 40) | lia) ?_
                    intro yr28 
                    dsimp only
                    refine qk_some ?_
                    exact ⟨_, Tr24, (by first | with_reducible assumption | grind | grind (ematch := 40) (gen := 40) (splits := 40) | lia), (by first | with_reducible assumption | grind | grind (ematch := 40) (gen := 40) (splits := 40) | lia), (by first | with_reducible assumption | grind | grind (ematch := 40) (gen := 40) (splits := 40) | lia), (by first | with_reducible assumption | grind | grind (ematch := 40) (gen := 40) (splits := 40) | lia)⟩
                · skip
                  unfold f_SF_match_97
                  refine qk_some ?_
                  exact ⟨_, T, (by first | with_reducible assumption | grind | grind (ematch := 40) (gen := 40) (splits := 40) | lia), (by first | with_reducible assumption | grind | grind (ematch := 40) (gen := 40) (splits := 40) | lia), (by first | with_reducible assumption | grind | grind (ematch := 40) (gen := 40) (splits := 40) | lia), (by first | with_reducible assumption | grind | grind (ematch := 40) (gen := 40) (splits := 40) | lia)⟩
            · skip
              refine qk_some ?_
              exact ⟨_, T, (by first | with_reducible assumption | grind | grind (ematch := 40) (gen := 40) (splits := 40) | lia), (by first | with_reducible assumption | grind | grind (ematch := 40) (gen := 40) (splits := 40) | lia), (by first | with_reducible assumption | grind | grind (ematch := 40) (gen := 40) (splits := 40) | lia), (by first | with_reducible assumption | grind | grind (ematch := 40) (gen := 40) (splits := 40) | lia)⟩
          · skip
            unfold f_SF_match_48
            refine qk_some ?_
            exact ⟨_, T, (by first | with_reducible assumption | grind | grind (ematch := 40) (gen := 40) (splits := 40) | lia), (by first | with_reducible assumption | grind | grind (ematch := 40) (gen := 40) (splits := 40) | lia), (by first | with_reducible assumption | grind | grind (ematch := 40) (gen := 40) (splits := 40) | lia), (by first | with_reducible assumption | grind | grind (ematch := 40) (gen := 40) (splits := 40) | lia)⟩
    · skip
      unfold f_SF_match_10
      refine qk_some ?_
      exact ⟨_, T, (by first | with_reducible assumption | grind | grind (ematch := 40) (gen := 40) (splits := 40) | lia), (by first | with_reducible assumption | grind | grind (ematch := 40) (gen := 40) (splits := 40) | lia), (by first | with_reducible assumption | grind | grind (ematch := 40) (gen := 40) (splits := 40) | lia), (by first | with_reducible assumption | grind | grind (ematch := 40) (gen := 40) (splits := 40) | lia)⟩
theorem c_SF_match {L : q_L} {W : Nat → Prop} {h0 : z_H} {π : Nat → Nat → Option Nat} {N : Nat} {p : Nat} {h : z_H} {v0 : Nat} {v1 : Int32} {v2 : Int32} {v3 : Int32} {β : Type} {f : (Int32 ⊕ String) × z_H → Option β} {Q : β → Prop} (T : q_U L W h0 π h) (kv0 : qκ L v0 = 12) (kp : qκ L p = 10) (pp : π v0 6 = some p) (wS : ∀ a, v0 ≤ a → a < v0 + 552 → W a) (PG : q_PG h p) (hp1 : v0 + 30 ≤ p) (hp2 : p + 249 ≤ v0 + 552) (hN : 100000 ≤ N) (H : ∀ y π1 h', q_U L W h0 π1 h' → (∀ a k, ¬ (a = (v0 + 25) ∧ k = 2) → ¬ (a = (v0 + 25) ∧ k = 3) → ¬ (a = (v0 + 25) ∧ k = 4) → π1 a k = π a k) → (∀ E, y = .inr E → E = xE1 ∨ E = xE2 ∨ E = xE3) → (∀ a k, a ≠ v0 + 25 → vI h' a k = vI h a k) → (∀ a j, 0 ≤ j → ¬ (v0 + 25 < a ∧ a < v0 + 30) → vA h' a j = vA h a j) → qk (f (y, h')) Q) : qk (z_b (f_SF_match N v0 v1 v2 v3 h) f) Q := by
  refine qk_b (p_SF_match T kv0 kp pp wS PG hp1 hp2 hN) ?_
  rintro ⟨y, hz⟩ ⟨π1, Tz, z0, g0, g1, g2⟩
  exact H y π1 hz Tz z0 g0 g1 g2
