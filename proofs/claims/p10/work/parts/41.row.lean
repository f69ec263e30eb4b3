set_option maxHeartbeats 1000000 in
theorem p_Row_hasRoom {L : q_L} {W : Nat → Prop} {h0 : z_H} {π : Nat → Nat → Option Nat} {N : Nat} {h : z_H} {v0 : Nat} {v1 : Int32} (T : q_U L W h0 π h) (kv0 : qκ L v0 = 11)  : qk (f_Row_hasRoom N v0 v1 h) (fun r => r.2 = h ∧ (r.1 = 0 ∨ r.1 = 1) ∧ (r.1 = 0 ↔ qhi L v0 1 - vI h v0 1 < v1)) := by
  have hr_v0 := q_rowhi T kv0
  unfold f_Row_hasRoom
  refine r_Row_0 T kv0 ?_
  refine r_Row_n T kv0 ?_
  intro lx2 ux2
  refine r_Row_1 T kv0 ?_
  intro x3 ex3 lx3 ux3 mx3
  subst ex3
  refine qk_if (fun cc1 => ?_) (fun cc1 => ?_)
  · skip
    refine qk_some ?_
    exact ⟨rfl, (by first | with_reducible assumption | grind | grind (ematch := 40) (gen := 40) (liaSteps := 300000) | lia), (by first | with_reducible assumption | grind | grind (ematch := 40) (gen := 40) (liaSteps := 300000) | lia)⟩
  · skip
    refine qk_some ?_
    exact ⟨rfl, (by first | with_reducible assumption | grind | grind (ematch := 40) (gen := 40) (liaSteps := 300000) | lia), (by first | with_reducible assumption | grind | grind (ematch := 40) (gen := 40) (liaSteps := 300000) | lia)⟩
theorem c_Row_hasRoom {L : q_L} {W : Nat → Prop} {h0 : z_H} {π : Nat → Nat → Option Nat} {N : Nat} {h : z_H} {v0 : Nat} {v1 : Int32} {β : Type} {f : Int32 × z_H → Option β} {Q : β → Prop} (T : q_U L W h0 π h) (kv0 : qκ L v0 = 11)  (H : ∀ y, (y = 0 ∨ y = 1) → (y = 0 ↔ qhi L v0 1 - vI h v0 1 < v1) → qk (f (y, h)) Q) : qk (z_b (f_Row_hasRoom N v0 v1 h) f) Q := by
  refine qk_b (p_Row_hasRoom T kv0 ) ?_
  rintro ⟨y, hz⟩ ⟨hy, g0, g1⟩
  try dsimp only at *
  subst hy
  exact H y g0 g1

set_option maxHeartbeats 1000000 in
theorem p_Row_at {L : q_L} {W : Nat → Prop} {h0 : z_H} {π : Nat → Nat → Option Nat} {N : Nat} {h : z_H} {v0 : Nat} {v1 : Int32} (T : q_U L W h0 π h) (kv0 : qκ L v0 = 11)  : qk (f_Row_at N v0 v1 h) (fun r => r.2 = h ∧ ((r.1 = -1 ∧ (v1 < 0 ∨ vI h v0 1 ≤ v1)) ∨ (0 ≤ r.1 ∧ r.1 ≤ 65535 ∧ 0 ≤ v1 ∧ v1 < vI h v0 1 ∧ r.1 = vA h (v0 + 1) v1))) := by
  have hr_v0 := q_rowhi T kv0
  unfold f_Row_at
  refine qk_if (fun cc1 => ?_) (fun cc1 => ?_)
  · skip
    refine qk_some ?_
    exact ⟨rfl, (by first | with_reducible assumption | grind | grind (ematch := 40) (gen := 40) (liaSteps := 300000) | lia)⟩
  · skip
    refine r_Row_1 T kv0 ?_
    intro x2 ex2 lx2 ux2 mx2
    subst ex2
    refine qk_if (fun cc2 => ?_) (fun cc2 => ?_)
    · skip
      refine qk_some ?_
      exact ⟨rfl, (by first | with_reducible assumption | grind | grind (ematch := 40) (gen := 40) (liaSteps := 300000) | lia)⟩
    · skip
      refine r_Row_0 T kv0 ?_
      refine r_Row_e1 T kv0 (by first | with_reducible assumption | grind | grind (ematch := 40) (gen := 40) (liaSteps := 300000) | lia) (by first | with_reducible assumption | grind | grind (ematch := 40) (gen := 40) (liaSteps := 300000) | lia) ?_
      intro x5 ex5 lx5 ux5
      subst ex5
      refine qk_some ?_
      exact ⟨rfl, (by first | with_reducible assumption | grind | grind (ematch := 40) (gen := 40) (liaSteps := 300000) | lia)⟩
theorem c_Row_at {L : q_L} {W : Nat → Prop} {h0 : z_H} {π : Nat → Nat → Option Nat} {N : Nat} {h : z_H} {v0 : Nat} {v1 : Int32} {β : Type} {f : Int32 × z_H → Option β} {Q : β → Prop} (T : q_U L W h0 π h) (kv0 : qκ L v0 = 11)  (H : ∀ y, ((y = -1 ∧ (v1 < 0 ∨ vI h v0 1 ≤ v1)) ∨ (0 ≤ y ∧ y ≤ 65535 ∧ 0 ≤ v1 ∧ v1 < vI h v0 1 ∧ y = vA h (v0 + 1) v1)) → qk (f (y, h)) Q) : qk (z_b (f_Row_at N v0 v1 h) f) Q := by
  refine qk_b (p_Row_at T kv0 ) ?_
  rintro ⟨y, hz⟩ ⟨hy, g0⟩
  try dsimp only at *
  subst hy
  exact H y g0

set_option maxHeartbeats 1000000 in
theorem p_Row_empty {L : q_L} {W : Nat → Prop} {h0 : z_H} {π : Nat → Nat → Option Nat} {N : Nat} {h : z_H} {v0 : Nat} (T : q_U L W h0 π h) (kv0 : qκ L v0 = 11) (w0 : W v0) : qk (f_Row_empty N v0 h) (fun r => q_U L W h0 π r ∧ (∀ a k, vI r a k = if a = v0 ∧ k = 1 then 0 else vI h a k) ∧ (∀ a j, vA r a j = vA h a j)) := by
  have hr_v0 := q_rowhi T kv0
  unfold f_Row_empty
  refine w_Row_1 T kv0 (by first | with_reducible assumption | grind | grind (ematch := 40) (gen := 40) (liaSteps := 300000) | lia) (by first | with_reducible assumption | grind | grind (ematch := 40) (gen := 40) (liaSteps := 300000) | lia) (by first | with_reducible assumption | grind | grind (ematch := 40) (gen := 40) (liaSteps := 300000) | lia) ?_
  intro h1 Th1 ih1 ah1
  refine qk_some ?_
  exact ⟨Th1, (by first | with_reducible assumption | grind | grind (ematch := 40) (gen := 40) (liaSteps := 300000) | lia), (by first | with_reducible assumption | grind | grind (ematch := 40) (gen := 40) (liaSteps := 300000) | lia)⟩
theorem c_Row_empty {L : q_L} {W : Nat → Prop} {h0 : z_H} {π : Nat → Nat → Option Nat} {N : Nat} {h : z_H} {v0 : Nat} {β : Type} {f : z_H → Option β} {Q : β → Prop} (T : q_U L W h0 π h) (kv0 : qκ L v0 = 11) (w0 : W v0) (H : ∀ h', q_U L W h0 π h' → (∀ a k, vI h' a k = if a = v0 ∧ k = 1 then 0 else vI h a k) → (∀ a j, vA h' a j = vA h a j) → qk (f h') Q) : qk (z_b (f_Row_empty N v0 h) f) Q := by
  refine qk_b (p_Row_empty T kv0 w0) ?_
  rintro hz ⟨Tz, g0, g1⟩
  exact H hz Tz g0 g1

set_option maxHeartbeats 1000000 in
theorem p_Row_add {L : q_L} {W : Nat → Prop} {h0 : z_H} {π : Nat → Nat → Option Nat} {N : Nat} {h : z_H} {v0 : Nat} {v1 : Int32} (T : q_U L W h0 π h) (kv0 : qκ L v0 = 11) (w0 : W v0) (w1 : W (v0 + 1)) : qk (f_Row_add N v0 v1 h) (fun r => q_U L W h0 π r ∧ (∀ a k, vI r a k = if a = v0 ∧ k = 1 then (if qhi L v0 1 ≤ vI h v0 1 then vI h v0 1 else vI h v0 1 + 1) else vI h a k) ∧ (∀ a j, 0 ≤ j → a ≠ v0 + 1 → vA r a j = vA h a j)) := by
  have hr_v0 := q_rowhi T kv0
  unfold f_Row_add
  refine r_Row_1 T kv0 ?_
  intro x1 ex1 lx1 ux1 mx1
  subst ex1
  refine r_Row_0 T kv0 ?_
  refine r_Row_n T kv0 ?_
  intro lx3 ux3
  refine qk_if (fun cc1 => ?_) (fun cc1 => ?_)
  · skip
    refine qk_some ?_
    exact ⟨T, (by first | with_reducible assumption | grind | grind (ematch := 40) (gen := 40) (liaSteps := 300000) | lia), (by first | with_reducible assumption | grind | grind (ematch := 40) (gen := 40) (liaSteps := 300000) | lia)⟩
  · skip
    refine r_Row_0 T kv0 ?_
    refine r_Row_1 T kv0 ?_
    intro x6 ex6 lx6 ux6 mx6
    subst ex6
    refine w_Row_e1 T kv0 (by first | with_reducible assumption | grind | grind (ematch := 40) (gen := 40) (liaSteps := 300000) | lia) (by first | with_reducible assumption | grind | grind (ematch := 40) (gen := 40) (liaSteps := 300000) | lia) (by first | with_reducible assumption | grind | grind (ematch := 40) (gen := 40) (liaSteps := 300000) | lia) ?_
    intro h7 Th7 ih7 ah7
    refine r_Row_1 Th7 kv0 ?_
    intro x8 ex8 lx8 ux8 mx8
    subst ex8
    refine w_Row_1 Th7 kv0 (by first | with_reducible assumption | grind | grind (ematch := 40) (gen := 40) (liaSteps := 300000) | lia) (by first | with_reducible assumption | grind | grind (ematch := 40) (gen := 40) (liaSteps := 300000) | lia) (by first | with_reducible assumption | grind | grind (ematch := 40) (gen := 40) (liaSteps := 300000) | lia) ?_
    intro h9 Th9 ih9 ah9
    refine qk_some ?_
    exact ⟨Th9, (by first | with_reducible assumption | grind | grind (ematch := 40) (gen := 40) (liaSteps := 300000) | lia), (by first | with_reducible assumption | grind | grind (ematch := 40) (gen := 40) (liaSteps := 300000) | lia)⟩
theorem c_Row_add {L : q_L} {W : Nat → Prop} {h0 : z_H} {π : Nat → Nat → Option Nat} {N : Nat} {h : z_H} {v0 : Nat} {v1 : Int32} {β : Type} {f : z_H → Option β} {Q : β → Prop} (T : q_U L W h0 π h) (kv0 : qκ L v0 = 11) (w0 : W v0) (w1 : W (v0 + 1)) (H : ∀ h', q_U L W h0 π h' → (∀ a k, vI h' a k = if a = v0 ∧ k = 1 then (if qhi L v0 1 ≤ vI h v0 1 then vI h v0 1 else vI h v0 1 + 1) else vI h a k) → (∀ a j, 0 ≤ j → a ≠ v0 + 1 → vA h' a j = vA h a j) → qk (f h') Q) : qk (z_b (f_Row_add N v0 v1 h) f) Q := by
  refine qk_b (p_Row_add T kv0 w0 w1) ?_
  rintro hz ⟨Tz, g0, g1⟩
  exact H hz Tz g0 g1

set_option maxHeartbeats 1000000 in
theorem p_Row_addPart_3_n {L : q_L} {W : Nat → Prop} {h0 : z_H} {π : Nat → Nat → Option Nat} {N : Nat} {lo : Nat → Int32} (hqn : q_Q lo 1001) : ∀ (n : Nat) (v0 : Nat) (v1 : Nat) (v3 : Int32) (v4 : Int32) (h : z_H), q_U L W h0 π h → qκ L v0 = 11 → qκ L v1 = 11 → (W v0) → (W (v0 + 1)) → (0 ≤ v4) → (v4 ≤ 1000) → (lo n ≤ v4) → qk (f_Row_addPart_3 N  n v0 v1 v3 v4 h) (fun r => q_U L W h0 π r ∧ (∀ a k, ¬ (a = v0 ∧ k = 1) → vI r a k = vI h a k) ∧ (∀ a j, 0 ≤ j → a ≠ v0 + 1 → vA r a j = vA h a j)) := by
  intro n
  induction n with
  | zero => intro v0 v1 v3 v4 h T kv0 kv1 w0 w1 b0 b1 hms; have hr_v0 := q_rowhi T kv0; have hr_v1 := q_rowhi T kv1; have hz := hqn.1; exact absurd hms (by grind)
  | succ n ih =>
    intro v0 v1 v3 v4 h T kv0 kv1 w0 w1 b0 b1 hms
    obtain ⟨hq1, hq2, hq3⟩ := hqn.2 n
    rw [f_Row_addPart_3]
    have hr_v0 := q_rowhi T kv0
    have hr_v1 := q_rowhi T kv1
    refine qk_if (fun cc1 => ?_) (fun cc1 => ?_)
    · skip
      refine qk_some ?_
      exact ⟨T, (by clear ih; first | with_reducible assumption | grind | grind (ematch := 40) (gen := 40) (liaSteps := 300000) | lia), (by clear ih; first | with_reducible assumption | grind | grind (ematch := 40) (gen := 40) (liaSteps := 300000) | lia)⟩
    · skip
      refine r_Row_1 T kv1 ?_
      intro x2 ex2 lx2 ux2 mx2
      subst ex2
      refine qk_if (fun cc2 => ?_) (fun cc2 => ?_)
      · skip
        refine qk_some ?_
        exact ⟨T, (by clear ih; first | with_reducible assumption | grind | grind (ematch := 40) (gen := 40) (liaSteps := 300000) | lia), (by clear ih; first | with_reducible assumption | grind | grind (ematch := 40) (gen := 40) (liaSteps := 300000) | lia)⟩
      · skip
        refine r_Row_1 T kv0 ?_
        intro x4 ex4 lx4 ux4 mx4
        subst ex4
        refine r_Row_0 T kv0 ?_
        refine r_Row_n T kv0 ?_
        intro lx6 ux6
        refine qk_if (fun cc3 => ?_) (fun cc3 => ?_)
        · skip
          refine qk_some ?_
          exact ⟨T, (by clear ih; first | with_reducible assumption | grind | grind (ematch := 40) (gen := 40) (liaSteps := 300000) | lia), (by clear ih; first | with_reducible assumption | grind | grind (ematch := 40) (gen := 40) (liaSteps := 300000) | lia)⟩
        · skip
          refine r_Row_0 T kv0 ?_
          refine r_Row_1 T kv0 ?_
          intro x9 ex9 lx9 ux9 mx9
          subst ex9
          refine r_Row_0 T kv1 ?_
          refine r_Row_e1 T kv1 (by clear ih; first | with_reducible assumption | grind | grind (ematch := 40) (gen := 40) (liaSteps := 300000) | lia) (by clear ih; first | with_reducible assumption | grind | grind (ematch := 40) (gen := 40) (liaSteps := 300000) | lia) ?_
          intro x11 ex11 lx11 ux11
          subst ex11
          refine w_Row_e1 T kv0 (by clear ih; first | with_reducible assumption | grind | grind (ematch := 40) (gen := 40) (liaSteps := 300000) | lia) (by clear ih; first | with_reducible assumption | grind | grind (ematch := 40) (gen := 40) (liaSteps := 300000) | lia) (by clear ih; first | with_reducible assumption | grind | grind (ematch := 40) (gen := 40) (liaSteps := 300000) | lia) ?_
          intro h12 Th12 ih12 ah12
          refine r_Row_1 Th12 kv0 ?_
          intro x13 ex13 lx13 ux13 mx13
          subst ex13
          refine w_Row_1 Th12 kv0 (by clear ih; first | with_reducible assumption | grind | grind (ematch := 40) (gen := 40) (liaSteps := 300000) | lia) (by clear ih; first | with_reducible assumption | grind | grind (ematch := 40) (gen := 40) (liaSteps := 300000) | lia) (by clear ih; first | with_reducible assumption | grind | grind (ematch := 40) (gen := 40) (liaSteps := 300000) | lia) ?_
          intro h14 Th14 ih14 ah14
          refine qk_bs ?_
          refine qk_mono (ih (v0) (v1) (v3) ((v4 + 1)) h14 Th14 kv0 kv1 (by clear ih; first | with_reducible assumption | grind | grind (ematch := 40) (gen := 40) (liaSteps := 300000) | lia) (by clear ih; first | with_reducible assumption | grind | grind (ematch := 40) (gen := 40) (liaSteps := 300000) | lia) (by clear ih; first | with_reducible assumption | grind | grind (ematch := 40) (gen := 40) (liaSteps := 300000) | lia) (by clear ih; first | with_reducible assumption | grind | grind (ematch := 40) (gen := 40) (liaSteps := 300000) | lia) (by clear ih; first | with_reducible assumption | grind | grind (ematch := 40) (gen := 40) (liaSteps := 300000) | lia)) ?_
          rintro hz ⟨Tz, g0, g1⟩
          try dsimp only at *
          exact ⟨Tz, (by clear ih; first | with_reducible assumption | grind | grind (ematch := 40) (gen := 40) (liaSteps := 300000) | lia), (by clear ih; first | with_reducible assumption | grind | grind (ematch := 40) (gen := 40) (liaSteps := 300000) | lia)⟩
theorem p_Row_addPart_3 {L : q_L} {W : Nat → Prop} {h0 : z_H} {π : Nat → Nat → Option Nat} {N : Nat} {h : z_H} {v0 : Nat} {v1 : Nat} {v3 : Int32} {v4 : Int32} (T : q_U L W h0 π h) (kv0 : qκ L v0 = 11) (kv1 : qκ L v1 = 11) (w0 : W v0) (w1 : W (v0 + 1)) (b0 : 0 ≤ v4) (b1 : v4 ≤ 1000) (hN : 100000 ≤ N) : qk (f_Row_addPart_3 N  N v0 v1 v3 v4 h) (fun r => q_U L W h0 π r ∧ (∀ a k, ¬ (a = v0 ∧ k = 1) → vI r a k = vI h a k) ∧ (∀ a j, 0 ≤ j → a ≠ v0 + 1 → vA r a j = vA h a j)) := by
  have hq := q_qnN hN
  have hr_v0 := q_rowhi T kv0
  have hr_v1 := q_rowhi T kv1
  refine p_Row_addPart_3_n (q_lo (M := 1001) (by decide) (by decide)) N v0 v1 v3 v4 h T kv0 kv1 w0 w1 b0 b1 ?_ 
  show 1001 - q_n N ≤ _
  rw [hq]
  lia

set_option maxHeartbeats 1000000 in
theorem p_Row_addPart {L : q_L} {W : Nat → Prop} {h0 : z_H} {π : Nat → Nat → Option Nat} {N : Nat} {h : z_H} {v0 : Nat} {v1 : Nat} {v2 : Int32} {v3 : Int32} (T : q_U L W h0 π h) (kv0 : qκ L v0 = 11) (kv1 : qκ L v1 = 11) (w0 : W v0) (w1 : W (v0 + 1)) (b0 : 0 ≤ v2) (b1 : v2 ≤ 1000) (hN : 100000 ≤ N) : qk (f_Row_addPart N v0 v1 v2 v3 h) (fun r => q_U L W h0 π r ∧ (∀ a k, ¬ (a = v0 ∧ k = 1) → vI r a k = vI h a k) ∧ (∀ a j, 0 ≤ j → a ≠ v0 + 1 → vA r a j = vA h a j)) := by
  have hr_v0 := q_rowhi T kv0
  have hr_v1 := q_rowhi T kv1
  unfold f_Row_addPart
  refine qk_mono (p_Row_addPart_3 (v0 := v0) (v1 := v1) (v3 := v3) (v4 := v2) T kv0 kv1 (by first | with_reducible assumption | grind | grind (ematch := 40) (gen := 40) (liaSteps := 300000) | lia) (by first | with_reducible assumption | grind | grind (ematch := 40) (gen := 40) (liaSteps := 300000) | lia) (by first | with_reducible assumption | grind | grind (ematch := 40) (gen := 40) (liaSteps := 300000) | lia) (by first | with_reducible assumption | grind | grind (ematch := 40) (gen := 40) (liaSteps := 300000) | lia) (by first | with_reducible assumption | grind | grind (ematch := 40) (gen := 40) (liaSteps := 300000) | lia)) ?_
  rintro hz ⟨Tz, g0, g1⟩
  try dsimp only at *
  exact ⟨Tz, (by first | with_reducible assumption | grind | grind (ematch := 40) (gen := 40) (liaSteps := 300000) | lia), (by first | with_reducible assumption | grind | grind (ematch := 40) (gen := 40) (liaSteps := 300000) | lia)⟩
theorem c_Row_addPart {L : q_L} {W : Nat → Prop} {h0 : z_H} {π : Nat → Nat → Option Nat} {N : Nat} {h : z_H} {v0 : Nat} {v1 : Nat} {v2 : Int32} {v3 : Int32} {β : Type} {f : z_H → Option β} {Q : β → Prop} (T : q_U L W h0 π h) (kv0 : qκ L v0 = 11) (kv1 : qκ L v1 = 11) (w0 : W v0) (w1 : W (v0 + 1)) (b0 : 0 ≤ v2) (b1 : v2 ≤ 1000) (hN : 100000 ≤ N) (H : ∀ h', q_U L W h0 π h' → (∀ a k, ¬ (a = v0 ∧ k = 1) → vI h' a k = vI h a k) → (∀ a j, 0 ≤ j → a ≠ v0 + 1 → vA h' a j = vA h a j) → qk (f h') Q) : qk (z_b (f_Row_addPart N v0 v1 v2 v3 h) f) Q := by
  refine qk_b (p_Row_addPart T kv0 kv1 w0 w1 b0 b1 hN) ?_
  rintro hz ⟨Tz, g0, g1⟩
  exact H hz Tz g0 g1

set_option maxHeartbeats 1000000 in
theorem p_Row_dropFirst_2_n {L : q_L} {W : Nat → Prop} {h0 : z_H} {π : Nat → Nat → Option Nat} {N : Nat} {lo : Nat → Int32} (hqn : q_Q lo 1001) : ∀ (n : Nat) (v0 : Nat) (v1 : Int32) (v2 : Int32) (h : z_H), q_U L W h0 π h → qκ L v0 = 11 → (W v0) → (W (v0 + 1)) → (0 ≤ v1) → (v1 ≤ v2) → (v1 ≤ vI h v0 1) → (v2 ≤ vI h v0 1) → (lo n ≤ v2) → qk (f_Row_dropFirst_2 N  n v0 v1 v2 h) (fun r => q_U L W h0 π r ∧ (∀ a k, ¬ (a = v0 ∧ k = 1) → vI r a k = vI h a k) ∧ (∀ a j, 0 ≤ j → a ≠ v0 + 1 → vA r a j = vA h a j)) := by
  intro n
  induction n with
  | zero => intro v0 v1 v2 h T kv0 w0 w1 b0 b1 b2 b3 hms; have hr_v0 := q_rowhi T kv0; have hz := hqn.1; exact absurd hms (by grind)
  | succ n ih =>
    intro v0 v1 v2 h T kv0 w0 w1 b0 b1 b2 b3 hms
    obtain ⟨hq1, hq2, hq3⟩ := hqn.2 n
    rw [f_Row_dropFirst_2]
    have hr_v0 := q_rowhi T kv0
    refine r_Row_1 T kv0 ?_
    intro x1 ex1 lx1 ux1 mx1
    subst ex1
    refine qk_if (fun cc1 => ?_) (fun cc1 => ?_)
    · skip
      refine r_Row_1 T kv0 ?_
      intro x3 ex3 lx3 ux3 mx3
      subst ex3
      refine w_Row_1 T kv0 (by clear ih; first | with_reducible assumption | grind | grind (ematch := 40) (gen := 40) (liaSteps := 300000) | lia) (by clear ih; first | with_reducible assumption | grind | grind (ematch := 40) (gen := 40) (liaSteps := 300000) | lia) (by clear ih; first | with_reducible assumption | grind | grind (ematch := 40) (gen := 40) (liaSteps := 300000) | lia) ?_
      intro h4 Th4 ih4 ah4
      refine qk_some ?_
      exact ⟨Th4, (by clear ih; first | with_reducible assumption | grind | grind (ematch := 40) (gen := 40) (liaSteps := 300000) | lia), (by clear ih; first | with_reducible assumption | grind | grind (ematch := 40) (gen := 40) (liaSteps := 300000) | lia)⟩
    · skip
      refine r_Row_0 T kv0 ?_
      refine r_Row_0 T kv0 ?_
      refine r_Row_e1 T kv0 (by clear ih; first | with_reducible assumption | grind | grind (ematch := 40) (gen := 40) (liaSteps := 300000) | lia) (by clear ih; first | with_reducible assumption | grind | grind (ematch := 40) (gen := 40) (liaSteps := 300000) | lia) ?_
      intro x7 ex7 lx7 ux7
      subst ex7
      refine w_Row_e1 T kv0 (by clear ih; first | with_reducible assumption | grind | grind (ematch := 40) (gen := 40) (liaSteps := 300000) | lia) (by clear ih; first | with_reducible assumption | grind | grind (ematch := 40) (gen := 40) (liaSteps := 300000) | lia) (by clear ih; first | with_reducible assumption | grind | grind (ematch := 40) (gen := 40) (liaSteps := 300000) | lia) ?_
      intro h8 Th8 ih8 ah8
      refine qk_bs ?_
      refine qk_mono (ih (v0) (v1) ((v2 + 1)) h8 Th8 kv0 (by clear ih; first | with_reducible assumption | grind | grind (ematch := 40) (gen := 40) (liaSteps := 300000) | lia) (by clear ih; first | with_reducible assumption | grind | grind (ematch := 40) (gen := 40) (liaSteps := 300000) | lia) (by clear ih; first | with_reducible assumption | grind | grind (ematch := 40) (gen := 40) (liaSteps := 300000) | lia) (by clear ih; first | with_reducible assumption | grind | grind (ematch := 40) (gen := 40) (liaSteps := 300000) | lia) (by clear ih; first | with_reducible assumption | grind | grind (ematch := 40) (gen := 40) (liaSteps := 300000) | lia) (by clear ih; first | with_reducible assumption | grind | grind (ematch := 40) (gen := 40) (liaSteps := 300000) | lia) (by clear ih; first | with_reducible assumption | grind | grind (ematch := 40) (gen := 40) (liaSteps := 300000) | lia)) ?_
      rintro hz ⟨Tz, g0, g1⟩
      try dsimp only at *
      exact ⟨Tz, (by clear ih; first | with_reducible assumption | grind | grind (ematch := 40) (gen := 40) (liaSteps := 300000) | lia), (by clear ih; first | with_reducible assumption | grind | grind (ematch := 40) (gen := 40) (liaSteps := 300000) | lia)⟩
theorem p_Row_dropFirst_2 {L : q_L} {W : Nat → Prop} {h0 : z_H} {π : Nat → Nat → Option Nat} {N : Nat} {h : z_H} {v0 : Nat} {v1 : Int32} {v2 : Int32} (T : q_U L W h0 π h) (kv0 : qκ L v0 = 11) (w0 : W v0) (w1 : W (v0 + 1)) (b0 : 0 ≤ v1) (b1 : v1 ≤ v2) (b2 : v1 ≤ vI h v0 1) (b3 : v2 ≤ vI h v0 1) (hN : 100000 ≤ N) : qk (f_Row_dropFirst_2 N  N v0 v1 v2 h) (fun r => q_U L W h0 π r ∧ (∀ a k, ¬ (a = v0 ∧ k = 1) → vI r a k = vI h a k) ∧ (∀ a j, 0 ≤ j → a ≠ v0 + 1 → vA r a j = vA h a j)) := by
  have hq := q_qnN hN
  have hr_v0 := q_rowhi T kv0
  refine p_Row_dropFirst_2_n (q_lo (M := 1001) (by decide) (by decide)) N v0 v1 v2 h T kv0 w0 w1 b0 b1 b2 b3 ?_ 
  show 1001 - q_n N ≤ _
  rw [hq]
  lia

set_option maxHeartbeats 1000000 in
theorem p_Row_dropFirst {L : q_L} {W : Nat → Prop} {h0 : z_H} {π : Nat → Nat → Option Nat} {N : Nat} {h : z_H} {v0 : Nat} {v1 : Int32} (T : q_U L W h0 π h) (kv0 : qκ L v0 = 11) (w0 : W v0) (w1 : W (v0 + 1)) (b0 : 0 ≤ v1) (b2 : v1 ≤ vI h v0 1) (hN : 100000 ≤ N) : qk (f_Row_dropFirst N v0 v1 h) (fun r => q_U L W h0 π r ∧ (∀ a k, ¬ (a = v0 ∧ k = 1) → vI r a k = vI h a k) ∧ (∀ a j, 0 ≤ j → a ≠ v0 + 1 → vA r a j = vA h a j)) := by
  have hr_v0 := q_rowhi T kv0
  unfold f_Row_dropFirst
  refine qk_mono (p_Row_dropFirst_2 (v0 := v0) (v1 := v1) (v2 := v1) T kv0 (by first | with_reducible assumption | grind | grind (ematch := 40) (gen := 40) (liaSteps := 300000) | lia) (by first | with_reducible assumption | grind | grind (ematch := 40) (gen := 40) (liaSteps := 300000) | lia) (by first | with_reducible assumption | grind | grind (ematch := 40) (gen := 40) (liaSteps := 300000) | lia) (by first | with_reducible assumption | grind | grind (ematch := 40) (gen := 40) (liaSteps := 300000) | lia) (by first | with_reducible assumption | grind | grind (ematch := 40) (gen := 40) (liaSteps := 300000) | lia) (by first | with_reducible assumption | grind | grind (ematch := 40) (gen := 40) (liaSteps := 300000) | lia) (by first | with_reducible assumption | grind | grind (ematch := 40) (gen := 40) (liaSteps := 300000) | lia)) ?_
  rintro hz ⟨Tz, g0, g1⟩
  try dsimp only at *
  exact ⟨Tz, (by first | with_reducible assumption | grind | grind (ematch := 40) (gen := 40) (liaSteps := 300000) | lia), (by first | with_reducible assumption | grind | grind (ematch := 40) (gen := 40) (liaSteps := 300000) | lia)⟩
theorem c_Row_dropFirst {L : q_L} {W : Nat → Prop} {h0 : z_H} {π : Nat → Nat → Option Nat} {N : Nat} {h : z_H} {v0 : Nat} {v1 : Int32} {β : Type} {f : z_H → Option β} {Q : β → Prop} (T : q_U L W h0 π h) (kv0 : qκ L v0 = 11) (w0 : W v0) (w1 : W (v0 + 1)) (b0 : 0 ≤ v1) (b2 : v1 ≤ vI h v0 1) (hN : 100000 ≤ N) (H : ∀ h', q_U L W h0 π h' → (∀ a k, ¬ (a = v0 ∧ k = 1) → vI h' a k = vI h a k) → (∀ a j, 0 ≤ j → a ≠ v0 + 1 → vA h' a j = vA h a j) → qk (f h') Q) : qk (z_b (f_Row_dropFirst N v0 v1 h) f) Q := by
  refine qk_b (p_Row_dropFirst T kv0 w0 w1 b0 b2 hN) ?_
  rintro hz ⟨Tz, g0, g1⟩
  exact H hz Tz g0 g1

set_option maxHeartbeats 1000000 in
theorem p_Row_newlineFrom_2_n {L : q_L} {W : Nat → Prop} {h0 : z_H} {π : Nat → Nat → Option Nat} {N : Nat} {lo : Nat → Int32} (hqn : q_Q lo 1001) : ∀ (n : Nat) (v0 : Nat) (v2 : Int32) (h : z_H), q_U L W h0 π h → qκ L v0 = 11 → (0 ≤ v2) → (v2 ≤ 1000) → (lo n ≤ v2) → qk (f_Row_newlineFrom_2 N  n v0 v2 h) (fun r => r.2 = h ∧ (v2 ≤ r.1) ∧ (r.1 ≤ vI h v0 1 ∨ r.1 = v2)) := by
  intro n
  induction n with
  | zero => intro v0 v2 h T kv0 b0 b1 hms; have hr_v0 := q_rowhi T kv0; have hz := hqn.1; exact absurd hms (by grind)
  | succ n ih =>
    intro v0 v2 h T kv0 b0 b1 hms
    obtain ⟨hq1, hq2, hq3⟩ := hqn.2 n
    rw [f_Row_newlineFrom_2]
    have hr_v0 := q_rowhi T kv0
    refine r_Row_1 T kv0 ?_
    intro x1 ex1 lx1 ux1 mx1
    subst ex1
    refine qk_if (fun cc1 => ?_) (fun cc1 => ?_)
    · skip
      refine qk_some ?_
      exact ⟨rfl, (by clear ih; first | with_reducible assumption | grind | grind (ematch := 40) (gen := 40) (liaSteps := 300000) | lia), (by clear ih; first | with_reducible assumption | grind | grind (ematch := 40) (gen := 40) (liaSteps := 300000) | lia)⟩
    · skip
      refine r_Row_0 T kv0 ?_
      refine r_Row_e1 T kv0 (by clear ih; first | with_reducible assumption | grind | grind (ematch := 40) (gen := 40) (liaSteps := 300000) | lia) (by clear ih; first | with_reducible assumption | grind | grind (ematch := 40) (gen := 40) (liaSteps := 300000) | lia) ?_
      intro x4 ex4 lx4 ux4
      subst ex4
      refine qk_if (fun cc2 => ?_) (fun cc2 => ?_)
      · skip
        refine qk_some ?_
        exact ⟨rfl, (by clear ih; first | with_reducible assumption | grind | grind (ematch := 40) (gen := 40) (liaSteps := 300000) | lia), (by clear ih; first | with_reducible assumption | grind | grind (ematch := 40) (gen := 40) (liaSteps := 300000) | lia)⟩
      · skip
        refine qk_bs ?_
        refine qk_mono (ih (v0) ((v2 + 1)) h T kv0 (by clear ih; first | with_reducible assumption | grind | grind (ematch := 40) (gen := 40) (liaSteps := 300000) | lia) (by clear ih; first | with_reducible assumption | grind | grind (ematch := 40) (gen := 40) (liaSteps := 300000) | lia) (by clear ih; first | with_reducible assumption | grind | grind (ematch := 40) (gen := 40) (liaSteps := 300000) | lia)) ?_
        rintro ⟨y, hz⟩ ⟨rfl, g0, g1⟩
        try dsimp only at *
        exact ⟨rfl, (by clear ih; first | with_reducible assumption | grind | grind (ematch := 40) (gen := 40) (liaSteps := 300000) | lia), (by clear ih; first | with_reducible assumption | grind | grind (ematch := 40) (gen := 40) (liaSteps := 300000) | lia)⟩
theorem p_Row_newlineFrom_2 {L : q_L} {W : Nat → Prop} {h0 : z_H} {π : Nat → Nat → Option Nat} {N : Nat} {h : z_H} {v0 : Nat} {v2 : Int32} (T : q_U L W h0 π h) (kv0 : qκ L v0 = 11) (b0 : 0 ≤ v2) (b1 : v2 ≤ 1000) (hN : 100000 ≤ N) : qk (f_Row_newlineFrom_2 N  N v0 v2 h) (fun r => r.2 = h ∧ (v2 ≤ r.1) ∧ (r.1 ≤ vI h v0 1 ∨ r.1 = v2)) := by
  have hq := q_qnN hN
  have hr_v0 := q_rowhi T kv0
  refine p_Row_newlineFrom_2_n (q_lo (M := 1001) (by decide) (by decide)) N v0 v2 h T kv0 b0 b1 ?_ 
  show 1001 - q_n N ≤ _
  rw [hq]
  lia

set_option maxHeartbeats 1000000 in
theorem p_Row_newlineFrom {L : q_L} {W : Nat → Prop} {h0 : z_H} {π : Nat → Nat → Option Nat} {N : Nat} {h : z_H} {v0 : Nat} {v1 : Int32} (T : q_U L W h0 π h) (kv0 : qκ L v0 = 11) (b0 : 0 ≤ v1) (b1 : v1 ≤ 1000) (hN : 100000 ≤ N) : qk (f_Row_newlineFrom N v0 v1 h) (fun r => r.2 = h ∧ (v1 ≤ r.1) ∧ (r.1 ≤ vI h v0 1 ∨ r.1 = v1)) := by
  have hr_v0 := q_rowhi T kv0
  unfold f_Row_newlineFrom
  refine qk_mono (p_Row_newlineFrom_2 (v0 := v0) (v2 := v1) T kv0 (by first | with_reducible assumption | grind | grind (ematch := 40) (gen := 40) (liaSteps := 300000) | lia) (by first | with_reducible assumption | grind | grind (ematch := 40) (gen := 40) (liaSteps := 300000) | lia) (by first | with_reducible assumption | grind | grind (ematch := 40) (gen := 40) (liaSteps := 300000) | lia)) ?_
  rintro ⟨y, hz⟩ ⟨rfl, g0, g1⟩
  try dsimp only at *
  exact ⟨rfl, (by first | with_reducible assumption | grind | grind (ematch := 40) (gen := 40) (liaSteps := 300000) | lia), (by first | with_reducible assumption | grind | grind (ematch := 40) (gen := 40) (liaSteps := 300000) | lia)⟩
theorem c_Row_newlineFrom {L : q_L} {W : Nat → Prop} {h0 : z_H} {π : Nat → Nat → Option Nat} {N : Nat} {h : z_H} {v0 : Nat} {v1 : Int32} {β : Type} {f : Int32 × z_H → Option β} {Q : β → Prop} (T : q_U L W h0 π h) (kv0 : qκ L v0 = 11) (b0 : 0 ≤ v1) (b1 : v1 ≤ 1000) (hN : 100000 ≤ N) (H : ∀ y, (v1 ≤ y) → (y ≤ vI h v0 1 ∨ y = v1) → qk (f (y, h)) Q) : qk (z_b (f_Row_newlineFrom N v0 v1 h) f) Q := by
  refine qk_b (p_Row_newlineFrom T kv0 b0 b1 hN) ?_
  rintro ⟨y, hz⟩ ⟨hy, g0, g1⟩
  try dsimp only at *
  subst hy
  exact H y g0 g1
