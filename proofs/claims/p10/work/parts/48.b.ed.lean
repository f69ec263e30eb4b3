set_option maxHeartbeats 1000000 in
theorem p_Ed_fits {L : q_L} {W : Nat → Prop} {h0 : z_H} {π : Nat → Nat → Option Nat} {N : Nat} {sp : Nat} {pg : Nat} {h : z_H} {v0 : Nat} {v1 : Nat} (T : q_U L W h0 π h) (kv0 : qκ L v0 = 4) (kv1 : qκ L v1 = 1) (ksp : qκ L sp = 11) (psp : π v0 1 = some sp) (kpg : qκ L pg = 10) (ppg : π v0 10 = some pg) (wE : ∀ a, v0 ≤ a → a < v0 + 16 → W a) (bsp1 : v0 + 3 ≤ sp) (bsp2 : sp + 2 ≤ v0 + 16) (bsp3 : sp ≠ v0 + 7) (hpg : v0 + 16 ≤ pg) (PWa : vI h v1 1 = 2 → q_PW h (pg + 3) (v1 + 1)) (hN : 100000 ≤ N) : qk (f_Ed_fits N v0 v1 h) (fun r => ∃ π1, q_U L W h0 π1 r.2 ∧ (∀ a k, ¬ (a = (v0 + 9) ∧ k = 2) → ¬ (a = (v0 + 9) ∧ k = 3) → ¬ (a = (v0 + 9) ∧ k = 4) → π1 a k = π a k) ∧ (r.1 = 0 ∨ r.1 = 1) ∧ (∀ a k, a ≠ v0 + 9 → vI r.2 a k = vI h a k) ∧ (∀ a j, 0 ≤ j → ¬ (v0 + 9 < a ∧ a < v0 + 14) → vA r.2 a j = vA h a j)) := by
  have hr_sp := q_rowhi T ksp
  have ced := q_CEd T kv0
  unfold q_C_Ed at ced
  have cad := q_CAddr T kv1
  unfold q_C_Addr at cad
  have ta1 := T.2.2.2.1 v1 1
  unfold f_Ed_fits
  refine r_Addr_1 T kv1 ?_
  intro x1 ex1 lx1 ux1
  subst ex1
  refine qk_if (fun cc1 => ?_) (fun cc1 => ?_)
  · skip
    refine r_Ed_3 T kv0 ?_
    intro x3 ex3 lx3 ux3
    subst ex3
    refine r_Addr_2 T kv1 ?_
    intro x4 ex4
    subst ex4
    refine qk_if (fun cc2 => ?_) (fun cc2 => ?_)
    · skip
      refine qk_some ?_
      exact ⟨_, T, (by first | with_reducible assumption | grind | grind (ematch := 40) (gen := 40) (splits := 40) | lia), (by first | with_reducible assumption | grind | grind (ematch := 40) (gen := 40) (splits := 40) | lia), (by first | with_reducible assumption | grind | grind (ematch := 40) (gen := 40) (splits := 40) | lia), (by first | with_reducible assumption | grind | grind (ematch := 40) (gen := 40) (splits := 40) | lia)⟩
    · skip
      refine qk_some ?_
      exact ⟨_, T, (by first | with_reducible assumption | grind | grind (ematch := 40) (gen := 40) (splits := 40) | lia), (by first | with_reducible assumption | grind | grind (ematch := 40) (gen := 40) (splits := 40) | lia), (by first | with_reducible assumption | grind | grind (ematch := 40) (gen := 40) (splits := 40) | lia), (by first | with_reducible assumption | grind | grind (ematch := 40) (gen := 40) (splits := 40) | lia)⟩
  · skip
    refine qk_if (fun cc3 => ?_) (fun cc3 => ?_)
    · skip
      refine r_Ed_3 T kv0 ?_
      intro x7 ex7 lx7 ux7
      subst ex7
      refine r_Ed_12 T kv0 ?_
      intro x8 ex8 lx8 ux8
      subst ex8
      refine qk_if (fun cc4 => ?_) (fun cc4 => ?_)
      · skip
        refine qk_some ?_
        exact ⟨_, T, (by first | with_reducible assumption | grind | grind (ematch := 40) (gen := 40) (splits := 40) | lia), (by first | with_reducible assumption | grind | grind (ematch := 40) (gen := 40) (splits := 40) | lia), (by first | with_reducible assumption | grind | grind (ematch := 40) (gen := 40) (splits := 40) | lia), (by first | with_reducible assumption | grind | grind (ematch := 40) (gen := 40) (splits := 40) | lia)⟩
      · skip
        refine qk_some ?_
        exact ⟨_, T, (by first | with_reducible assumption | grind | grind (ematch := 40) (gen := 40) (splits := 40) | lia), (by first | with_reducible assumption | grind | grind (ematch := 40) (gen := 40) (splits := 40) | lia), (by first | with_reducible assumption | grind | grind (ematch := 40) (gen := 40) (splits := 40) | lia), (by first | with_reducible assumption | grind | grind (ematch := 40) (gen := 40) (splits := 40) | lia)⟩
    · skip
      refine r_Ed_8 T kv0 ?_
      intro kx10
      refine r_Ed_10 T kv0 ppg ?_
      refine r_Prog_1 T kpg ?_
      intro kx12
      refine r_Addr_0 T kv1 ?_
      intro kx13
      refine r_Ed_1 T kv0 psp ?_
      refine r_Ma_o T kx10 ?_
      refine c_Ma_find (v0 := (v0 + 9)) (v1 := (pg + 3)) (v2 := (v1 + 1)) (v3 := sp) (v4 := 0) T kx10 kx12 kx13 ksp (by first | with_reducible assumption | grind | grind (ematch := 40) (gen := 40) (splits := 40) | lia) (by first | with_reducible assumption | grind | grind (ematch := 40) (gen := 40) (splits := 40) | lia) (by first | with_reducible assumption | grind | grind (ematch := 40) (gen := 40) (splits := 40) | lia) (by first | with_reducible assumption | grind | grind (ematch := 40) (gen := 40) (splits := 40) | lia) (by first | with_reducible assumption | grind | grind (ematch := 40) (gen := 40) (splits := 40) | lia) (by exact (PWa (by grind)).1) (by exact q_hg T kx12) (by first | with_reducible assumption | grind | grind (ematch := 40) (gen := 40) (splits := 40) | lia) (by first | with_reducible assumption | grind | grind (ematch := 40) (gen := 40) (splits := 40) | lia) (by first | with_reducible assumption | grind | grind (ematch := 40) (gen := 40) (splits := 40) | lia) ?_
      intro yr16 πr16 hr16 Tr16 zr16 zr16_0 zr16_1 zr16_2 gr16_0 gr16_1 gr16_2 gr16_3
      have psp_r16 : πr16 v0 1 = some sp := by rw [zr16 v0 1 (by grind) (by grind) (by grind)]; exact psp
      have ppg_r16 : πr16 v0 10 = some pg := by rw [zr16 v0 10 (by grind) (by grind) (by grind)]; exact ppg
      dsimp only
      refine qk_zB (by first | with_reducible assumption | grind | grind (ematch := 40) (gen := 40) (splits := 40) | lia) ?_
      refine qk_some ?_
      exact ⟨_, Tr16, (by first | with_reducible assumption | grind | grind (ematch := 40) (gen := 40) (splits := 40) | lia), (by first | with_reducible assumption | grind | grind (ematch := 40) (gen := 40) (splits := 40) | lia), (by first | with_reducible assumption | grind | grind (ematch := 40) (gen := 40) (splits := 40) | lia), (by first | with_reducible assumption | grind | grind (ematch := 40) (gen := 40) (splits := 40) | lia)⟩
theorem c_Ed_fits {L : q_L} {W : Nat → Prop} {h0 : z_H} {π : Nat → Nat → Option Nat} {N : Nat} {sp : Nat} {pg : Nat} {h : z_H} {v0 : Nat} {v1 : Nat} {β : Type} {f : Int32 × z_H → Option β} {Q : β → Prop} (T : q_U L W h0 π h) (kv0 : qκ L v0 = 4) (kv1 : qκ L v1 = 1) (ksp : qκ L sp = 11) (psp : π v0 1 = some sp) (kpg : qκ L pg = 10) (ppg : π v0 10 = some pg) (wE : ∀ a, v0 ≤ a → a < v0 + 16 → W a) (bsp1 : v0 + 3 ≤ sp) (bsp2 : sp + 2 ≤ v0 + 16) (bsp3 : sp ≠ v0 + 7) (hpg : v0 + 16 ≤ pg) (PWa : vI h v1 1 = 2 → q_PW h (pg + 3) (v1 + 1)) (hN : 100000 ≤ N) (H : ∀ y π1 h', q_U L W h0 π1 h' → (∀ a k, ¬ (a = (v0 + 9) ∧ k = 2) → ¬ (a = (v0 + 9) ∧ k = 3) → ¬ (a = (v0 + 9) ∧ k = 4) → π1 a k = π a k) → (y = 0 ∨ y = 1) → (∀ a k, a ≠ v0 + 9 → vI h' a k = vI h a k) → (∀ a j, 0 ≤ j → ¬ (v0 + 9 < a ∧ a < v0 + 14) → vA h' a j = vA h a j) → qk (f (y, h')) Q) : qk (z_b (f_Ed_fits N v0 v1 h) f) Q := by
  refine qk_b (p_Ed_fits T kv0 kv1 ksp psp kpg ppg wE bsp1 bsp2 bsp3 hpg PWa hN) ?_
  rintro ⟨y, hz⟩ ⟨π1, Tz, z0, g0, g1, g2⟩
  exact H y π1 hz Tz z0 g0 g1 g2

set_option maxHeartbeats 1000000 in
theorem p_Ed_isReached {L : q_L} {W : Nat → Prop} {h0 : z_H} {π : Nat → Nat → Option Nat} {N : Nat} {h : z_H} {v0 : Nat} {v1 : Nat} (T : q_U L W h0 π h) (kv0 : qκ L v0 = 4) (kv1 : qκ L v1 = 1)  : qk (f_Ed_isReached N v0 v1 h) (fun r => r.2 = h ∧ (r.1 = 0 ∨ r.1 = 1)) := by
  unfold f_Ed_isReached
  refine r_Addr_1 T kv1 ?_
  intro x1 ex1 lx1 ux1
  subst ex1
  refine qk_if (fun cc1 => ?_) (fun cc1 => ?_)
  · skip
    refine r_Ed_3 T kv0 ?_
    intro x3 ex3 lx3 ux3
    subst ex3
    refine r_Addr_2 T kv1 ?_
    intro x4 ex4
    subst ex4
    refine qk_if (fun cc2 => ?_) (fun cc2 => ?_)
    · skip
      refine qk_some ?_
      exact ⟨rfl, (by first | with_reducible assumption | grind | grind (ematch := 40) (gen := 40) (splits := 40) | lia)⟩
    · skip
      refine qk_some ?_
      exact ⟨rfl, (by first | with_reducible assumption | grind | grind (ematch := 40) (gen := 40) (splits := 40) | lia)⟩
  · skip
    refine qk_some ?_
    exact ⟨rfl, (by first | with_reducible assumption | grind | grind (ematch := 40) (gen := 40) (splits := 40) | lia)⟩
theorem c_Ed_isReached {L : q_L} {W : Nat → Prop} {h0 : z_H} {π : Nat → Nat → Option Nat} {N : Nat} {h : z_H} {v0 : Nat} {v1 : Nat} {β : Type} {f : Int32 × z_H → Option β} {Q : β → Prop} (T : q_U L W h0 π h) (kv0 : qκ L v0 = 4) (kv1 : qκ L v1 = 1)  (H : ∀ y, (y = 0 ∨ y = 1) → qk (f (y, h)) Q) : qk (z_b (f_Ed_isReached N v0 v1 h) f) Q := by
  refine qk_b (p_Ed_isReached T kv0 kv1 ) ?_
  rintro ⟨y, hz⟩ ⟨hy, g0⟩
  try dsimp only at *
  subst hy
  exact H y g0

set_option maxHeartbeats 4000000 in
theorem p_Ed_isDone {L : q_L} {W : Nat → Prop} {h0 : z_H} {π : Nat → Nat → Option Nat} {N : Nat} {sp : Nat} {pg : Nat} {h : z_H} {v0 : Nat} {v1 : Nat} (T : q_U L W h0 π h) (kv0 : qκ L v0 = 4) (kv1 : qκ L v1 = 2) (ksp : qκ L sp = 11) (psp : π v0 1 = some sp) (kpg : qκ L pg = 10) (ppg : π v0 10 = some pg) (wE : ∀ a, v0 ≤ a → a < v0 + 16 → W a) (wG : ∀ a, pg ≤ a → a < pg + 249 → W a) (bsp1 : v0 + 3 ≤ sp) (bsp2 : sp + 2 ≤ v0 + 16) (bsp3 : sp ≠ v0 + 7) (hpg : v0 + 16 ≤ pg) (hc1 : pg + 9 ≤ v1) (hc2 : v1 + 6 ≤ pg + 249) (CV : q_CV h v1 (pg + 3)) (hN : 100000 ≤ N) : qk (f_Ed_isDone N v0 v1 h) (fun r => ∃ π1, q_U L W h0 π1 r.2 ∧ (∀ a k, ¬ (a = (v0 + 9) ∧ k = 2) → ¬ (a = (v0 + 9) ∧ k = 3) → ¬ (a = (v0 + 9) ∧ k = 4) → π1 a k = π a k) ∧ (r.1 = 0 ∨ r.1 = 1) ∧ (∀ a k, a ≠ v0 + 9 → ¬ (a = v0 ∧ k = 16) → ¬ (a = v1 ∧ k = 15) → vI r.2 a k = vI h a k) ∧ (∀ a j, 0 ≤ j → ¬ (v0 + 9 < a ∧ a < v0 + 14) → vA r.2 a j = vA h a j)) := by
  have hr_sp := q_rowhi T ksp
  have ced := q_CEd T kv0
  unfold q_C_Ed at ced
  unfold f_Ed_isDone
  refine r_Cmd_5 T kv1 ?_
  intro x1 ex1 lx1 ux1
  subst ex1
  refine qk_if (fun cc1 => ?_) (fun cc1 => ?_)
  · skip
    refine r_Cmd_0 T kv1 ?_
    intro kx15
    refine r_Ed_o T kv0 ?_
    refine c_Ed_fits (v0 := v0) (v1 := (v1 + 1)) (sp := sp) (pg := pg) T kv0 kx15 ksp psp kpg ppg (by first | with_reducible assumption | grind | grind (ematch := 40) (gen := 40) (splits := 40) | lia) (by first | with_reducible assumption | grind | grind (ematch := 40) (gen := 40) (splits := 40) | lia) (by first | with_reducible assumption | grind | grind (ematch := 40) (gen := 40) (splits := 40) | lia) (by first | with_reducible assumption | grind | grind (ematch := 40) (gen := 40) (splits := 40) | lia) (by first | with_reducible assumption | grind | grind (ematch := 40) (gen := 40) (splits := 40) | lia) (by intro zz; first | exact CV.1 (by grind) zz | exact CV.2.1 (by grind) zz) (by first | with_reducible assumption | grind | grind (ematch := 40) (gen := 40) (splits := 40) | lia) ?_
    intro yr17 πr17 hr17 Tr17 zr17  gr17_0 gr17_1 gr17_2
    have psp_r17 : πr17 v0 1 = some sp := by rw [zr17 v0 1 (by grind) (by grind) (by grind)]; exact psp
    have ppg_r17 : πr17 v0 10 = some pg := by rw [zr17 v0 10 (by grind) (by grind) (by grind)]; exact ppg
    dsimp only
    refine qk_bs ?_
    unfold f_Ed_isDone_136
    refine r_Cmd_6 Tr17 kv1 ?_
    intro x1i2 ex1i2
    subst ex1i2
    refine qk_if (fun cc3 => ?_) (fun cc3 => ?_)
    · skip
      refine qk_some ?_
      exact ⟨_, Tr17, (by first | with_reducible assumption | grind | grind (ematch := 40) (gen := 40) (splits := 40) | lia), (by first | with_reducible assumption | grind | grind (ematch := 40) (gen := 40) (splits := 40) | lia), (by first | with_reducible assumption | grind | grind (ematch := 40) (gen := 40) (splits := 40) | lia), (by first | with_reducible assumption | grind | grind (ematch := 40) (gen := 40) (splits := 40) | lia)⟩
    · skip
      refine qk_some ?_
      exact ⟨_, Tr17, (by first | with_reducible assumption | grind | grind (ematch := 40) (gen := 40) (splits := 40) | lia), (by first | with_reducible assumption | grind | grind (ematch := 40) (gen := 40) (splits := 40) | lia), (by first | with_reducible assumption | grind | grind (ematch := 40) (gen := 40) (splits := 40) | lia), (by first | with_reducible assumption | grind | grind (ematch := 40) (gen := 40) (splits := 40) | lia)⟩
  · skip
    refine r_Cmd_5 T kv1 ?_
    intro x3 ex3 lx3 ux3
    subst ex3
    refine qk_if (fun cc4 => ?_) (fun cc4 => ?_)
    · skip
      refine r_Cmd_15 T kv1 ?_
      intro x5 ex5
      subst ex5
      refine qk_if (fun cc5 => ?_) (fun cc5 => ?_)
      · skip
        unfold f_Ed_isDone_87
        refine r_Cmd_5 T kv1 ?_
        intro x1i6 ex1i6 lx1i6 ux1i6
        subst ex1i6
        refine qk_if (fun cc7 => ?_) (fun cc7 => ?_)
        · skip
          refine r_Cmd_0 T kv1 ?_
          intro kx3i6
          refine r_Ed_o T kv0 ?_
          refine c_Ed_fits (v0 := v0) (v1 := (v1 + 1)) (sp := sp) (pg := pg) T kv0 kx3i6 ksp psp kpg ppg (by first | with_reducible assumption | grind | grind (ematch := 40) (gen := 40) (splits := 40) | lia) (by first | with_reducible assumption | grind | grind (ematch := 40) (gen := 40) (splits := 40) | lia) (by first | with_reducible assumption | grind | grind (ematch := 40) (gen := 40) (splits := 40) | lia) (by first | with_reducible assumption | grind | grind (ematch := 40) (gen := 40) (splits := 40) | lia) (by first | with_reducible assumption | grind | grind (ematch := 40) (gen := 40) (splits := 40) | lia) (by intro zz; first | exact CV.1 (by grind) zz | exact CV.2.1 (by grind) zz) (by first | with_reducible assumption | grind | grind (ematch := 40) (gen := 40) (splits := 40) | lia) ?_
          intro yr5i6 πr5i6 hr5i6 Tr5i6 zr5i6  gr5i6_0 gr5i6_1 gr5i6_2
          have psp_r5i6 : πr5i6 v0 1 = some sp := by rw [zr5i6 v0 1 (by grind) (by grind) (by grind)]; exact psp
          have ppg_r5i6 : πr5i6 v0 10 = some pg := by rw [zr5i6 v0 10 (by grind) (by grind) (by grind)]; exact ppg
          dsimp only
          refine qk_bs ?_
          refine r_Cmd_1 Tr5i6 kv1 ?_
          intro kx7i6
          refine r_Ed_o Tr5i6 kv0 ?_
          refine c_Ed_isReached (v0 := v0) (v1 := (v1 + 3)) Tr5i6 kv0 kx7i6 ?_
          intro yr9i6 gr9i6_0
          dsimp only
          refine qk_zB (by first | with_reducible assumption | grind | grind (ematch := 40) (gen := 40) (splits := 40) | lia) ?_
          refine w_Ed_16 Tr5i6 kv0 (by first | with_reducible assumption | grind | grind (ematch := 40) (gen := 40) (splits := 40) | lia) ?_
          intro h11i6 Th11i6 ih11i6 ah11i6
          refine qk_if (fun cc8 => ?_) (fun cc8 => ?_)
          · skip
            refine w_Cmd_15 Th11i6 kv1 (by first | with_reducible assumption | grind | grind (ematch := 40) (gen := 40) (splits := 40) | lia) ?_
            intro h13i6 Th13i6 ih13i6 ah13i6
            unfold f_Ed_isDone_136
            refine r_Cmd_6 Th13i6 kv1 ?_
            intro x1i9 ex1i9
            subst ex1i9
            refine qk_if (fun cc10 => ?_) (fun cc10 => ?_)
            · skip
              refine qk_some ?_
              exact ⟨_, Th13i6, (by first | with_reducible assumption | grind | grind (ematch := 40) (gen := 40) (splits := 40) | lia), (by first | with_reducible assumption | grind | grind (ematch := 40) (gen := 40) (splits := 40) | lia), (by first | with_reducible assumption | grind | grind (ematch := 40) (gen := 40) (splits := 40) | lia), (by first | with_reducible assumption | grind | grind (ematch := 40) (gen := 40) (splits := 40) | lia)⟩
            · skip
              refine qk_some ?_
              exact ⟨_, Th13i6, (by first | with_reducible assumption | grind | grind (ematch := 40) (gen := 40) (splits := 40) | lia), (by first | with_reducible assumption | grind | grind (ematch := 40) (gen := 40) (splits := 40) | lia), (by first | with_reducible assumption | grind | grind (ematch := 40) (gen := 40) (splits := 40) | lia), (by first | with_reducible assumption | grind | grind (ematch := 40) (gen := 40) (splits := 40) | lia)⟩
          · skip
            refine r_Ed_16 Th11i6 kv0 ?_
            intro x14i6 ex14i6
            subst ex14i6
            refine qk_if (fun cc11 => ?_) (fun cc11 => ?_)
            · skip
              refine w_Cmd_15 Th11i6 kv1 (by first | with_reducible assumption | grind | grind (ematch := 40) (gen := 40) (splits := 40) | lia) ?_
              intro h17i6 Th17i6 ih17i6 ah17i6
              unfold f_Ed_isDone_136
              refine r_Cmd_6 Th17i6 kv1 ?_
              intro x1i12 ex1i12
              subst ex1i12
              refine qk_if (fun cc13 => ?_) (fun cc13 => ?_)
              · skip
                refine qk_some ?_
                exact ⟨_, Th17i6, (by first | with_reducible assumption | grind | grind (ematch := 40) (gen := 40) (splits := 40) | lia), (by first | with_reducible assumption | grind | grind (ematch := 40) (gen := 40) (splits := 40) | lia), (by first | with_reducible assumption | grind | grind (ematch := 40) (gen := 40) (splits := 40) | lia), (by first | with_reducible assumption | grind | grind (ematch := 40) (gen := 40) (splits := 40) | lia)⟩
              · skip
                refine qk_some ?_
                exact ⟨_, Th17i6, (by first | with_reducible assumption | grind | grind (ematch := 40) (gen := 40) (splits := 40) | lia), (by first | with_reducible assumption | grind | grind (ematch := 40) (gen := 40) (splits := 40) | lia), (by first | with_reducible assumption | grind | grind (ematch := 40) (gen := 40) (splits := 40) | lia), (by first | with_reducible assumption | grind | grind (ematch := 40) (gen := 40) (splits := 40) | lia)⟩
            · skip
              refine w_Cmd_15 Th11i6 kv1 (by first | with_reducible assumption | grind | grind (ematch := 40) (gen := 40) (splits := 40) | lia) ?_
              intro h16i6 Th16i6 ih16i6 ah16i6
              unfold f_Ed_isDone_136
              refine r_Cmd_6 Th16i6 kv1 ?_
              intro x1i14 ex1i14
              subst ex1i14
              refine qk_if (fun cc15 => ?_) (fun cc15 => ?_)
              · skip
                refine qk_some ?_
                exact ⟨_, Th16i6, (by first | with_reducible assumption | grind | grind (ematch := 40) (gen := 40) (splits := 40) | lia), (by first | with_reducible assumption | grind | grind (ematch := 40) (gen := 40) (splits := 40) | lia), (by first | with_reducible assumption | grind | grind (ematch := 40) (gen := 40) (splits := 40) | lia), (by first | with_reducible assumption | grind | grind (ematch := 40) (gen := 40) (splits := 40) | lia)⟩
              · skip
                refine qk_some ?_
                exact ⟨_, Th16i6, (by first | with_reducible assumption | grind | grind (ematch := 40) (gen := 40) (splits := 40) | lia), (by first | with_reducible assumption | grind | grind (ematch := 40) (gen := 40) (splits := 40) | lia), (by first | with_reducible assumption | grind | grind (ematch := 40) (gen := 40) (splits := 40) | lia), (by first | with_reducible assumption | grind | grind (ematch := 40) (gen := 40) (splits := 40) | lia)⟩
        · skip
          unfold f_Ed_isDone_136
          refine r_Cmd_6 T kv1 ?_
          intro x1i16 ex1i16
          subst ex1i16
          refine qk_if (fun cc17 => ?_) (fun cc17 => ?_)
          · skip
            refine qk_some ?_
            exact ⟨_, T, (by first | with_reducible assumption | grind | grind (ematch := 40) (gen := 40) (splits := 40) | lia), (by first | with_reducible assumption | grind | grind (ematch := 40) (gen := 40) (splits := 40) | lia), (by first | with_reducible assumption | grind | grind (ematch := 40) (gen := 40) (splits := 40) | lia), (by first | with_reducible assumption | grind | grind (ematch := 40) (gen := 40) (splits := 40) | lia)⟩
          · skip
            refine qk_some ?_
            exact ⟨_, T, (by first | with_reducible assumption | grind | grind (ematch := 40) (gen := 40) (splits := 40) | lia), (by first | with_reducible assumption | grind | grind (ematch := 40) (gen := 40) (splits := 40) | lia), (by first | with_reducible assumption | grind | grind (ematch := 40) (gen := 40) (splits := 40) | lia), (by first | with_reducible assumption | grind | grind (ematch := 40) (gen := 40) (splits := 40) | lia)⟩
      · skip
        refine r_Cmd_1 T kv1 ?_
        intro kx7
        refine r_Ed_o T kv0 ?_
        refine c_Ed_isReached (v0 := v0) (v1 := (v1 + 3)) T kv0 kx7 ?_
        intro yr9 gr9_0
        dsimp only
        refine qk_if (fun cc18 => ?_) (fun cc18 => ?_)
        · skip
          refine r_Cmd_1 T kv1 ?_
          intro kx11
          refine r_Ed_o T kv0 ?_
          refine c_Ed_fits (v0 := v0) (v1 := (v1 + 3)) (sp := sp) (pg := pg) T kv0 kx11 ksp psp kpg ppg (by first | with_reducible assumption | grind | grind (ematch := 40) (gen := 40) (splits := 40) | lia) (by first | with_reducible assumption | grind | grind (ematch := 40) (gen := 40) (splits := 40) | lia) (by first | with_reducible assumption | grind | grind (ematch := 40) (gen := 40) (splits := 40) | lia) (by first | with_reducible assumption | grind | grind (ematch := 40) (gen := 40) (splits := 40) | lia) (by first | with_reducible assumption | grind | grind (ematch := 40) (gen := 40) (splits := 40) | lia) (by intro zz; first | exact CV.1 (by grind) zz | exact CV.2.1 (by grind) zz) (by first | with_reducible assumption | grind | grind (ematch := 40) (gen := 40) (splits := 40) | lia) ?_
          intro yr13 πr13 hr13 Tr13 zr13  gr13_0 gr13_1 gr13_2
          have psp_r13 : πr13 v0 1 = some sp := by rw [zr13 v0 1 (by grind) (by grind) (by grind)]; exact psp
          have ppg_r13 : πr13 v0 10 = some pg := by rw [zr13 v0 10 (by grind) (by grind) (by grind)]; exact ppg
          dsimp only
          refine qk_if (fun cc19 => ?_) (fun cc19 => ?_)
          · skip
            unfold f_Ed_isDone_65
            refine qk_zB (by first | with_reducible assumption | grind | grind (ematch := 40) (gen := 40) (splits := 40) | lia) ?_
            refine w_Ed_16 Tr13 kv0 (by first | with_reducible assumption | grind | grind (ematch := 40) (gen := 40) (splits := 40) | lia) ?_
            intro h2i20 Th2i20 ih2i20 ah2i20
            refine r_Ed_16 Th2i20 kv0 ?_
            intro x3i20 ex3i20
            subst ex3i20
            refine qk_if (fun cc21 => ?_) (fun cc21 => ?_)
            · skip
              refine w_Cmd_15 Th2i20 kv1 (by first | with_reducible assumption | grind | grind (ematch := 40) (gen := 40) (splits := 40) | lia) ?_
              intro h6i20 Th6i20 ih6i20 ah6i20
              unfold f_Ed_isDone_136
              refine r_Cmd_6 Th6i20 kv1 ?_
              intro x1i22 ex1i22
              subst ex1i22
              refine qk_if (fun cc23 => ?_) (fun cc23 => ?_)
              · skip
                refine qk_some ?_
                exact ⟨_, Th6i20, (by first | with_reducible assumption | grind | grind (ematch := 40) (gen := 40) (splits := 40) | lia), (by first | with_reducible assumption | grind | grind (ematch := 40) (gen := 40) (splits := 40) | lia), (by first | with_reducible assumption | grind | grind (ematch := 40) (gen := 40) (splits := 40) | lia), (by first | with_reducible assumption | grind | grind (ematch := 40) (gen := 40) (splits := 40) | lia)⟩
              · skip
                refine qk_some ?_
                exact ⟨_, Th6i20, (by first | with_reducible assumption | grind | grind (ematch := 40) (gen := 40) (splits := 40) | lia), (by first | with_reducible assumption | grind | grind (ematch := 40) (gen := 40) (splits := 40) | lia), (by first | with_reducible assumption | grind | grind (ematch := 40) (gen := 40) (splits := 40) | lia), (by first | with_reducible assumption | grind | grind (ematch := 40) (gen := 40) (splits := 40) | lia)⟩
            · skip
              refine w_Cmd_15 Th2i20 kv1 (by first | with_reducible assumption | grind | grind (ematch := 40) (gen := 40) (splits := 40) | lia) ?_
              intro h5i20 Th5i20 ih5i20 ah5i20
              unfold f_Ed_isDone_136
              refine r_Cmd_6 Th5i20 kv1 ?_
              intro x1i24 ex1i24
              subst ex1i24
              refine qk_if (fun cc25 => ?_) (fun cc25 => ?_)
              · skip
                refine qk_some ?_
                exact ⟨_, Th5i20, (by first | with_reducible assumption | grind | grind (ematch := 40) (gen := 40) (splits := 40) | lia), (by first | with_reducible assumption | grind | grind (ematch := 40) (gen := 40) (splits := 40) | lia), (by first | with_reducible assumption | grind | grind (ematch := 40) (gen := 40) (splits := 40) | lia), (by first | with_reducible assumption | grind | grind (ematch := 40) (gen := 40) (splits := 40) | lia)⟩
              · skip
                refine qk_some ?_
                exact ⟨_, Th5i20, (by first | with_reducible assumption | grind | grind (ematch := 40) (gen := 40) (splits := 40) | lia), (by first | with_reducible assumption | grind | grind (ematch := 40) (gen := 40) (splits := 40) | lia), (by first | with_reducible assumption | grind | grind (ematch := 40) (gen := 40) (splits := 40) | lia), (by first | with_reducible assumption | grind | grind (ematch := 40) (gen := 40) (splits := 40) | lia)⟩
          · skip
            unfold f_Ed_isDone_65
            refine qk_zB (by first | with_reducible assumption | grind | grind (ematch := 40) (gen := 40) (splits := 40) | lia) ?_
            refine w_Ed_16 Tr13 kv0 (by first | with_reducible assumption | grind | grind (ematch := 40) (gen := 40) (splits := 40) | lia) ?_
            intro h2i26 Th2i26 ih2i26 ah2i26
            refine r_Ed_16 Th2i26 kv0 ?_
            intro x3i26 ex3i26
            subst ex3i26
            refine qk_if (fun cc27 => ?_) (fun cc27 => ?_)
            · skip
              refine w_Cmd_15 Th2i26 kv1 (by first | with_reducible assumption | grind | grind (ematch := 40) (gen := 40) (splits := 40) | lia) ?_
              intro h6i26 Th6i26 ih6i26 ah6i26
              unfold f_Ed_isDone_136
              refine r_Cmd_6 Th6i26 kv1 ?_
              intro x1i28 ex1i28
              subst ex1i28
              refine qk_if (fun cc29 => ?_) (fun cc29 => ?_)
              · skip
                refine qk_some ?_
                exact ⟨_, Th6i26, (by first | with_reducible assumption | grind | grind (ematch := 40) (gen := 40) (splits := 40) | lia), (by first | with_reducible assumption | grind | grind (ematch := 40) (gen := 40) (splits := 40) | lia), (by first | with_reducible assumption | grind | grind (ematch := 40) (gen := 40) (splits := 40) | lia), (by first | with_reducible assumption | grind | grind (ematch := 40) (gen := 40) (splits := 40) | lia)⟩
              · skip
                refine qk_some ?_
                exact ⟨_, Th6i26, (by first | with_reducible assumption | grind | grind (ematch := 40) (gen := 40) (splits := 40) | lia), (by first | with_reducible assumption | grind | grind (ematch := 40) (gen := 40) (splits := 40) | lia), (by first | with_reducible assumption | grind | grind (ematch := 40) (gen := 40) (splits := 40) | lia), (by first | with_reducible assumption | grind | grind (ematch := 40) (gen := 40) (splits := 40) | lia)⟩
            · skip
              refine w_Cmd_15 Th2i26 kv1 (by first | with_reducible assumption | grind | grind (ematch := 40) (gen := 40) (splits := 40) | lia) ?_
              intro h5i26 Th5i26 ih5i26 ah5i26
              unfold f_Ed_isDone_136
              refine r_Cmd_6 Th5i26 kv1 ?_
              intro x1i30 ex1i30
              subst ex1i30
              refine qk_if (fun cc31 => ?_) (fun cc31 => ?_)
              · skip
                refine qk_some ?_
                exact ⟨_, Th5i26, (by first | with_reducible assumption | grind | grind (ematch := 40) (gen := 40) (splits := 40) | lia), (by first | with_reducible assumption | grind | grind (ematch := 40) (gen := 40) (splits := 40) | lia), (by first | with_reducible assumption | grind | grind (ematch := 40) (gen := 40) (splits := 40) | lia), (by first | with_reducible assumption | grind | grind (ematch := 40) (gen := 40) (splits := 40) | lia)⟩
              · skip
                refine qk_some ?_
                exact ⟨_, Th5i26, (by first | with_reducible assumption | grind | grind (ematch := 40) (gen := 40) (splits := 40) | lia), (by first | with_reducible assumption | grind | grind (ematch := 40) (gen := 40) (splits := 40) | lia), (by first | with_reducible assumption | grind | grind (ematch := 40) (gen := 40) (splits := 40) | lia), (by first | with_reducible assumption | grind | grind (ematch := 40) (gen := 40) (splits := 40) | lia)⟩
        · skip
          unfold f_Ed_isDone_65
          refine qk_zB (by first | with_reducible assumption | grind | grind (ematch := 40) (gen := 40) (splits := 40) | lia) ?_
          refine w_Ed_16 T kv0 (by first | with_reducible assumption | grind | grind (ematch := 40) (gen := 40) (splits := 40) | lia) ?_
          intro h2i32 Th2i32 ih2i32 ah2i32
          refine r_Ed_16 Th2i32 kv0 ?_
          intro x3i32 ex3i32
          subst ex3i32
          refine qk_if (fun cc33 => ?_) (fun cc33 => ?_)
          · skip
            refine w_Cmd_15 Th2i32 kv1 (by first | with_reducible assumption | grind | grind (ematch := 40) (gen := 40) (splits := 40) | lia) ?_
            intro h6i32 Th6i32 ih6i32 ah6i32
            unfold f_Ed_isDone_136
            refine r_Cmd_6 Th6i32 kv1 ?_
            intro x1i34 ex1i34
            subst ex1i34
            refine qk_if (fun cc35 => ?_) (fun cc35 => ?_)
            · skip
              refine qk_some ?_
              exact ⟨_, Th6i32, (by first | with_reducible assumption | grind | grind (ematch := 40) (gen := 40) (splits := 40) | lia), (by first | with_reducible assumption | grind | grind (ematch := 40) (gen := 40) (splits := 40) | lia), (by first | with_reducible assumption | grind | grind (ematch := 40) (gen := 40) (splits := 40) | lia), (by first | with_reducible assumption | grind | grind (ematch := 40) (gen := 40) (splits := 40) | lia)⟩
            · skip
              refine qk_some ?_
              exact ⟨_, Th6i32, (by first | with_reducible assumption | grind | grind (ematch := 40) (gen := 40) (splits := 40) | lia), (by first | with_reducible assumption | grind | grind (ematch := 40) (gen := 40) (splits := 40) | lia), (by first | with_reducible assumption | grind | grind (ematch := 40) (gen := 40) (splits := 40) | lia), (by first | with_reducible assumption | grind | grind (ematch := 40) (gen := 40) (splits := 40) | lia)⟩
          · skip
            refine w_Cmd_15 Th2i32 kv1 (by first | with_reducible assumption | grind | grind (ematch := 40) (gen := 40) (splits := 40) | lia) ?_
            intro h5i32 Th5i32 ih5i32 ah5i32
            unfold f_Ed_isDone_136
            refine r_Cmd_6 Th5i32 kv1 ?_
            intro x1i36 ex1i36
            subst ex1i36
            refine qk_if (fun cc37 => ?_) (fun cc37 => ?_)
            · skip
              refine qk_some ?_
              exact ⟨_, Th5i32, (by first | with_reducible assumption | grind | grind (ematch := 40) (gen := 40) (splits := 40) | lia), (by first | with_reducible assumption | grind | grind (ematch := 40) (gen := 40) (splits := 40) | lia), (by first | with_reducible assumption | grind | grind (ematch := 40) (gen := 40) (splits := 40) | lia), (by first | with_reducible assumption | grind | grind (ematch := 40) (gen := 40) (splits := 40) | lia)⟩
            · skip
              refine qk_some ?_
              exact ⟨_, Th5i32, (by first | with_reducible assumption | grind | grind (ematch := 40) (gen := 40) (splits := 40) | lia), (by first | with_reducible assumption | grind | grind (ematch := 40) (gen := 40) (splits := 40) | lia), (by first | with_reducible assumption | grind | grind (ematch := 40) (gen := 40) (splits := 40) | lia), (by first | with_reducible assumption | grind | grind (ematch := 40) (gen := 40) (splits := 40) | lia)⟩
    · skip
      unfold f_Ed_isDone_87
      refine r_Cmd_5 T kv1 ?_
      intro x1i38 ex1i38 lx1i38 ux1i38
      subst ex1i38
      refine qk_if (fun cc39 => ?_) (fun cc39 => ?_)
      · skip
        refine r_Cmd_0 T kv1 ?_
        intro kx3i38
        refine r_Ed_o T kv0 ?_
        refine c_Ed_fits (v0 := v0) (v1 := (v1 + 1)) (sp := sp) (pg := pg) T kv0 kx3i38 ksp psp kpg ppg (by first | with_reducible assumption | grind | grind (ematch := 40) (gen := 40) (splits := 40) | lia) (by first | with_reducible assumption | grind | grind (ematch := 40) (gen := 40) (splits := 40) | lia) (by first | with_reducible assumption | grind | grind (ematch := 40) (gen := 40) (splits := 40) | lia) (by first | with_reducible assumption | grind | grind (ematch := 40) (gen := 40) (splits := 40) | lia) (by first | with_reducible assumption | grind | grind (ematch := 40) (gen := 40) (splits := 40) | lia) (by intro zz; first | exact CV.1 (by grind) zz | exact CV.2.1 (by grind) zz) (by first | with_reducible assumption | grind | grind (ematch := 40) (gen := 40) (splits := 40) | lia) ?_
        intro yr5i38 πr5i38 hr5i38 Tr5i38 zr5i38  gr5i38_0 gr5i38_1 gr5i38_2
        have psp_r5i38 : πr5i38 v0 1 = some sp := by rw [zr5i38 v0 1 (by grind) (by grind) (by grind)]; exact psp
        have ppg_r5i38 : πr5i38 v0 10 = some pg := by rw [zr5i38 v0 10 (by grind) (by grind) (by grind)]; exact ppg
        dsimp only
        refine qk_bs ?_
        refine r_Cmd_1 Tr5i38 kv1 ?_
        intro kx7i38
        refine r_Ed_o Tr5i38 kv0 ?_
        refine c_Ed_isReached (v0 := v0) (v1 := (v1 + 3)) Tr5i38 kv0 kx7i38 ?_
        intro yr9i38 gr9i38_0
        dsimp only
        refine qk_zB (by first | with_reducible assumption | grind | grind (ematch := 40) (gen := 40) (splits := 40) | lia) ?_
        refine w_Ed_16 Tr5i38 kv0 (by first | with_reducible assumption | grind | grind (ematch := 40) (gen := 40) (splits := 40) | lia) ?_
        intro h11i38 Th11i38 ih11i38 ah11i38
        refine qk_if (fun cc40 => ?_) (fun cc40 => ?_)
        · skip
          refine w_Cmd_15 Th11i38 kv1 (by first | with_reducible assumption | grind | grind (ematch := 40) (gen := 40) (splits := 40) | lia) ?_
          intro h13i38 Th13i38 ih13i38 ah13i38
          unfold f_Ed_isDone_136
          refine r_Cmd_6 Th13i38 kv1 ?_
          intro x1i41 ex1i41
          subst ex1i41
          refine qk_if (fun cc42 => ?_) (fun cc42 => ?_)
          · skip
            refine qk_some ?_
            exact ⟨_, Th13i38, (by first | with_reducible assumption | grind | grind (ematch := 40) (gen := 40) (splits := 40) | lia), (by first | with_reducible assumption | grind | grind (ematch := 40) (gen := 40) (splits := 40) | lia), (by first | with_reducible assumption | grind | grind (ematch := 40) (gen := 40) (splits := 40) | lia), (by first | with_reducible assumption | grind | grind (ematch := 40) (gen := 40) (splits := 40) | lia)⟩
          · skip
            refine qk_some ?_
            exact ⟨_, Th13i38, (by first | with_reducible assumption | grind | grind (ematch := 40) (gen := 40) (splits := 40) | lia), (by first | with_reducible assumption | grind | grind (ematch := 40) (gen := 40) (splits := 40) | lia), (by first | with_reducible assumption | grind | grind (ematch := 40) (gen := 40) (splits := 40) | lia), (by first | with_reducible assumption | grind | grind (ematch := 40) (gen := 40) (splits := 40) | lia)⟩
        · skip
          refine r_Ed_16 Th11i38 kv0 ?_
          intro x14i38 ex14i38
          subst ex14i38
          refine qk_if (fun cc43 => ?_) (fun cc43 => ?_)
          · skip
            refine w_Cmd_15 Th11i38 kv1 (by first | with_reducible assumption | grind | grind (ematch := 40) (gen := 40) (splits := 40) | lia) ?_
            intro h17i38 Th17i38 ih17i38 ah17i38
            unfold f_Ed_isDone_136
            refine r_Cmd_6 Th17i38 kv1 ?_
            intro x1i44 ex1i44
            subst ex1i44
            refine qk_if (fun cc45 => ?_) (fun cc45 => ?_)
            · skip
              refine qk_some ?_
              exact ⟨_, Th17i38, (by first | with_reducible assumption | grind | grind (ematch := 40) (gen := 40) (splits := 40) | lia), (by first | with_reducible assumption | grind | grind (ematch := 40) (gen := 40) (splits := 40) | lia), (by first | with_reducible assumption | grind | grind (ematch := 40) (gen := 40) (splits := 40) | lia), (by first | with_reducible assumption | grind | grind (ematch := 40) (gen := 40) (splits := 40) | lia)⟩
            · skip
              refine qk_some ?_
              exact ⟨_, Th17i38, (by first | with_reducible assumption | grind | grind (ematch := 40) (gen := 40) (splits := 40) | lia), (by first | with_reducible assumption | grind | grind (ematch := 40) (gen := 40) (splits := 40) | lia), (by first | with_reducible assumption | grind | grind (ematch := 40) (gen := 40) (splits := 40) | lia), (by first | with_reducible assumption | grind | grind (ematch := 40) (gen := 40) (splits := 40) | lia)⟩
          · skip
            refine w_Cmd_15 Th11i38 kv1 (by first | with_reducible assumption | grind | grind (ematch := 40) (gen := 40) (splits := 40) | lia) ?_
            intro h16i38 Th16i38 ih16i38 ah16i38
            unfold f_Ed_isDone_136
            refine r_Cmd_6 Th16i38 kv1 ?_
            intro x1i46 ex1i46
            subst ex1i46
            refine qk_if (fun cc47 => ?_) (fun cc47 => ?_)
            · skip
              refine qk_some ?_
              exact ⟨_, Th16i38, (by first | with_reducible assumption | grind | grind (ematch := 40) (gen := 40) (splits := 40) | lia), (by first | with_reducible assumption | grind | grind (ematch := 40) (gen := 40) (splits := 40) | lia), (by first | with_reducible assumption | grind | grind (ematch := 40) (gen := 40) (splits := 40) | lia), (by first | with_reducible assumption | grind | grind (ematch := 40) (gen := 40) (splits := 40) | lia)⟩
            · skip
              refine qk_some ?_
              exact ⟨_, Th16i38, (by first | with_reducible assumption | grind | grind (ematch := 40) (gen := 40) (splits := 40) | lia), (by first | with_reducible assumption | grind | grind (ematch := 40) (gen := 40) (splits := 40) | lia), (by first | with_reducible assumption | grind | grind (ematch := 40) (gen := 40) (splits := 40) | lia), (by first | with_reducible assumption | grind | grind (ematch := 40) (gen := 40) (splits := 40) | lia)⟩
      · skip
        unfold f_Ed_isDone_136
        refine r_Cmd_6 T kv1 ?_
        intro x1i48 ex1i48
        subst ex1i48
        refine qk_if (fun cc49 => ?_) (fun cc49 => ?_)
        · skip
          refine qk_some ?_
          exact ⟨_, T, (by first | with_reducible assumption | grind | grind (ematch := 40) (gen := 40) (splits := 40) | lia), (by first | with_reducible assumption | grind | grind (ematch := 40) (gen := 40) (splits := 40) | lia), (by first | with_reducible assumption | grind | grind (ematch := 40) (gen := 40) (splits := 40) | lia), (by first | with_reducible assumption | grind | grind (ematch := 40) (gen := 40) (splits := 40) | lia)⟩
        · skip
          refine qk_some ?_
          exact ⟨_, T, (by first | with_reducible assumption | grind | grind (ematch := 40) (gen := 40) (splits := 40) | lia), (by first | with_reducible assumption | grind | grind (ematch := 40) (gen := 40) (splits := 40) | lia), (by first | with_reducible assumption | grind | grind (ematch := 40) (gen := 40) (splits := 40) | lia), (by first | with_reducible assumption | grind | grind (ematch := 40) (gen := 40) (splits := 40) | lia)⟩
theorem c_Ed_isDone {L : q_L} {W : Nat → Prop} {h0 : z_H} {π : Nat → Nat → Option Nat} {N : Nat} {sp : Nat} {pg : Nat} {h : z_H} {v0 : Nat} {v1 : Nat} {β : Type} {f : Int32 × z_H → Option β} {Q : β → Prop} (T : q_U L W h0 π h) (kv0 : qκ L v0 = 4) (kv1 : qκ L v1 = 2) (ksp : qκ L sp = 11) (psp : π v0 1 = some sp) (kpg : qκ L pg = 10) (ppg : π v0 10 = some pg) (wE : ∀ a, v0 ≤ a → a < v0 + 16 → W a) (wG : ∀ a, pg ≤ a → a < pg + 249 → W a) (bsp1 : v0 + 3 ≤ sp) (bsp2 : sp + 2 ≤ v0 + 16) (bsp3 : sp ≠ v0 + 7) (hpg : v0 + 16 ≤ pg) (hc1 : pg + 9 ≤ v1) (hc2 : v1 + 6 ≤ pg + 249) (CV : q_CV h v1 (pg + 3)) (hN : 100000 ≤ N) (H : ∀ y π1 h', q_U L W h0 π1 h' → (∀ a k, ¬ (a = (v0 + 9) ∧ k = 2) → ¬ (a = (v0 + 9) ∧ k = 3) → ¬ (a = (v0 + 9) ∧ k = 4) → π1 a k = π a k) → (y = 0 ∨ y = 1) → (∀ a k, a ≠ v0 + 9 → ¬ (a = v0 ∧ k = 16) → ¬ (a = v1 ∧ k = 15) → vI h' a k = vI h a k) → (∀ a j, 0 ≤ j → ¬ (v0 + 9 < a ∧ a < v0 + 14) → vA h' a j = vA h a j) → qk (f (y, h')) Q) : qk (z_b (f_Ed_isDone N v0 v1 h) f) Q := by
  refine qk_b (p_Ed_isDone T kv0 kv1 ksp psp kpg ppg wE wG bsp1 bsp2 bsp3 hpg hc1 hc2 CV hN) ?_
  rintro ⟨y, hz⟩ ⟨π1, Tz, z0, g0, g1, g2⟩
  exact H y π1 hz Tz z0 g0 g1 g2

set_option maxHeartbeats 1000000 in
theorem p_Ed_branchIfReplaced {L : q_L} {W : Nat → Prop} {h0 : z_H} {π : Nat → Nat → Option Nat} {N : Nat} {h : z_H} {v0 : Nat} {v1 : Nat} (T : q_U L W h0 π h) (kv0 : qκ L v0 = 4) (kv1 : qκ L v1 = 2) (wE : ∀ a, v0 ≤ a → a < v0 + 16 → W a) (tg : 0 ≤ vI h v1 7) : qk (f_Ed_branchIfReplaced N v0 v1 h) (fun r => q_U L W h0 π r ∧ (∀ a k, ¬ (a = v0 ∧ (k = 13 ∨ k = 15)) → vI r a k = vI h a k) ∧ (∀ a j, vA r a j = vA h a j)) := by
  have ced := q_CEd T kv0
  unfold q_C_Ed at ced
  unfold f_Ed_branchIfReplaced
  refine r_Ed_15 T kv0 ?_
  intro x1 ex1
  subst ex1
  refine qk_if (fun cc1 => ?_) (fun cc1 => ?_)
  · skip
    refine qk_some ?_
    exact ⟨T, (by first | with_reducible assumption | grind | grind (ematch := 40) (gen := 40) (splits := 40) | lia), (by first | with_reducible assumption | grind | grind (ematch := 40) (gen := 40) (splits := 40) | lia)⟩
  · skip
    refine w_Ed_15 T kv0 (by first | with_reducible assumption | grind | grind (ematch := 40) (gen := 40) (splits := 40) | lia) ?_
    intro h3 Th3 ih3 ah3
    refine r_Cmd_7 Th3 kv1 ?_
    intro x4 ex4 lx4 ux4
    subst ex4
    refine w_Ed_13 Th3 kv0 (by first | with_reducible assumption | grind | grind (ematch := 40) (gen := 40) (splits := 40) | lia) (by first | with_reducible assumption | grind | grind (ematch := 40) (gen := 40) (splits := 40) | lia) (by first | with_reducible assumption | grind | grind (ematch := 40) (gen := 40) (splits := 40) | lia) ?_
    intro h5 Th5 ih5 ah5
    refine qk_some ?_
    exact ⟨Th5, (by first | with_reducible assumption | grind | grind (ematch := 40) (gen := 40) (splits := 40) | lia), (by first | with_reducible assumption | grind | grind (ematch := 40) (gen := 40) (splits := 40) | lia)⟩
theorem c_Ed_branchIfReplaced {L : q_L} {W : Nat → Prop} {h0 : z_H} {π : Nat → Nat → Option Nat} {N : Nat} {h : z_H} {v0 : Nat} {v1 : Nat} {β : Type} {f : z_H → Option β} {Q : β → Prop} (T : q_U L W h0 π h) (kv0 : qκ L v0 = 4) (kv1 : qκ L v1 = 2) (wE : ∀ a, v0 ≤ a → a < v0 + 16 → W a) (tg : 0 ≤ vI h v1 7) (H : ∀ h', q_U L W h0 π h' → (∀ a k, ¬ (a = v0 ∧ (k = 13 ∨ k = 15)) → vI h' a k = vI h a k) → (∀ a j, vA h' a j = vA h a j) → qk (f h') Q) : qk (z_b (f_Ed_branchIfReplaced N v0 v1 h) f) Q := by
  refine qk_b (p_Ed_branchIfReplaced T kv0 kv1 wE tg) ?_
  rintro hz ⟨Tz, g0, g1⟩
  exact H hz Tz g0 g1

set_option maxHeartbeats 1000000 in
theorem p_Ed_exchange_18_n {L : q_L} {W : Nat → Prop} {h0 : z_H} {π : Nat → Nat → Option Nat} {N : Nat} {sp : Nat} {pg : Nat} {hE : z_H} {k2 : Nat → Nat → Int32 → z_H → Option z_H} {lo : Nat → Int32} (hqn : q_Q lo 244) : ∀ (n : Nat) (v0 : Nat) (v1 : Nat) (v2 : Int32) (v3 : Int32) (h : z_H), q_U L W h0 π h → qκ L v0 = 4 → qκ L v1 = 2 → (qκ L sp = 11) → (π v0 1 = some sp) → (qκ L pg = 10) → (π v0 10 = some pg) → (∀ a, v0 ≤ a → a < v0 + 16 → W a) → (v0 + 3 ≤ sp) → (sp + 2 ≤ v0 + 16) → (sp ≠ v0 + 7) → (v0 + 16 ≤ pg) → (∀ a k, vI h a k = vI hE a k) → (∀ a j, 0 ≤ j → a ≠ sp + 1 → vA h a j = vA hE a j) → (0 ≤ v2) → (v2 < vI hE sp 1) → (0 ≤ v3) → (v3 ≤ 243) → (100000 ≤ N) → (lo n ≤ v3) → (∀ (x : Int32) (h1 : z_H), q_U L W h0 π h1 → (x = v2 + 1) → (∀ a k, vI h1 a k = vI hE a k) → (∀ a j, 0 ≤ j → a ≠ sp + 1 → vA h1 a j = vA hE a j) → qk (k2 v0 v1 x h1) (fun r => q_U L W h0 π r ∧ (∀ a k, vI r a k = vI hE a k) ∧ (∀ a j, 0 ≤ j → a ≠ sp + 1 → vA r a j = vA hE a j))) → qk (f_Ed_exchange_18 N k2 n v0 v1 v2 v3 h) (fun r => q_U L W h0 π r ∧ (∀ a k, vI r a k = vI hE a k) ∧ (∀ a j, 0 ≤ j → a ≠ sp + 1 → vA r a j = vA hE a j)) := by
  intro n
  induction n with
  | zero => intro v0 v1 v2 v3 h T kv0 kv1 ksp psp kpg ppg wE bsp1 bsp2 bsp3 hpg F1 F2 c0 c1 b0 b1 hN hms hk2; have hr_sp := q_rowhi T ksp; have hz := hqn.1; exact absurd hms (by grind)
  | succ n ih =>
    intro v0 v1 v2 v3 h T kv0 kv1 ksp psp kpg ppg wE bsp1 bsp2 bsp3 hpg F1 F2 c0 c1 b0 b1 hN hms hk2
    obtain ⟨hq1, hq2, hq3⟩ := hqn.2 n
    rw [f_Ed_exchange_18]
    have hr_sp := q_rowhi T ksp
    have ced := q_CEd T kv0
    unfold q_C_Ed at ced
    refine r_Cmd_10 T kv1 ?_
    intro x1 ex1 lx1 ux1
    subst ex1
    refine qk_if (fun cc1 => ?_) (fun cc1 => ?_)
    · skip
      unfold f_Ed_exchange_55
      refine r_Cmd_10 T kv1 ?_
      intro x1i2 ex1i2 lx1i2 ux1i2
      subst ex1i2
      refine qk_if (fun cc3 => ?_) (fun cc3 => ?_)
      · skip
        refine qk_bs ?_
        exact hk2 ((v2 + 1)) h T (by clear ih; clear hk2; first | with_reducible assumption | grind | grind (ematch := 40) (gen := 40) (splits := 40) | lia) (by clear ih; clear hk2; first | with_reducible assumption | grind | grind (ematch := 40) (gen := 40) (splits := 40) | lia) (by clear ih; clear hk2; first | with_reducible assumption | grind | grind (ematch := 40) (gen := 40) (splits := 40) | lia)
      · skip
        refine r_Ed_1 T kv0 psp ?_
        refine r_Row_0 T ksp ?_
        refine r_Ed_10 T kv0 ppg ?_
        refine r_Prog_0 T kpg ?_
        intro kx7i2 px7i2
        refine r_Cmd_11 T kv1 ?_
        intro x8i2 ex8i2 lx8i2 ux8i2
        subst ex8i2
        refine r_Cmd_9 T kv1 ?_
        intro x9i2 ex9i2 lx9i2 ux9i2
        subst ex9i2
        refine r_Row_o T kx7i2 ?_
        refine c_Row_at (v0 := (pg + 1)) (v1 := (((vI h v1 11) + v3) - (vI h v1 9))) T kx7i2 ?_
        intro yr11i2 gr11i2_0
        dsimp only
        refine w_Row_e1 T ksp (by clear ih; clear hk2; first | with_reducible assumption | grind | grind (ematch := 40) (gen := 40) (splits := 40) | lia) (by clear ih; clear hk2; first | with_reducible assumption | grind | grind (ematch := 40) (gen := 40) (splits := 40) | lia) (by clear ih; clear hk2; first | with_reducible assumption | grind | grind (ematch := 40) (gen := 40) (splits := 40) | lia) ?_
        intro h12i2 Th12i2 ih12i2 ah12i2
        refine qk_bs ?_
        exact hk2 ((v2 + 1)) h12i2 Th12i2 (by clear ih; clear hk2; first | with_reducible assumption | grind | grind (ematch := 40) (gen := 40) (splits := 40) | lia) (by clear ih; clear hk2; first | with_reducible assumption | grind | grind (ematch := 40) (gen := 40) (splits := 40) | lia) (by clear ih; clear hk2; first | with_reducible assumption | grind | grind (ematch := 40) (gen := 40) (splits := 40) | lia)
    · skip
      refine r_Ed_10 T kv0 ppg ?_
      refine r_Prog_0 T kpg ?_
      intro kx4 px4
      refine r_Row_o T kx4 ?_
      refine c_Row_at (v0 := (pg + 1)) (v1 := v3) T kx4 ?_
      intro yr6 gr6_0
      dsimp only
      refine r_Ed_1 T kv0 psp ?_
      refine r_Row_0 T ksp ?_
      refine r_Row_e1 T ksp (by clear ih; clear hk2; first | with_reducible assumption | grind | grind (ematch := 40) (gen := 40) (splits := 40) | lia) (by clear ih; clear hk2; first | with_reducible assumption | grind | grind (ematch := 40) (gen := 40) (splits := 40) | lia) ?_
      intro x9 ex9 lx9 ux9
      subst ex9
      refine qk_if (fun cc4 => ?_) (fun cc4 => ?_)
      · skip
        unfold f_Ed_exchange_55
        refine r_Cmd_10 T kv1 ?_
        intro x1i5 ex1i5 lx1i5 ux1i5
        subst ex1i5
        refine qk_if (fun cc6 => ?_) (fun cc6 => ?_)
        · skip
          refine qk_bs ?_
          exact hk2 ((v2 + 1)) h T (by clear ih; clear hk2; first | with_reducible assumption | grind | grind (ematch := 40) (gen := 40) (splits := 40) | lia) (by clear ih; clear hk2; first | with_reducible assumption | grind | grind (ematch := 40) (gen := 40) (splits := 40) | lia) (by clear ih; clear hk2; first | with_reducible assumption | grind | grind (ematch := 40) (gen := 40) (splits := 40) | lia)
        · skip
          refine r_Ed_1 T kv0 psp ?_
          refine r_Row_0 T ksp ?_
          refine r_Ed_10 T kv0 ppg ?_
          refine r_Prog_0 T kpg ?_
          intro kx7i5 px7i5
          refine r_Cmd_11 T kv1 ?_
          intro x8i5 ex8i5 lx8i5 ux8i5
          subst ex8i5
          refine r_Cmd_9 T kv1 ?_
          intro x9i5 ex9i5 lx9i5 ux9i5
          subst ex9i5
          refine r_Row_o T kx7i5 ?_
          refine c_Row_at (v0 := (pg + 1)) (v1 := (((vI h v1 11) + v3) - (vI h v1 9))) T kx7i5 ?_
          intro yr11i5 gr11i5_0
          dsimp only
          refine w_Row_e1 T ksp (by clear ih; clear hk2; first | with_reducible assumption | grind | grind (ematch := 40) (gen := 40) (splits := 40) | lia) (by clear ih; clear hk2; first | with_reducible assumption | grind | grind (ematch := 40) (gen := 40) (splits := 40) | lia) (by clear ih; clear hk2; first | with_reducible assumption | grind | grind (ematch := 40) (gen := 40) (splits := 40) | lia) ?_
          intro h12i5 Th12i5 ih12i5 ah12i5
          refine qk_bs ?_
          exact hk2 ((v2 + 1)) h12i5 Th12i5 (by clear ih; clear hk2; first | with_reducible assumption | grind | grind (ematch := 40) (gen := 40) (splits := 40) | lia) (by clear ih; clear hk2; first | with_reducible assumption | grind | grind (ematch := 40) (gen := 40) (splits := 40) | lia) (by clear ih; clear hk2; first | with_reducible assumption | grind | grind (ematch := 40) (gen := 40) (splits := 40) | lia)
      · skip
        refine qk_bs ?_
        exact ih (v0) (v1) (v2) ((v3 + 1)) h T kv0 kv1 ksp psp kpg ppg (by clear ih; clear hk2; first | with_reducible assumption | grind | grind (ematch := 40) (gen := 40) (splits := 40) | lia) (by clear ih; clear hk2; first | with_reducible assumption | grind | grind (ematch := 40) (gen := 40) (splits := 40) | lia) (by clear ih; clear hk2; first | with_reducible assumption | grind | grind (ematch := 40) (gen := 40) (splits := 40) | lia) (by clear ih; clear hk2; first | with_reducible assumption | grind | grind (ematch := 40) (gen := 40) (splits := 40) | lia) (by clear ih; clear hk2; first | with_reducible assumption | grind | grind (ematch := 40) (gen := 40) (splits := 40) | lia) (by clear ih; clear hk2; first | with_reducible assumption | grind | grind (ematch := 40) (gen := 40) (splits := 40) | lia) (by clear ih; clear hk2; first | with_reducible assumption | grind | grind (ematch := 40) (gen := 40) (splits := 40) | lia) (by clear ih; clear hk2; first | with_reducible assumption | grind | grind (ematch := 40) (gen := 40) (splits := 40) | lia) (by clear ih; clear hk2; first | with_reducible assumption | grind | grind (ematch := 40) (gen := 40) (splits := 40) | lia) (by clear ih; clear hk2; first | with_reducible assumption | grind | grind (ematch := 40) (gen := 40) (splits := 40) | lia) (by clear ih; clear hk2; first | with_reducible assumption | grind | grind (ematch := 40) (gen := 40) (splits := 40) | lia) (by clear ih; clear hk2; first | with_reducible assumption | grind | grind (ematch := 40) (gen := 40) (splits := 40) | lia) (by clear ih; clear hk2; first | with_reducible assumption | grind | grind (ematch := 40) (gen := 40) (splits := 40) | lia) hk2
theorem p_Ed_exchange_18 {L : q_L} {W : Nat → Prop} {h0 : z_H} {π : Nat → Nat → Option Nat} {N : Nat} {sp : Nat} {pg : Nat} {hE : z_H} {k2 : Nat → Nat → Int32 → z_H → Option z_H} {h : z_H} {v0 : Nat} {v1 : Nat} {v2 : Int32} {v3 : Int32} (T : q_U L W h0 π h) (kv0 : qκ L v0 = 4) (kv1 : qκ L v1 = 2) (ksp : qκ L sp = 11) (psp : π v0 1 = some sp) (kpg : qκ L pg = 10) (ppg : π v0 10 = some pg) (wE : ∀ a, v0 ≤ a → a < v0 + 16 → W a) (bsp1 : v0 + 3 ≤ sp) (bsp2 : sp + 2 ≤ v0 + 16) (bsp3 : sp ≠ v0 + 7) (hpg : v0 + 16 ≤ pg) (F1 : ∀ a k, vI h a k = vI hE a k) (F2 : ∀ a j, 0 ≤ j → a ≠ sp + 1 → vA h a j = vA hE a j) (c0 : 0 ≤ v2) (c1 : v2 < vI hE sp 1) (b0 : 0 ≤ v3) (b1 : v3 ≤ 243) (hN : 100000 ≤ N) (hk2 : (∀ (x : Int32) (h1 : z_H), q_U L W h0 π h1 → (x = v2 + 1) → (∀ a k, vI h1 a k = vI hE a k) → (∀ a j, 0 ≤ j → a ≠ sp + 1 → vA h1 a j = vA hE a j) → qk (k2 v0 v1 x h1) (fun r => q_U L W h0 π r ∧ (∀ a k, vI r a k = vI hE a k) ∧ (∀ a j, 0 ≤ j → a ≠ sp + 1 → vA r a j = vA hE a j)))) : qk (f_Ed_exchange_18 N k2 N v0 v1 v2 v3 h) (fun r => q_U L W h0 π r ∧ (∀ a k, vI r a k = vI hE a k) ∧ (∀ a j, 0 ≤ j → a ≠ sp + 1 → vA r a j = vA hE a j)) := by
  have hq := q_qnN hN
  have hr_sp := q_rowhi T ksp
  refine p_Ed_exchange_18_n (q_lo (M := 244) (by decide) (by decide)) N v0 v1 v2 v3 h T kv0 kv1 ksp psp kpg ppg wE bsp1 bsp2 bsp3 hpg F1 F2 c0 c1 b0 b1 hN ?_ hk2
  show 244 - q_n N ≤ _
  rw [hq]
  lia

set_option maxHeartbeats 1000000 in
theorem p_Ed_exchange_2_n {L : q_L} {W : Nat → Prop} {h0 : z_H} {π : Nat → Nat → Option Nat} {N : Nat} {sp : Nat} {pg : Nat} {hE : z_H} {lo : Nat → Int32} (hqn : q_Q lo 602) : ∀ (n : Nat) (v0 : Nat) (v1 : Nat) (v2 : Int32) (h : z_H), q_U L W h0 π h → qκ L v0 = 4 → qκ L v1 = 2 → (qκ L sp = 11) → (π v0 1 = some sp) → (qκ L pg = 10) → (π v0 10 = some pg) → (∀ a, v0 ≤ a → a < v0 + 16 → W a) → (v0 + 3 ≤ sp) → (sp + 2 ≤ v0 + 16) → (sp ≠ v0 + 7) → (v0 + 16 ≤ pg) → (∀ a k, vI h a k = vI hE a k) → (∀ a j, 0 ≤ j → a ≠ sp + 1 → vA h a j = vA hE a j) → (0 ≤ v2) → (v2 ≤ 601) → (100000 ≤ N) → (lo n ≤ v2) → qk (f_Ed_exchange_2 N  n v0 v1 v2 h) (fun r => q_U L W h0 π r ∧ (∀ a k, vI r a k = vI hE a k) ∧ (∀ a j, 0 ≤ j → a ≠ sp + 1 → vA r a j = vA hE a j)) := by
  intro n
  induction n with
  | zero => intro v0 v1 v2 h T kv0 kv1 ksp psp kpg ppg wE bsp1 bsp2 bsp3 hpg F1 F2 c0 c1 hN hms; have hr_sp := q_rowhi T ksp; have hz := hqn.1; exact absurd hms (by grind)
  | succ n ih =>
    intro v0 v1 v2 h T kv0 kv1 ksp psp kpg ppg wE bsp1 bsp2 bsp3 hpg F1 F2 c0 c1 hN hms
    obtain ⟨hq1, hq2, hq3⟩ := hqn.2 n
    rw [f_Ed_exchange_2]
    have hr_sp := q_rowhi T ksp
    have ced := q_CEd T kv0
    unfold q_C_Ed at ced
    refine r_Ed_1 T kv0 psp ?_
    refine r_Row_1 T ksp ?_
    intro x2 ex2 lx2 ux2 mx2
    subst ex2
    refine qk_if (fun cc1 => ?_) (fun cc1 => ?_)
    · skip
      refine qk_some ?_
      exact ⟨T, (by clear ih; first | with_reducible assumption | grind | grind (ematch := 40) (gen := 40) (splits := 40) | lia), (by clear ih; first | with_reducible assumption | grind | grind (ematch := 40) (gen := 40) (splits := 40) | lia)⟩
    · skip
      refine r_Cmd_9 T kv1 ?_
      intro x4 ex4 lx4 ux4
      subst ex4
      refine p_Ed_exchange_18 (v0 := v0) (v1 := v1) (v2 := v2) (v3 := (vI h v1 9)) (sp := sp) (pg := pg) (hE := hE) T kv0 kv1 ksp psp kpg ppg (by clear ih; first | with_reducible assumption | grind | grind (ematch := 40) (gen := 40) (splits := 40) | lia) (by clear ih; first | with_reducible assumption | grind | grind (ematch := 40) (gen := 40) (splits := 40) | lia) (by clear ih; first | with_reducible assumption | grind | grind (ematch := 40) (gen := 40) (splits := 40) | lia) (by clear ih; first | with_reducible assumption | grind | grind (ematch := 40) (gen := 40) (splits := 40) | lia) (by clear ih; first | with_reducible assumption | grind | grind (ematch := 40) (gen := 40) (splits := 40) | lia) (by clear ih; first | with_reducible assumption | grind | grind (ematch := 40) (gen := 40) (splits := 40) | lia) (by clear ih; first | with_reducible assumption | grind | grind (ematch := 40) (gen := 40) (splits := 40) | lia) (by clear ih; first | with_reducible assumption | grind | grind (ematch := 40) (gen := 40) (splits := 40) | lia) (by clear ih; first | with_reducible assumption | grind | grind (ematch := 40) (gen := 40) (splits := 40) | lia) (by clear ih; first | with_reducible assumption | grind | grind (ematch := 40) (gen := 40) (splits := 40) | lia) (by clear ih; first | with_reducible assumption | grind | grind (ematch := 40) (gen := 40) (splits := 40) | lia) (by clear ih; first | with_reducible assumption | grind | grind (ematch := 40) (gen := 40) (splits := 40) | lia) ?_
      · intro x_2 h_2 T_2 ex_2 G1_2 G2_2
        exact ih v0 v1 x_2 h_2 T_2 kv0 kv1 ksp psp kpg ppg (by clear ih; first | with_reducible assumption | grind | grind (ematch := 40) (gen := 40) (splits := 40) | lia) (by clear ih; first | with_reducible assumption | grind | grind (ematch := 40) (gen := 40) (splits := 40) | lia) (by clear ih; first | with_reducible assumption | grind | grind (ematch := 40) (gen := 40) (splits := 40) | lia) (by clear ih; first | with_reducible assumption | grind | grind (ematch := 40) (gen := 40) (splits := 40) | lia) (by clear ih; first | with_reducible assumption | grind | grind (ematch := 40) (gen := 40) (splits := 40) | lia) (by clear ih; first | with_reducible assumption | grind | grind (ematch := 40) (gen := 40) (splits := 40) | lia) (by clear ih; first | with_reducible assumption | grind | grind (ematch := 40) (gen := 40) (splits := 40) | lia) (by clear ih; first | with_reducible assumption | grind | grind (ematch := 40) (gen := 40) (splits := 40) | lia) (by clear ih; first | with_reducible assumption | grind | grind (ematch := 40) (gen := 40) (splits := 40) | lia) (by clear ih; first | with_reducible assumption | grind | grind (ematch := 40) (gen := 40) (splits := 40) | lia) (by clear ih; first | with_reducible assumption | grind | grind (ematch := 40) (gen := 40) (splits := 40) | lia) 
theorem p_Ed_exchange_2 {L : q_L} {W : Nat → Prop} {h0 : z_H} {π : Nat → Nat → Option Nat} {N : Nat} {sp : Nat} {pg : Nat} {hE : z_H} {h : z_H} {v0 : Nat} {v1 : Nat} {v2 : Int32} (T : q_U L W h0 π h) (kv0 : qκ L v0 = 4) (kv1 : qκ L v1 = 2) (ksp : qκ L sp = 11) (psp : π v0 1 = some sp) (kpg : qκ L pg = 10) (ppg : π v0 10 = some pg) (wE : ∀ a, v0 ≤ a → a < v0 + 16 → W a) (bsp1 : v0 + 3 ≤ sp) (bsp2 : sp + 2 ≤ v0 + 16) (bsp3 : sp ≠ v0 + 7) (hpg : v0 + 16 ≤ pg) (F1 : ∀ a k, vI h a k = vI hE a k) (F2 : ∀ a j, 0 ≤ j → a ≠ sp + 1 → vA h a j = vA hE a j) (c0 : 0 ≤ v2) (c1 : v2 ≤ 601) (hN : 100000 ≤ N) : qk (f_Ed_exchange_2 N  N v0 v1 v2 h) (fun r => q_U L W h0 π r ∧ (∀ a k, vI r a k = vI hE a k) ∧ (∀ a j, 0 ≤ j → a ≠ sp + 1 → vA r a j = vA hE a j)) := by
  have hq := q_qnN hN
  have hr_sp := q_rowhi T ksp
  refine p_Ed_exchange_2_n (q_lo (M := 602) (by decide) (by decide)) N v0 v1 v2 h T kv0 kv1 ksp psp kpg ppg wE bsp1 bsp2 bsp3 hpg F1 F2 c0 c1 hN ?_ 
  show 602 - q_n N ≤ _
  rw [hq]
  lia

set_option maxHeartbeats 1000000 in
theorem p_Ed_exchange {L : q_L} {W : Nat → Prop} {h0 : z_H} {π : Nat → Nat → Option Nat} {N : Nat} {sp : Nat} {pg : Nat} {h : z_H} {v0 : Nat} {v1 : Nat} (T : q_U L W h0 π h) (kv0 : qκ L v0 = 4) (kv1 : qκ L v1 = 2) (ksp : qκ L sp = 11) (psp : π v0 1 = some sp) (kpg : qκ L pg = 10) (ppg : π v0 10 = some pg) (wE : ∀ a, v0 ≤ a → a < v0 + 16 → W a) (bsp1 : v0 + 3 ≤ sp) (bsp2 : sp + 2 ≤ v0 + 16) (bsp3 : sp ≠ v0 + 7) (hpg : v0 + 16 ≤ pg) (hN : 100000 ≤ N) : qk (f_Ed_exchange N v0 v1 h) (fun r => q_U L W h0 π r ∧ (∀ a k, vI r a k = vI h a k) ∧ (∀ a j, 0 ≤ j → a ≠ sp + 1 → vA r a j = vA h a j)) := by
  have hr_sp := q_rowhi T ksp
  have ced := q_CEd T kv0
  unfold q_C_Ed at ced
  unfold f_Ed_exchange
  refine p_Ed_exchange_2 (v0 := v0) (v1 := v1) (v2 := 0) (sp := sp) (pg := pg) (hE := h) T kv0 kv1 ksp psp kpg ppg (by first | with_reducible assumption | grind | grind (ematch := 40) (gen := 40) (splits := 40) | lia) (by first | with_reducible assumption | grind | grind (ematch := 40) (gen := 40) (splits := 40) | lia) (by first | with_reducible assumption | grind | grind (ematch := 40) (gen := 40) (splits := 40) | lia) (by first | with_reducible assumption | grind | grind (ematch := 40) (gen := 40) (splits := 40) | lia) (by first | with_reducible assumption | grind | grind (ematch := 40) (gen := 40) (splits := 40) | lia) (by first | with_reducible assumption | grind | grind (ematch := 40) (gen := 40) (splits := 40) | lia) (by first | with_reducible assumption | grind | grind (ematch := 40) (gen := 40) (splits := 40) | lia) (by first | with_reducible assumption | grind | grind (ematch := 40) (gen := 40) (splits := 40) | lia) (by first | with_reducible assumption | grind | grind (ematch := 40) (gen := 40) (splits := 40) | lia) (by first | with_reducible assumption | grind | grind (ematch := 40) (gen := 40) (splits := 40) | lia) 
theorem c_Ed_exchange {L : q_L} {W : Nat → Prop} {h0 : z_H} {π : Nat → Nat → Option Nat} {N : Nat} {sp : Nat} {pg : Nat} {h : z_H} {v0 : Nat} {v1 : Nat} {β : Type} {f : z_H → Option β} {Q : β → Prop} (T : q_U L W h0 π h) (kv0 : qκ L v0 = 4) (kv1 : qκ L v1 = 2) (ksp : qκ L sp = 11) (psp : π v0 1 = some sp) (kpg : qκ L pg = 10) (ppg : π v0 10 = some pg) (wE : ∀ a, v0 ≤ a → a < v0 + 16 → W a) (bsp1 : v0 + 3 ≤ sp) (bsp2 : sp + 2 ≤ v0 + 16) (bsp3 : sp ≠ v0 + 7) (hpg : v0 + 16 ≤ pg) (hN : 100000 ≤ N) (H : ∀ h', q_U L W h0 π h' → (∀ a k, vI h' a k = vI h a k) → (∀ a j, 0 ≤ j → a ≠ sp + 1 → vA h' a j = vA h a j) → qk (f h') Q) : qk (z_b (f_Ed_exchange N v0 v1 h) f) Q := by
  refine qk_b (p_Ed_exchange T kv0 kv1 ksp psp kpg ppg wE bsp1 bsp2 bsp3 hpg hN) ?_
  rintro hz ⟨Tz, g0, g1⟩
  exact H hz Tz g0 g1

set_option maxHeartbeats 1000000 in
theorem p_Ed_copy {L : q_L} {W : Nat → Prop} {h0 : z_H} {π : Nat → Nat → Option Nat} {N : Nat} {h : z_H} {v0 : Nat} {v1 : Nat} {v2 : Nat} (T : q_U L W h0 π h) (kv0 : qκ L v0 = 4) (kv1 : qκ L v1 = 11) (kv2 : qκ L v2 = 11) (wE : ∀ a, v0 ≤ a → a < v0 + 16 → W a) (w0 : W v2) (w1 : W (v2 + 1)) (hN : 100000 ≤ N) : qk (f_Ed_copy N v0 v1 v2 h) (fun r => q_U L W h0 π r ∧ (∀ a k, ¬ (a = v2 ∧ k = 1) → vI r a k = vI h a k) ∧ (∀ a j, 0 ≤ j → a ≠ v2 + 1 → vA r a j = vA h a j)) := by
  have hr_v1 := q_rowhi T kv1
  have hr_v2 := q_rowhi T kv2
  unfold f_Ed_copy
  refine r_Row_o T kv2 ?_
  refine c_Row_empty (v0 := v2) T kv2 (by first | with_reducible assumption | grind | grind (ematch := 40) (gen := 40) (splits := 40) | lia) ?_
  intro r2 Tr2 gr2_0 gr2_1
  refine r_Row_1 Tr2 kv1 ?_
  intro x3 ex3 lx3 ux3 mx3
  subst ex3
  refine r_Row_o Tr2 kv2 ?_
  refine c_Row_addPart (v0 := v2) (v1 := v1) (v2 := 0) (v3 := (vI r2 v1 1)) Tr2 kv2 kv1 (by first | with_reducible assumption | grind | grind (ematch := 40) (gen := 40) (splits := 40) | lia) (by first | with_reducible assumption | grind | grind (ematch := 40) (gen := 40) (splits := 40) | lia) (by first | with_reducible assumption | grind | grind (ematch := 40) (gen := 40) (splits := 40) | lia) (by first | with_reducible assumption | grind | grind (ematch := 40) (gen := 40) (splits := 40) | lia) (by first | with_reducible assumption | grind | grind (ematch := 40) (gen := 40) (splits := 40) | lia) ?_
  intro r5 Tr5 gr5_0 gr5_1
  refine qk_some ?_
  exact ⟨Tr5, (by first | with_reducible assumption | grind | grind (ematch := 40) (gen := 40) (splits := 40) | lia), (by first | with_reducible assumption | grind | grind (ematch := 40) (gen := 40) (splits := 40) | lia)⟩
theorem c_Ed_copy {L : q_L} {W : Nat → Prop} {h0 : z_H} {π : Nat → Nat → Option Nat} {N : Nat} {h : z_H} {v0 : Nat} {v1 : Nat} {v2 : Nat} {β : Type} {f : z_H → Option β} {Q : β → Prop} (T : q_U L W h0 π h) (kv0 : qκ L v0 = 4) (kv1 : qκ L v1 = 11) (kv2 : qκ L v2 = 11) (wE : ∀ a, v0 ≤ a → a < v0 + 16 → W a) (w0 : W v2) (w1 : W (v2 + 1)) (hN : 100000 ≤ N) (H : ∀ h', q_U L W h0 π h' → (∀ a k, ¬ (a = v2 ∧ k = 1) → vI h' a k = vI h a k) → (∀ a j, 0 ≤ j → a ≠ v2 + 1 → vA h' a j = vA h a j) → qk (f h') Q) : qk (z_b (f_Ed_copy N v0 v1 v2 h) f) Q := by
  refine qk_b (p_Ed_copy T kv0 kv1 kv2 wE w0 w1 hN) ?_
  rintro hz ⟨Tz, g0, g1⟩
  exact H hz Tz g0 g1

set_option maxHeartbeats 1000000 in
theorem p_Ed_swap {L : q_L} {W : Nat → Prop} {h0 : z_H} {π : Nat → Nat → Option Nat} {N : Nat} {sp : Nat} {ho : Nat} {h : z_H} {v0 : Nat} (T : q_U L W h0 π h) (kv0 : qκ L v0 = 4) (ksp : qκ L sp = 11) (psp : π v0 1 = some sp) (kho : qκ L ho = 11) (pho : π v0 2 = some ho) (wE : ∀ a, v0 ≤ a → a < v0 + 16 → W a) : qk (f_Ed_swap N v0 h) (fun r => ∃ π1, q_U L W h0 π1 r ∧ (∀ a k, ¬ (a = v0 ∧ k = 1) → ¬ (a = v0 ∧ k = 2) → π1 a k = π a k) ∧ (π1 v0 1 = some ho) ∧ (π1 v0 2 = some sp) ∧ (∀ a k, vI r a k = vI h a k) ∧ (∀ a j, vA r a j = vA h a j)) := by
  have hr_sp := q_rowhi T ksp
  have hr_ho := q_rowhi T kho
  unfold f_Ed_swap
  refine r_Ed_1 T kv0 psp ?_
  refine r_Ed_2 T kv0 pho ?_
  refine w_Ed_1 (q := ho) T kv0 (by first | with_reducible assumption | grind | grind (ematch := 40) (gen := 40) (splits := 40) | lia) ?_
  intro πh3 h3 Th3 ph3 ih3 ah3
  have pho_h3 : πh3 v0 2 = some ho := by rw [ph3, if_neg (by grind)]; exact pho
  have q1_h3 : πh3 v0 1 = some ho := by rw [ph3, if_pos ⟨rfl, rfl⟩]
  refine w_Ed_2 (q := sp) Th3 kv0 (by first | with_reducible assumption | grind | grind (ematch := 40) (gen := 40) (splits := 40) | lia) ?_
  intro πh4 h4 Th4 ph4 ih4 ah4
  have q1_h4 : πh4 v0 1 = some ho := by rw [ph4, if_neg (by grind)]; exact q1_h3
  have q2_h4 : πh4 v0 2 = some sp := by rw [ph4, if_pos ⟨rfl, rfl⟩]
  refine qk_some ?_
  exact ⟨_, Th4, (by first | with_reducible assumption | grind | grind (ematch := 40) (gen := 40) (splits := 40) | lia), (by first | with_reducible assumption | grind | grind (ematch := 40) (gen := 40) (splits := 40) | lia), (by first | with_reducible assumption | grind | grind (ematch := 40) (gen := 40) (splits := 40) | lia), (by first | with_reducible assumption | grind | grind (ematch := 40) (gen := 40) (splits := 40) | lia), (by first | with_reducible assumption | grind | grind (ematch := 40) (gen := 40) (splits := 40) | lia)⟩
theorem c_Ed_swap {L : q_L} {W : Nat → Prop} {h0 : z_H} {π : Nat → Nat → Option Nat} {N : Nat} {sp : Nat} {ho : Nat} {h : z_H} {v0 : Nat} {β : Type} {f : z_H → Option β} {Q : β → Prop} (T : q_U L W h0 π h) (kv0 : qκ L v0 = 4) (ksp : qκ L sp = 11) (psp : π v0 1 = some sp) (kho : qκ L ho = 11) (pho : π v0 2 = some ho) (wE : ∀ a, v0 ≤ a → a < v0 + 16 → W a) (H : ∀ π1 h', q_U L W h0 π1 h' → (∀ a k, ¬ (a = v0 ∧ k = 1) → ¬ (a = v0 ∧ k = 2) → π1 a k = π a k) → (π1 v0 1 = some ho) → (π1 v0 2 = some sp) → (∀ a k, vI h' a k = vI h a k) → (∀ a j, vA h' a j = vA h a j) → qk (f h') Q) : qk (z_b (f_Ed_swap N v0 h) f) Q := by
  refine qk_b (p_Ed_swap T kv0 ksp psp kho pho wE) ?_
  rintro hz ⟨π1, Tz, z0, z1, z2, g0, g1⟩
  exact H π1 hz Tz z0 z1 z2 g0 g1
