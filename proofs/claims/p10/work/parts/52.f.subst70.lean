theorem zz_d45f65319a {a1 a2 a3 : Int32} (h0 : (a1 = 0) → (a2 ≤ a3)) : (a1 = 0) → ((a2 ≤ a2) ∧ (a2 ≤ a3)) := by lia
theorem zz_683f148354 {a1 : Int32} (h0 : a1 ≤ 245) : (a1 ≤ a1) ∧ (a1 ≤ 246) := by lia
theorem zz_31e838399c {a1 : Int32}  : (a1 = 0) → (a1 = 0) := by simp only [Int32.le_iff_toInt_le, Int32.lt_iff_toInt_lt, ← Int32.toInt_inj, ne_eq] at *; have l0 : (0 : Int32).toInt = 0 := (by decide); omega
theorem zz_be4928651b {a1 : Int32} (h0 : a1 ≤ 245) (h1 : (0 ≤ a1) ∧ (a1 ≤ 250)) : a1 + 1 ≤ 250 := by simp only [Int32.le_iff_toInt_le, Int32.lt_iff_toInt_lt, ← Int32.toInt_inj, ne_eq] at *; have l0 : (245 : Int32).toInt = 245 := (by decide); have l1 : (0 : Int32).toInt = 0 := (by decide); have l2 : (250 : Int32).toInt = 250 := (by decide); have l3 : (1 : Int32).toInt = 1 := (by decide); have s0 : (a1 + 1).toInt = a1.toInt + 1 := q_tA (by decide) (by omega) (by omega); omega
theorem zz_2034cfc662 {a1 a2 a3 a4 a5 a6 : Int32} (h0 : a1 = a2 + 1) (h1 : a3 = a4) (h2 : (a5 ≠ -1) → (a2 < a4)) (h3 : a5 = 103) (h4 : (0 ≤ a2) ∧ (a2 ≤ 250)) : (a6 = 0) → (a1 ≤ a3) := by simp only [Int32.le_iff_toInt_le, Int32.lt_iff_toInt_lt, ← Int32.toInt_inj, ne_eq] at *; have l0 : (1 : Int32).toInt = 1 := (by decide); have l1 : (-1 : Int32).toInt = -1 := (by decide); have l2 : (103 : Int32).toInt = 103 := (by decide); have l3 : (0 : Int32).toInt = 0 := (by decide); have l4 : (250 : Int32).toInt = 250 := (by decide); have s0 : (a2 + 1).toInt = a2.toInt + 1 := q_tA (by decide) (by omega) (by omega); omega
theorem zz_d4c0511bd9 {a1 a2 a3 : Int32} (h0 : a1 = a2) (h1 : (a3 ≠ 0) → (a2 = 0)) (h2 : ¬ (a3 = 0)) : ((1 : Int32) ≠ 0) → (a1 = 0) := by lia
theorem zz_dcb675bef3 {a1 a2 a3 a4 : Int32} (h0 : a1 = a2 + 1) (h1 : (0 ≤ a3) ∧ (a3 ≤ 240)) (h2 : (a4 ≠ -1) → (a2 < a3)) (h3 : a4 = 103) (h4 : (0 ≤ a2) ∧ (a2 ≤ 250)) : a1 ≤ 245 := by simp only [Int32.le_iff_toInt_le, Int32.lt_iff_toInt_lt, ← Int32.toInt_inj, ne_eq] at *; have l0 : (1 : Int32).toInt = 1 := (by decide); have l1 : (0 : Int32).toInt = 0 := (by decide); have l2 : (240 : Int32).toInt = 240 := (by decide); have l3 : (-1 : Int32).toInt = -1 := (by decide); have l4 : (103 : Int32).toInt = 103 := (by decide); have l5 : (250 : Int32).toInt = 250 := (by decide); have l6 : (245 : Int32).toInt = 245 := (by decide); have s0 : (a2 + 1).toInt = a2.toInt + 1 := q_tA (by decide) (by omega) (by omega); omega
theorem zz_4bb052608b {a1 a2 a3 a4 : Int32} (h0 : a1 = a2 + 1) (h1 : a3 ≤ a2) (h2 : a4 ≤ a3 + 1) (h3 : -100000 ≤ a3) (h4 : a2 ≤ 245) (h5 : (0 ≤ a2) ∧ (a2 ≤ 250)) : a4 ≤ a1 := by simp only [Int32.le_iff_toInt_le, Int32.lt_iff_toInt_lt, ← Int32.toInt_inj, ne_eq] at *; have l0 : (1 : Int32).toInt = 1 := (by decide); have l1 : (-100000 : Int32).toInt = -100000 := (by decide); have l2 : (245 : Int32).toInt = 245 := (by decide); have l3 : (0 : Int32).toInt = 0 := (by decide); have l4 : (250 : Int32).toInt = 250 := (by decide); have s0 : (a2 + 1).toInt = a2.toInt + 1 := q_tA (by decide) (by omega) (by omega); have s1 : (a3 + 1).toInt = a3.toInt + 1 := q_tA (by decide) (by omega) (by omega); omega
theorem zz_e1ffe81a38 {a1 a2 a3 a4 a5 a6 : Int32} (h0 : (a1 = 0) → ((a2 ≤ a3) ∧ (a3 ≤ a4))) (h1 : a2 = a5 + 1) (h2 : a4 = a6) (h3 : (0 ≤ a5) ∧ (a5 ≤ 250)) : (a1 = 0) → ((a5 ≤ a3) ∧ (a3 ≤ a6)) := by simp only [Int32.le_iff_toInt_le, Int32.lt_iff_toInt_lt, ← Int32.toInt_inj, ne_eq] at *; have l0 : (0 : Int32).toInt = 0 := (by decide); have l1 : (1 : Int32).toInt = 1 := (by decide); have l2 : (250 : Int32).toInt = 250 := (by decide); have s0 : (a5 + 1).toInt = a5.toInt + 1 := q_tA (by decide) (by omega) (by omega); omega
theorem zz_90b9611921 {a1 a2 a3 : Int32} (h0 : a1 = a2 + 1) (h1 : (a1 ≤ a3) ∧ (a3 ≤ 246)) (h2 : (0 ≤ a2) ∧ (a2 ≤ 250)) : (a2 ≤ a3) ∧ (a3 ≤ 246) := by simp only [Int32.le_iff_toInt_le, Int32.lt_iff_toInt_lt, ← Int32.toInt_inj, ne_eq] at *; have l0 : (1 : Int32).toInt = 1 := (by decide); have l1 : (246 : Int32).toInt = 246 := (by decide); have l2 : (0 : Int32).toInt = 0 := (by decide); have l3 : (250 : Int32).toInt = 250 := (by decide); have s0 : (a2 + 1).toInt = a2.toInt + 1 := q_tA (by decide) (by omega) (by omega); omega
theorem zz_51145fd40a {a1 a2 a3 : Int32} (h0 : (a1 = 0) → (a2 = 0)) (h1 : a2 = a3) : (a1 = 0) → (a3 = 0) := by simp only [Int32.le_iff_toInt_le, Int32.lt_iff_toInt_lt, ← Int32.toInt_inj, ne_eq] at *; have l0 : (0 : Int32).toInt = 0 := (by decide); omega
theorem zz_9652ae366c {a1 a2 a3 a4 : Int32} (h0 : a1 = 103) (h1 : a1 = 112) : (a2 = 0) → (a3 ≤ a4) := by simp only [Int32.le_iff_toInt_le, Int32.lt_iff_toInt_lt, ← Int32.toInt_inj, ne_eq] at *; have l0 : (103 : Int32).toInt = 103 := (by decide); have l1 : (112 : Int32).toInt = 112 := (by decide); have l2 : (0 : Int32).toInt = 0 := (by decide); omega
theorem zz_8abc27a2a4 {a1 a2 : Int32} (h0 : a1 = 103) (h1 : a1 = 112) : a2 ≤ 245 := by simp only [Int32.le_iff_toInt_le, Int32.lt_iff_toInt_lt, ← Int32.toInt_inj, ne_eq] at *; have l0 : (103 : Int32).toInt = 103 := (by decide); have l1 : (112 : Int32).toInt = 112 := (by decide); have l2 : (245 : Int32).toInt = 245 := (by decide); omega
theorem zz_fec31642e6 {a1 a2 a3 a4 : Int32} (h0 : a1 = 1) : (a1 = 0) → ((a2 ≤ a3) ∧ (a3 ≤ a4)) := by simp only [Int32.le_iff_toInt_le, Int32.lt_iff_toInt_lt, ← Int32.toInt_inj, ne_eq] at *; have l0 : (1 : Int32).toInt = 1 := (by decide); have l1 : (0 : Int32).toInt = 0 := (by decide); omega
theorem zz_5d4b6079a7 {a1 a2 : Int32} (h0 : a1 = a2) (h1 : a2 ≤ 245) : (a2 ≤ a1) ∧ (a1 ≤ 246) := by simp only [Int32.le_iff_toInt_le, Int32.lt_iff_toInt_lt, ← Int32.toInt_inj, ne_eq] at *; have l0 : (245 : Int32).toInt = 245 := (by decide); have l1 : (246 : Int32).toInt = 246 := (by decide); omega
theorem zz_a50cc5585c {a1 a2 : Int32} (h0 : a1 = 1) : (a1 = 0) → (a2 = 0) := by simp only [Int32.le_iff_toInt_le, Int32.lt_iff_toInt_lt, ← Int32.toInt_inj, ne_eq] at *; have l0 : (1 : Int32).toInt = 1 := (by decide); have l1 : (0 : Int32).toInt = 0 := (by decide); omega
theorem zz_51f2f57837 {a1 a2 a3 a4 : Int32} (h0 : a1 = 112) (h1 : a1 = 103) : (a2 = 0) → (a3 ≤ a4) := by simp only [Int32.le_iff_toInt_le, Int32.lt_iff_toInt_lt, ← Int32.toInt_inj, ne_eq] at *; have l0 : (112 : Int32).toInt = 112 := (by decide); have l1 : (103 : Int32).toInt = 103 := (by decide); have l2 : (0 : Int32).toInt = 0 := (by decide); omega
theorem zz_064b0c980b {a1 a2 : Int32} (h0 : a1 = 112) (h1 : a1 = 103) : a2 ≤ 245 := by simp only [Int32.le_iff_toInt_le, Int32.lt_iff_toInt_lt, ← Int32.toInt_inj, ne_eq] at *; have l0 : (112 : Int32).toInt = 112 := (by decide); have l1 : (103 : Int32).toInt = 103 := (by decide); have l2 : (245 : Int32).toInt = 245 := (by decide); omega
theorem zz_6cfd15d0aa {a1 a2 a3 a4 a5 a6 : Int32} (h0 : a1 = a2 + 1) (h1 : a3 = a4) (h2 : (a5 ≠ -1) → (a2 < a4)) (h3 : a5 = 112) (h4 : (0 ≤ a2) ∧ (a2 ≤ 250)) : (a6 = 0) → (a1 ≤ a3) := by simp only [Int32.le_iff_toInt_le, Int32.lt_iff_toInt_lt, ← Int32.toInt_inj, ne_eq] at *; have l0 : (1 : Int32).toInt = 1 := (by decide); have l1 : (-1 : Int32).toInt = -1 := (by decide); have l2 : (112 : Int32).toInt = 112 := (by decide); have l3 : (0 : Int32).toInt = 0 := (by decide); have l4 : (250 : Int32).toInt = 250 := (by decide); have s0 : (a2 + 1).toInt = a2.toInt + 1 := q_tA (by decide) (by omega) (by omega); omega
theorem zz_5ba8c167ed {a1 a2 a3 a4 : Int32} (h0 : a1 = a2 + 1) (h1 : (0 ≤ a3) ∧ (a3 ≤ 240)) (h2 : (a4 ≠ -1) → (a2 < a3)) (h3 : a4 = 112) (h4 : (0 ≤ a2) ∧ (a2 ≤ 250)) : a1 ≤ 245 := by simp only [Int32.le_iff_toInt_le, Int32.lt_iff_toInt_lt, ← Int32.toInt_inj, ne_eq] at *; have l0 : (1 : Int32).toInt = 1 := (by decide); have l1 : (0 : Int32).toInt = 0 := (by decide); have l2 : (240 : Int32).toInt = 240 := (by decide); have l3 : (-1 : Int32).toInt = -1 := (by decide); have l4 : (112 : Int32).toInt = 112 := (by decide); have l5 : (250 : Int32).toInt = 250 := (by decide); have l6 : (245 : Int32).toInt = 245 := (by decide); have s0 : (a2 + 1).toInt = a2.toInt + 1 := q_tA (by decide) (by omega) (by omega); omega
theorem zz_fb90687127 {a1 a2 a3 a4 a5 a6 a7 : Int32} (h0 : a1 = a2 + 1) (h1 : a3 = a4) (h2 : (a5 ≠ -1) → (a2 < a4)) (h3 : (a6 = 0) ↔ ((a5 < 49) ∨ (57 < a5))) (h4 : ¬ (a6 = 0)) (h5 : (0 ≤ a2) ∧ (a2 ≤ 250)) : (a7 = 0) → (a1 ≤ a3) := by simp only [Int32.le_iff_toInt_le, Int32.lt_iff_toInt_lt, ← Int32.toInt_inj, ne_eq] at *; have l0 : (1 : Int32).toInt = 1 := (by decide); have l1 : (-1 : Int32).toInt = -1 := (by decide); have l2 : (0 : Int32).toInt = 0 := (by decide); have l3 : (49 : Int32).toInt = 49 := (by decide); have l4 : (57 : Int32).toInt = 57 := (by decide); have l5 : (250 : Int32).toInt = 250 := (by decide); have s0 : (a2 + 1).toInt = a2.toInt + 1 := q_tA (by decide) (by omega) (by omega); omega
theorem zz_650a223098 {a1 a2 a3 a4 : Int32} (h0 : a1 = a2 + 1) (h1 : (a3 ≠ -1) → (a2 < 240)) (h2 : (a4 = 0) ↔ ((a3 < 49) ∨ (57 < a3))) (h3 : ¬ (a4 = 0)) (h4 : (0 ≤ a2) ∧ (a2 ≤ 250)) : a1 ≤ 245 := by simp only [Int32.le_iff_toInt_le, Int32.lt_iff_toInt_lt, ← Int32.toInt_inj, ne_eq] at *; have l0 : (1 : Int32).toInt = 1 := (by decide); have l1 : (-1 : Int32).toInt = -1 := (by decide); have l2 : (240 : Int32).toInt = 240 := (by decide); have l3 : (0 : Int32).toInt = 0 := (by decide); have l4 : (49 : Int32).toInt = 49 := (by decide); have l5 : (57 : Int32).toInt = 57 := (by decide); have l6 : (250 : Int32).toInt = 250 := (by decide); have l7 : (245 : Int32).toInt = 245 := (by decide); have s0 : (a2 + 1).toInt = a2.toInt + 1 := q_tA (by decide) (by omega) (by omega); omega
set_option maxHeartbeats 4000000 in
theorem p_Mod_substitute_70_n {L : q_L} {W : Nat → Prop} {h0 : z_H} {π : Nat → Nat → Option Nat} {N : Nat} {lo : Nat → Int32} (hqn : q_Q lo 251) : ∀ (n : Nat) (v0 : Nat) (v1 : Int32) (v2 : Int32) (h : z_H), q_U L W h0 π h → q_M L π v0 → (∀ a, v0 ≤ a → a < v0 + 46 → W a) → (0 ≤ v1) → (v1 < 80) → (vI h v0 48 = 0 → vI h v0 41 ≤ vI h v0 3) → (v2 ≠ 0 → vI h v0 48 = 0) → (vI h v0 41 ≤ 245) → (100000 ≤ N) → (lo n ≤ vI h v0 41) → qk (f_Mod_substitute_70 N  n v0 v1 v2 h) (fun r => q_U L W h0 π r ∧ (∀ a k, ¬ (a = v0 ∧ (k = 5 ∨ k = 48 ∨ k = 41)) → vI r a k = vI h a k) ∧ (∀ a j, 0 ≤ j → ¬ (a = v0 + 14 ∨ a = v0 + 17 ∨ a = v0 + 18) → vA r a j = vA h a j) ∧ (vI r v0 48 = 0 → vI h v0 41 ≤ vI r v0 41 ∧ vI r v0 41 ≤ vI h v0 3) ∧ (vI h v0 41 ≤ vI r v0 41 ∧ vI r v0 41 ≤ 246) ∧ (vI r v0 48 = 0 → vI h v0 48 = 0)) := by
  intro n
  induction n with
  | zero => intro v0 v1 v2 h T kv0 wM s0 s1 hl nb ab hN hms; have rg_at := g_Mo_41 T kv0; have hz := hqn.1; exact absurd hms (by grind)
  | succ n ih =>
    intro v0 v1 v2 h T kv0 wM s0 s1 hl nb ab hN hms
    obtain ⟨hq1, hq2, hq3⟩ := hqn.2 n
    rw [f_Mod_substitute_70]
    refine qk_if (fun cc1 => ?_) (fun cc1 => ?_)
    · skip
      refine qk_some ?_
      exact ⟨T, (by clear ih; show ∀ a k, ¬ (a = v0 ∧ (k = 5 ∨ k = 48 ∨ k = 41)) → vI h a k = vI h a k; intro a k n0; rfl), (by clear ih; show ∀ a j, 0 ≤ j → ¬ (a = v0 + 14 ∨ a = v0 + 17 ∨ a = v0 + 18) → vA h a j = vA h a j; intro a j j0 n0; rfl), (zz_d45f65319a hl), (zz_683f148354 ab), (zz_31e838399c)⟩
    · skip
      refine r_Mo_o T kv0 ?_
      refine c_Mod_here2 (v0 := v0) T kv0 ?_
      intro yr3 gr3_0 gr3_1 gr3_2 gr3_3 gr3_4
      dsimp only
      refine qk_bs ?_
      refine qk_if (fun cc2 => ?_) (fun cc2 => ?_)
      · skip
        unfold f_Mod_substitute_107
        refine qk_if (fun cc4 => absurd cc4 (by decide)) (fun _ => ?_)
        refine qk_if (fun cc5 => ?_) (fun cc5 => ?_)
        · skip
          refine r_Mo_22 T kv0 ?_
          refine r_Mo_e17 T kv0 s0 s1 ?_
          intro x11i3 ex11i3
          subst ex11i3
          refine qk_if (fun cc6 => ?_) (fun cc6 => ?_)
          · skip
            unfold f_Mod_substitute_167
            refine qk_if (fun cc8 => ?_) (fun cc8 => ?_)
            · skip
              refine r_Mo_22 T kv0 ?_
              refine w_Mo_e17 T kv0 (wM _ (by omega) (by omega)) s0 s1 ?_
              intro h8i7 Th8i7 ih8i7 ah8i7
              unfold f_Mod_substitute_209
              refine r_Mo_41 Th8i7 kv0 ?_
              intro x1i9 ex1i9 lx1i9 ux1i9
              have sx1i9 : (vI h v0 41) = x1i9 := (ex1i9.trans (by rw [ih8i7 v0 41])).symm
              subst sx1i9
              have o10 := g_Mo_41 T kv0
              refine w_Mo_41 Th8i7 kv0 (wM _ (by omega) (by omega)) (zz_5664edf06b o10) (zz_be4928651b ab o10) ?_
              intro h2i9 Th2i9 ih2i9 ah2i9
              have o11 : vI h2i9 v0 41 = (vI h v0 41) + 1 := (by rw [ih2i9 v0 41, if_pos ⟨rfl, rfl⟩])
              have o12 : vI h2i9 v0 3 = vI h v0 3 := (by rw [ih2i9 v0 3, if_neg (fun z => absurd z.2 (by decide)), ih8i7 v0 3])
              have o13 : vI h2i9 v0 48 = vI h v0 48 := (by rw [ih2i9 v0 48, if_neg (fun z => absurd z.2 (by decide)), ih8i7 v0 48])
              have o14 := g_Mo_3 T kv0
              refine qk_mono (ih (v0) (v1) (1) h2i9 Th2i9 kv0 wM s0 s1 (zz_2034cfc662 o11 o12 gr3_2 cc8 o10) (zz_d4c0511bd9 o13 nb cc1) (zz_dcb675bef3 o11 o14 gr3_2 cc8 o10) hN (zz_4bb052608b o11 hms hq1 hq2 ab o10)) ?_
              rintro hz ⟨Tz, g0, g1, g2, g3, g4⟩
              try dsimp only at *
              exact ⟨Tz, (by clear ih; show ∀ a k, ¬ (a = v0 ∧ (k = 5 ∨ k = 48 ∨ k = 41)) → vI hz a k = vI h a k; intro a k n0; rw [g0 a k (by omega), ih2i9, if_neg (by omega), ih8i7]), (by clear ih; show ∀ a j, 0 ≤ j → ¬ (a = v0 + 14 ∨ a = v0 + 17 ∨ a = v0 + 18) → vA hz a j = vA h a j; intro a j j0 n0; rw [g1 a j j0 (by omega), ah2i9, ah8i7 a j j0, if_neg (by omega)]), (zz_e1ffe81a38 g2 o11 o12 o10), (zz_90b9611921 o11 g3 o10), (zz_51145fd40a g4 o13)⟩
            · skip
              refine qk_if (fun cc16 => ?_) (fun cc16 => ?_)
              · skip
                refine r_Mo_23 T kv0 ?_
                refine w_Mo_e18 T kv0 (wM _ (by omega) (by omega)) s0 s1 ?_
                intro h6i7 Th6i7 ih6i7 ah6i7
                unfold f_Mod_substitute_209
                refine r_Mo_41 Th6i7 kv0 ?_
                intro x1i17 ex1i17 lx1i17 ux1i17
                have sx1i17 : (vI h v0 41) = x1i17 := (ex1i17.trans (by rw [ih6i7 v0 41])).symm
                subst sx1i17
                have o18 := g_Mo_41 T kv0
                refine w_Mo_41 Th6i7 kv0 (wM _ (by omega) (by omega)) (zz_5664edf06b o18) (zz_be4928651b ab o18) ?_
                intro h2i17 Th2i17 ih2i17 ah2i17
                have o19 : vI h2i17 v0 48 = vI h v0 48 := (by rw [ih2i17 v0 48, if_neg (fun z => absurd z.2 (by decide)), ih6i7 v0 48])
                have o20 : vI h2i17 v0 41 = (vI h v0 41) + 1 := (by rw [ih2i17 v0 41, if_pos ⟨rfl, rfl⟩])
                refine qk_mono (ih (v0) (v1) (1) h2i17 Th2i17 kv0 wM s0 s1 (zz_9652ae366c cc5 cc16) (zz_d4c0511bd9 o19 nb cc1) (zz_8abc27a2a4 cc5 cc16) hN (zz_4bb052608b o20 hms hq1 hq2 ab o18)) ?_
                rintro hz ⟨Tz, g0, g1, g2, g3, g4⟩
                try dsimp only at *
                have o22 : vI h2i17 v0 3 = vI h v0 3 := (by rw [ih2i17 v0 3, if_neg (fun z => absurd z.2 (by decide)), ih6i7 v0 3])
                exact ⟨Tz, (by clear ih; show ∀ a k, ¬ (a = v0 ∧ (k = 5 ∨ k = 48 ∨ k = 41)) → vI hz a k = vI h a k; intro a k n0; rw [g0 a k (by omega), ih2i17, if_neg (by omega), ih6i7]), (by clear ih; show ∀ a j, 0 ≤ j → ¬ (a = v0 + 14 ∨ a = v0 + 17 ∨ a = v0 + 18) → vA hz a j = vA h a j; intro a j j0 n0; rw [g1 a j j0 (by omega), ah2i17, ah6i7 a j j0, if_neg (by omega)]), (zz_e1ffe81a38 g2 o20 o22 o18), (zz_90b9611921 o20 g3 o18), (zz_51145fd40a g4 o19)⟩
              · skip
                refine r_Mo_19 T kv0 ?_
                refine w_Mo_e14 T kv0 (wM _ (by omega) (by omega)) s0 s1 ?_
                intro h4i7 Th4i7 ih4i7 ah4i7
                unfold f_Mod_substitute_209
                refine r_Mo_41 Th4i7 kv0 ?_
                intro x1i23 ex1i23 lx1i23 ux1i23
                have sx1i23 : (vI h v0 41) = x1i23 := (ex1i23.trans (by rw [ih4i7 v0 41])).symm
                subst sx1i23
                have o24 := g_Mo_41 T kv0
                refine w_Mo_41 Th4i7 kv0 (wM _ (by omega) (by omega)) (zz_5664edf06b o24) (zz_be4928651b ab o24) ?_
                intro h2i23 Th2i23 ih2i23 ah2i23
                have o25 : vI h2i23 v0 41 = (vI h v0 41) + 1 := (by rw [ih2i23 v0 41, if_pos ⟨rfl, rfl⟩])
                have o26 : vI h2i23 v0 3 = vI h v0 3 := (by rw [ih2i23 v0 3, if_neg (fun z => absurd z.2 (by decide)), ih4i7 v0 3])
                have o27 : vI h2i23 v0 48 = vI h v0 48 := (by rw [ih2i23 v0 48, if_neg (fun z => absurd z.2 (by decide)), ih4i7 v0 48])
                have o28 := g_Mo_3 T kv0
                refine qk_mono (ih (v0) (v1) (1) h2i23 Th2i23 kv0 wM s0 s1 (zz_2034cfc662 o25 o26 gr3_2 cc5 o24) (zz_d4c0511bd9 o27 nb cc1) (zz_dcb675bef3 o25 o28 gr3_2 cc5 o24) hN (zz_4bb052608b o25 hms hq1 hq2 ab o24)) ?_
                rintro hz ⟨Tz, g0, g1, g2, g3, g4⟩
                try dsimp only at *
                exact ⟨Tz, (by clear ih; show ∀ a k, ¬ (a = v0 ∧ (k = 5 ∨ k = 48 ∨ k = 41)) → vI hz a k = vI h a k; intro a k n0; rw [g0 a k (by omega), ih2i23, if_neg (by omega), ih4i7]), (by clear ih; show ∀ a j, 0 ≤ j → ¬ (a = v0 + 14 ∨ a = v0 + 17 ∨ a = v0 + 18) → vA hz a j = vA h a j; intro a j j0 n0; rw [g1 a j j0 (by omega), ah2i23, ah4i7 a j j0, if_neg (by omega)]), (zz_e1ffe81a38 g2 o25 o26 o24), (zz_90b9611921 o25 g3 o24), (zz_51145fd40a g4 o27)⟩
          · skip
            unfold f_Mod_substitute_158
            refine r_Mo_41 T kv0 ?_
            intro x1i30 ex1i30 lx1i30 ux1i30
            subst ex1i30
            refine r_Mo_o T kv0 ?_
            refine c_Mod_wrong (v0 := v0) (v1 := (vI h v0 41)) T kv0 wM ?_
            intro r3i30 Tr3i30 gr3i30_0 gr3i30_1 gr3i30_2
            refine qk_some ?_
            have o31 : vI r3i30 v0 41 = vI h v0 41 := (by rw [gr3i30_0 v0 41 (by omega)])
            exact ⟨Tr3i30, (by clear ih; show ∀ a k, ¬ (a = v0 ∧ (k = 5 ∨ k = 48 ∨ k = 41)) → vI r3i30 a k = vI h a k; intro a k n0; rw [gr3i30_0 a k (by omega)]), (by clear ih; show ∀ a j, 0 ≤ j → ¬ (a = v0 + 14 ∨ a = v0 + 17 ∨ a = v0 + 18) → vA r3i30 a j = vA h a j; intro a j j0 n0; rw [gr3i30_2 a j]), (zz_fec31642e6 gr3i30_1), (zz_5d4b6079a7 o31 ab), (zz_a50cc5585c gr3i30_1)⟩
        · skip
          refine qk_if (fun cc32 => ?_) (fun cc32 => ?_)
          · skip
            refine r_Mo_23 T kv0 ?_
            refine r_Mo_e18 T kv0 s0 s1 ?_
            intro x8i3 ex8i3
            subst ex8i3
            refine qk_if (fun cc33 => ?_) (fun cc33 => ?_)
            · skip
              unfold f_Mod_substitute_167
              refine qk_if (fun cc35 => ?_) (fun cc35 => ?_)
              · skip
                refine r_Mo_22 T kv0 ?_
                refine w_Mo_e17 T kv0 (wM _ (by omega) (by omega)) s0 s1 ?_
                intro h8i34 Th8i34 ih8i34 ah8i34
                unfold f_Mod_substitute_209
                refine r_Mo_41 Th8i34 kv0 ?_
                intro x1i36 ex1i36 lx1i36 ux1i36
                have sx1i36 : (vI h v0 41) = x1i36 := (ex1i36.trans (by rw [ih8i34 v0 41])).symm
                subst sx1i36
                have o37 := g_Mo_41 T kv0
                refine w_Mo_41 Th8i34 kv0 (wM _ (by omega) (by omega)) (zz_5664edf06b o37) (zz_be4928651b ab o37) ?_
                intro h2i36 Th2i36 ih2i36 ah2i36
                have o38 : vI h2i36 v0 48 = vI h v0 48 := (by rw [ih2i36 v0 48, if_neg (fun z => absurd z.2 (by decide)), ih8i34 v0 48])
                have o39 : vI h2i36 v0 41 = (vI h v0 41) + 1 := (by rw [ih2i36 v0 41, if_pos ⟨rfl, rfl⟩])
                refine qk_mono (ih (v0) (v1) (1) h2i36 Th2i36 kv0 wM s0 s1 (zz_51f2f57837 cc32 cc35) (zz_d4c0511bd9 o38 nb cc1) (zz_064b0c980b cc32 cc35) hN (zz_4bb052608b o39 hms hq1 hq2 ab o37)) ?_
                rintro hz ⟨Tz, g0, g1, g2, g3, g4⟩
                try dsimp only at *
                have o41 : vI h2i36 v0 3 = vI h v0 3 := (by rw [ih2i36 v0 3, if_neg (fun z => absurd z.2 (by decide)), ih8i34 v0 3])
                exact ⟨Tz, (by clear ih; show ∀ a k, ¬ (a = v0 ∧ (k = 5 ∨ k = 48 ∨ k = 41)) → vI hz a k = vI h a k; intro a k n0; rw [g0 a k (by omega), ih2i36, if_neg (by omega), ih8i34]), (by clear ih; show ∀ a j, 0 ≤ j → ¬ (a = v0 + 14 ∨ a = v0 + 17 ∨ a = v0 + 18) → vA hz a j = vA h a j; intro a j j0 n0; rw [g1 a j j0 (by omega), ah2i36, ah8i34 a j j0, if_neg (by omega)]), (zz_e1ffe81a38 g2 o39 o41 o37), (zz_90b9611921 o39 g3 o37), (zz_51145fd40a g4 o38)⟩
              · skip
                refine qk_if (fun cc42 => ?_) (fun cc42 => ?_)
                · skip
                  refine r_Mo_23 T kv0 ?_
                  refine w_Mo_e18 T kv0 (wM _ (by omega) (by omega)) s0 s1 ?_
                  intro h6i34 Th6i34 ih6i34 ah6i34
                  unfold f_Mod_substitute_209
                  refine r_Mo_41 Th6i34 kv0 ?_
                  intro x1i43 ex1i43 lx1i43 ux1i43
                  have sx1i43 : (vI h v0 41) = x1i43 := (ex1i43.trans (by rw [ih6i34 v0 41])).symm
                  subst sx1i43
                  have o44 := g_Mo_41 T kv0
                  refine w_Mo_41 Th6i34 kv0 (wM _ (by omega) (by omega)) (zz_5664edf06b o44) (zz_be4928651b ab o44) ?_
                  intro h2i43 Th2i43 ih2i43 ah2i43
                  have o45 : vI h2i43 v0 48 = vI h v0 48 := (by rw [ih2i43 v0 48, if_neg (fun z => absurd z.2 (by decide)), ih6i34 v0 48])
                  have o46 : vI h2i43 v0 41 = (vI h v0 41) + 1 := (by rw [ih2i43 v0 41, if_pos ⟨rfl, rfl⟩])
                  refine qk_mono (ih (v0) (v1) (1) h2i43 Th2i43 kv0 wM s0 s1 (zz_9652ae366c cc2 cc42) (zz_d4c0511bd9 o45 nb cc1) (zz_8abc27a2a4 cc2 cc42) hN (zz_4bb052608b o46 hms hq1 hq2 ab o44)) ?_
                  rintro hz ⟨Tz, g0, g1, g2, g3, g4⟩
                  try dsimp only at *
                  have o48 : vI h2i43 v0 3 = vI h v0 3 := (by rw [ih2i43 v0 3, if_neg (fun z => absurd z.2 (by decide)), ih6i34 v0 3])
                  exact ⟨Tz, (by clear ih; show ∀ a k, ¬ (a = v0 ∧ (k = 5 ∨ k = 48 ∨ k = 41)) → vI hz a k = vI h a k; intro a k n0; rw [g0 a k (by omega), ih2i43, if_neg (by omega), ih6i34]), (by clear ih; show ∀ a j, 0 ≤ j → ¬ (a = v0 + 14 ∨ a = v0 + 17 ∨ a = v0 + 18) → vA hz a j = vA h a j; intro a j j0 n0; rw [g1 a j j0 (by omega), ah2i43, ah6i34 a j j0, if_neg (by omega)]), (zz_e1ffe81a38 g2 o46 o48 o44), (zz_90b9611921 o46 g3 o44), (zz_51145fd40a g4 o45)⟩
                · skip
                  refine r_Mo_19 T kv0 ?_
                  refine w_Mo_e14 T kv0 (wM _ (by omega) (by omega)) s0 s1 ?_
                  intro h4i34 Th4i34 ih4i34 ah4i34
                  unfold f_Mod_substitute_209
                  refine r_Mo_41 Th4i34 kv0 ?_
                  intro x1i49 ex1i49 lx1i49 ux1i49
                  have sx1i49 : (vI h v0 41) = x1i49 := (ex1i49.trans (by rw [ih4i34 v0 41])).symm
                  subst sx1i49
                  have o50 := g_Mo_41 T kv0
                  refine w_Mo_41 Th4i34 kv0 (wM _ (by omega) (by omega)) (zz_5664edf06b o50) (zz_be4928651b ab o50) ?_
                  intro h2i49 Th2i49 ih2i49 ah2i49
                  have o51 : vI h2i49 v0 48 = vI h v0 48 := (by rw [ih2i49 v0 48, if_neg (fun z => absurd z.2 (by decide)), ih4i34 v0 48])
                  have o52 : vI h2i49 v0 41 = (vI h v0 41) + 1 := (by rw [ih2i49 v0 41, if_pos ⟨rfl, rfl⟩])
                  refine qk_mono (ih (v0) (v1) (1) h2i49 Th2i49 kv0 wM s0 s1 (zz_9652ae366c cc2 cc32) (zz_d4c0511bd9 o51 nb cc1) (zz_8abc27a2a4 cc2 cc32) hN (zz_4bb052608b o52 hms hq1 hq2 ab o50)) ?_
                  rintro hz ⟨Tz, g0, g1, g2, g3, g4⟩
                  try dsimp only at *
                  have o54 : vI h2i49 v0 3 = vI h v0 3 := (by rw [ih2i49 v0 3, if_neg (fun z => absurd z.2 (by decide)), ih4i34 v0 3])
                  exact ⟨Tz, (by clear ih; show ∀ a k, ¬ (a = v0 ∧ (k = 5 ∨ k = 48 ∨ k = 41)) → vI hz a k = vI h a k; intro a k n0; rw [g0 a k (by omega), ih2i49, if_neg (by omega), ih4i34]), (by clear ih; show ∀ a j, 0 ≤ j → ¬ (a = v0 + 14 ∨ a = v0 + 17 ∨ a = v0 + 18) → vA hz a j = vA h a j; intro a j j0 n0; rw [g1 a j j0 (by omega), ah2i49, ah4i34 a j j0, if_neg (by omega)]), (zz_e1ffe81a38 g2 o52 o54 o50), (zz_90b9611921 o52 g3 o50), (zz_51145fd40a g4 o51)⟩
            · skip
              unfold f_Mod_substitute_158
              refine r_Mo_41 T kv0 ?_
              intro x1i55 ex1i55 lx1i55 ux1i55
              subst ex1i55
              refine r_Mo_o T kv0 ?_
              refine c_Mod_wrong (v0 := v0) (v1 := (vI h v0 41)) T kv0 wM ?_
              intro r3i55 Tr3i55 gr3i55_0 gr3i55_1 gr3i55_2
              refine qk_some ?_
              have o56 : vI r3i55 v0 41 = vI h v0 41 := (by rw [gr3i55_0 v0 41 (by omega)])
              exact ⟨Tr3i55, (by clear ih; show ∀ a k, ¬ (a = v0 ∧ (k = 5 ∨ k = 48 ∨ k = 41)) → vI r3i55 a k = vI h a k; intro a k n0; rw [gr3i55_0 a k (by omega)]), (by clear ih; show ∀ a j, 0 ≤ j → ¬ (a = v0 + 14 ∨ a = v0 + 17 ∨ a = v0 + 18) → vA r3i55 a j = vA h a j; intro a j j0 n0; rw [gr3i55_2 a j]), (zz_fec31642e6 gr3i55_1), (zz_5d4b6079a7 o56 ab), (zz_a50cc5585c gr3i55_1)⟩
          · skip
            refine r_Mo_19 T kv0 ?_
            refine r_Mo_e14 T kv0 s0 s1 ?_
            intro x5i3 ex5i3
            subst ex5i3
            refine qk_if (fun cc57 => ?_) (fun cc57 => ?_)
            · skip
              unfold f_Mod_substitute_167
              refine qk_if (fun cc59 => ?_) (fun cc59 => ?_)
              · skip
                refine r_Mo_22 T kv0 ?_
                refine w_Mo_e17 T kv0 (wM _ (by omega) (by omega)) s0 s1 ?_
                intro h8i58 Th8i58 ih8i58 ah8i58
                unfold f_Mod_substitute_209
                refine r_Mo_41 Th8i58 kv0 ?_
                intro x1i60 ex1i60 lx1i60 ux1i60
                have sx1i60 : (vI h v0 41) = x1i60 := (ex1i60.trans (by rw [ih8i58 v0 41])).symm
                subst sx1i60
                have o61 := g_Mo_41 T kv0
                refine w_Mo_41 Th8i58 kv0 (wM _ (by omega) (by omega)) (zz_5664edf06b o61) (zz_be4928651b ab o61) ?_
                intro h2i60 Th2i60 ih2i60 ah2i60
                have o62 : vI h2i60 v0 41 = (vI h v0 41) + 1 := (by rw [ih2i60 v0 41, if_pos ⟨rfl, rfl⟩])
                have o63 : vI h2i60 v0 3 = vI h v0 3 := (by rw [ih2i60 v0 3, if_neg (fun z => absurd z.2 (by decide)), ih8i58 v0 3])
                have o64 : vI h2i60 v0 48 = vI h v0 48 := (by rw [ih2i60 v0 48, if_neg (fun z => absurd z.2 (by decide)), ih8i58 v0 48])
                have o65 := g_Mo_3 T kv0
                refine qk_mono (ih (v0) (v1) (1) h2i60 Th2i60 kv0 wM s0 s1 (zz_2034cfc662 o62 o63 gr3_2 cc59 o61) (zz_d4c0511bd9 o64 nb cc1) (zz_dcb675bef3 o62 o65 gr3_2 cc59 o61) hN (zz_4bb052608b o62 hms hq1 hq2 ab o61)) ?_
                rintro hz ⟨Tz, g0, g1, g2, g3, g4⟩
                try dsimp only at *
                exact ⟨Tz, (by clear ih; show ∀ a k, ¬ (a = v0 ∧ (k = 5 ∨ k = 48 ∨ k = 41)) → vI hz a k = vI h a k; intro a k n0; rw [g0 a k (by omega), ih2i60, if_neg (by omega), ih8i58]), (by clear ih; show ∀ a j, 0 ≤ j → ¬ (a = v0 + 14 ∨ a = v0 + 17 ∨ a = v0 + 18) → vA hz a j = vA h a j; intro a j j0 n0; rw [g1 a j j0 (by omega), ah2i60, ah8i58 a j j0, if_neg (by omega)]), (zz_e1ffe81a38 g2 o62 o63 o61), (zz_90b9611921 o62 g3 o61), (zz_51145fd40a g4 o64)⟩
              · skip
                refine qk_if (fun cc67 => ?_) (fun cc67 => ?_)
                · skip
                  refine r_Mo_23 T kv0 ?_
                  refine w_Mo_e18 T kv0 (wM _ (by omega) (by omega)) s0 s1 ?_
                  intro h6i58 Th6i58 ih6i58 ah6i58
                  unfold f_Mod_substitute_209
                  refine r_Mo_41 Th6i58 kv0 ?_
                  intro x1i68 ex1i68 lx1i68 ux1i68
                  have sx1i68 : (vI h v0 41) = x1i68 := (ex1i68.trans (by rw [ih6i58 v0 41])).symm
                  subst sx1i68
                  have o69 := g_Mo_41 T kv0
                  refine w_Mo_41 Th6i58 kv0 (wM _ (by omega) (by omega)) (zz_5664edf06b o69) (zz_be4928651b ab o69) ?_
                  intro h2i68 Th2i68 ih2i68 ah2i68
                  have o70 : vI h2i68 v0 48 = vI h v0 48 := (by rw [ih2i68 v0 48, if_neg (fun z => absurd z.2 (by decide)), ih6i58 v0 48])
                  have o71 : vI h2i68 v0 41 = (vI h v0 41) + 1 := (by rw [ih2i68 v0 41, if_pos ⟨rfl, rfl⟩])
                  refine qk_mono (ih (v0) (v1) (1) h2i68 Th2i68 kv0 wM s0 s1 (zz_9652ae366c cc2 cc67) (zz_d4c0511bd9 o70 nb cc1) (zz_8abc27a2a4 cc2 cc67) hN (zz_4bb052608b o71 hms hq1 hq2 ab o69)) ?_
                  rintro hz ⟨Tz, g0, g1, g2, g3, g4⟩
                  try dsimp only at *
                  have o73 : vI h2i68 v0 3 = vI h v0 3 := (by rw [ih2i68 v0 3, if_neg (fun z => absurd z.2 (by decide)), ih6i58 v0 3])
                  exact ⟨Tz, (by clear ih; show ∀ a k, ¬ (a = v0 ∧ (k = 5 ∨ k = 48 ∨ k = 41)) → vI hz a k = vI h a k; intro a k n0; rw [g0 a k (by omega), ih2i68, if_neg (by omega), ih6i58]), (by clear ih; show ∀ a j, 0 ≤ j → ¬ (a = v0 + 14 ∨ a = v0 + 17 ∨ a = v0 + 18) → vA hz a j = vA h a j; intro a j j0 n0; rw [g1 a j j0 (by omega), ah2i68, ah6i58 a j j0, if_neg (by omega)]), (zz_e1ffe81a38 g2 o71 o73 o69), (zz_90b9611921 o71 g3 o69), (zz_51145fd40a g4 o70)⟩
                · skip
                  refine r_Mo_19 T kv0 ?_
                  refine w_Mo_e14 T kv0 (wM _ (by omega) (by omega)) s0 s1 ?_
                  intro h4i58 Th4i58 ih4i58 ah4i58
                  unfold f_Mod_substitute_209
                  refine r_Mo_41 Th4i58 kv0 ?_
                  intro x1i74 ex1i74 lx1i74 ux1i74
                  have sx1i74 : (vI h v0 41) = x1i74 := (ex1i74.trans (by rw [ih4i58 v0 41])).symm
                  subst sx1i74
                  have o75 := g_Mo_41 T kv0
                  refine w_Mo_41 Th4i58 kv0 (wM _ (by omega) (by omega)) (zz_5664edf06b o75) (zz_be4928651b ab o75) ?_
                  intro h2i74 Th2i74 ih2i74 ah2i74
                  have o76 : vI h2i74 v0 41 = (vI h v0 41) + 1 := (by rw [ih2i74 v0 41, if_pos ⟨rfl, rfl⟩])
                  have o77 : vI h2i74 v0 3 = vI h v0 3 := (by rw [ih2i74 v0 3, if_neg (fun z => absurd z.2 (by decide)), ih4i58 v0 3])
                  have o78 : vI h2i74 v0 48 = vI h v0 48 := (by rw [ih2i74 v0 48, if_neg (fun z => absurd z.2 (by decide)), ih4i58 v0 48])
                  have o79 := g_Mo_3 T kv0
                  refine qk_mono (ih (v0) (v1) (1) h2i74 Th2i74 kv0 wM s0 s1 (zz_2034cfc662 o76 o77 gr3_2 cc2 o75) (zz_d4c0511bd9 o78 nb cc1) (zz_dcb675bef3 o76 o79 gr3_2 cc2 o75) hN (zz_4bb052608b o76 hms hq1 hq2 ab o75)) ?_
                  rintro hz ⟨Tz, g0, g1, g2, g3, g4⟩
                  try dsimp only at *
                  exact ⟨Tz, (by clear ih; show ∀ a k, ¬ (a = v0 ∧ (k = 5 ∨ k = 48 ∨ k = 41)) → vI hz a k = vI h a k; intro a k n0; rw [g0 a k (by omega), ih2i74, if_neg (by omega), ih4i58]), (by clear ih; show ∀ a j, 0 ≤ j → ¬ (a = v0 + 14 ∨ a = v0 + 17 ∨ a = v0 + 18) → vA hz a j = vA h a j; intro a j j0 n0; rw [g1 a j j0 (by omega), ah2i74, ah4i58 a j j0, if_neg (by omega)]), (zz_e1ffe81a38 g2 o76 o77 o75), (zz_90b9611921 o76 g3 o75), (zz_51145fd40a g4 o78)⟩
            · skip
              unfold f_Mod_substitute_158
              refine r_Mo_41 T kv0 ?_
              intro x1i81 ex1i81 lx1i81 ux1i81
              subst ex1i81
              refine r_Mo_o T kv0 ?_
              refine c_Mod_wrong (v0 := v0) (v1 := (vI h v0 41)) T kv0 wM ?_
              intro r3i81 Tr3i81 gr3i81_0 gr3i81_1 gr3i81_2
              refine qk_some ?_
              have o82 : vI r3i81 v0 41 = vI h v0 41 := (by rw [gr3i81_0 v0 41 (by omega)])
              exact ⟨Tr3i81, (by clear ih; show ∀ a k, ¬ (a = v0 ∧ (k = 5 ∨ k = 48 ∨ k = 41)) → vI r3i81 a k = vI h a k; intro a k n0; rw [gr3i81_0 a k (by omega)]), (by clear ih; show ∀ a j, 0 ≤ j → ¬ (a = v0 + 14 ∨ a = v0 + 17 ∨ a = v0 + 18) → vA r3i81 a j = vA h a j; intro a j j0 n0; rw [gr3i81_2 a j]), (zz_fec31642e6 gr3i81_1), (zz_5d4b6079a7 o82 ab), (zz_a50cc5585c gr3i81_1)⟩
      · skip
        refine qk_if (fun cc83 => ?_) (fun cc83 => ?_)
        · skip
          unfold f_Mod_substitute_107
          refine qk_if (fun cc85 => absurd cc85 (by decide)) (fun _ => ?_)
          refine qk_if (fun cc86 => ?_) (fun cc86 => ?_)
          · skip
            refine r_Mo_22 T kv0 ?_
            refine r_Mo_e17 T kv0 s0 s1 ?_
            intro x11i84 ex11i84
            subst ex11i84
            refine qk_if (fun cc87 => ?_) (fun cc87 => ?_)
            · skip
              unfold f_Mod_substitute_167
              refine qk_if (fun cc89 => ?_) (fun cc89 => ?_)
              · skip
                refine r_Mo_22 T kv0 ?_
                refine w_Mo_e17 T kv0 (wM _ (by omega) (by omega)) s0 s1 ?_
                intro h8i88 Th8i88 ih8i88 ah8i88
                unfold f_Mod_substitute_209
                refine r_Mo_41 Th8i88 kv0 ?_
                intro x1i90 ex1i90 lx1i90 ux1i90
                have sx1i90 : (vI h v0 41) = x1i90 := (ex1i90.trans (by rw [ih8i88 v0 41])).symm
                subst sx1i90
                have o91 := g_Mo_41 T kv0
                refine w_Mo_41 Th8i88 kv0 (wM _ (by omega) (by omega)) (zz_5664edf06b o91) (zz_be4928651b ab o91) ?_
                intro h2i90 Th2i90 ih2i90 ah2i90
                have o92 : vI h2i90 v0 48 = vI h v0 48 := (by rw [ih2i90 v0 48, if_neg (fun z => absurd z.2 (by decide)), ih8i88 v0 48])
                have o93 : vI h2i90 v0 41 = (vI h v0 41) + 1 := (by rw [ih2i90 v0 41, if_pos ⟨rfl, rfl⟩])
                refine qk_mono (ih (v0) (v1) (1) h2i90 Th2i90 kv0 wM s0 s1 (zz_51f2f57837 cc83 cc89) (zz_d4c0511bd9 o92 nb cc1) (zz_064b0c980b cc83 cc89) hN (zz_4bb052608b o93 hms hq1 hq2 ab o91)) ?_
                rintro hz ⟨Tz, g0, g1, g2, g3, g4⟩
                try dsimp only at *
                have o95 : vI h2i90 v0 3 = vI h v0 3 := (by rw [ih2i90 v0 3, if_neg (fun z => absurd z.2 (by decide)), ih8i88 v0 3])
                exact ⟨Tz, (by clear ih; show ∀ a k, ¬ (a = v0 ∧ (k = 5 ∨ k = 48 ∨ k = 41)) → vI hz a k = vI h a k; intro a k n0; rw [g0 a k (by omega), ih2i90, if_neg (by omega), ih8i88]), (by clear ih; show ∀ a j, 0 ≤ j → ¬ (a = v0 + 14 ∨ a = v0 + 17 ∨ a = v0 + 18) → vA hz a j = vA h a j; intro a j j0 n0; rw [g1 a j j0 (by omega), ah2i90, ah8i88 a j j0, if_neg (by omega)]), (zz_e1ffe81a38 g2 o93 o95 o91), (zz_90b9611921 o93 g3 o91), (zz_51145fd40a g4 o92)⟩
              · skip
                refine qk_if (fun cc96 => ?_) (fun cc96 => ?_)
                · skip
                  refine r_Mo_23 T kv0 ?_
                  refine w_Mo_e18 T kv0 (wM _ (by omega) (by omega)) s0 s1 ?_
                  intro h6i88 Th6i88 ih6i88 ah6i88
                  unfold f_Mod_substitute_209
                  refine r_Mo_41 Th6i88 kv0 ?_
                  intro x1i97 ex1i97 lx1i97 ux1i97
                  have sx1i97 : (vI h v0 41) = x1i97 := (ex1i97.trans (by rw [ih6i88 v0 41])).symm
                  subst sx1i97
                  have o98 := g_Mo_41 T kv0
                  refine w_Mo_41 Th6i88 kv0 (wM _ (by omega) (by omega)) (zz_5664edf06b o98) (zz_be4928651b ab o98) ?_
                  intro h2i97 Th2i97 ih2i97 ah2i97
                  have o99 : vI h2i97 v0 48 = vI h v0 48 := (by rw [ih2i97 v0 48, if_neg (fun z => absurd z.2 (by decide)), ih6i88 v0 48])
                  have o100 : vI h2i97 v0 41 = (vI h v0 41) + 1 := (by rw [ih2i97 v0 41, if_pos ⟨rfl, rfl⟩])
                  refine qk_mono (ih (v0) (v1) (1) h2i97 Th2i97 kv0 wM s0 s1 (zz_9652ae366c cc86 cc96) (zz_d4c0511bd9 o99 nb cc1) (zz_8abc27a2a4 cc86 cc96) hN (zz_4bb052608b o100 hms hq1 hq2 ab o98)) ?_
                  rintro hz ⟨Tz, g0, g1, g2, g3, g4⟩
                  try dsimp only at *
                  have o102 : vI h2i97 v0 3 = vI h v0 3 := (by rw [ih2i97 v0 3, if_neg (fun z => absurd z.2 (by decide)), ih6i88 v0 3])
                  exact ⟨Tz, (by clear ih; show ∀ a k, ¬ (a = v0 ∧ (k = 5 ∨ k = 48 ∨ k = 41)) → vI hz a k = vI h a k; intro a k n0; rw [g0 a k (by omega), ih2i97, if_neg (by omega), ih6i88]), (by clear ih; show ∀ a j, 0 ≤ j → ¬ (a = v0 + 14 ∨ a = v0 + 17 ∨ a = v0 + 18) → vA hz a j = vA h a j; intro a j j0 n0; rw [g1 a j j0 (by omega), ah2i97, ah6i88 a j j0, if_neg (by omega)]), (zz_e1ffe81a38 g2 o100 o102 o98), (zz_90b9611921 o100 g3 o98), (zz_51145fd40a g4 o99)⟩
                · skip
                  refine r_Mo_19 T kv0 ?_
                  refine w_Mo_e14 T kv0 (wM _ (by omega) (by omega)) s0 s1 ?_
                  intro h4i88 Th4i88 ih4i88 ah4i88
                  unfold f_Mod_substitute_209
                  refine r_Mo_41 Th4i88 kv0 ?_
                  intro x1i103 ex1i103 lx1i103 ux1i103
                  have sx1i103 : (vI h v0 41) = x1i103 := (ex1i103.trans (by rw [ih4i88 v0 41])).symm
                  subst sx1i103
                  have o104 := g_Mo_41 T kv0
                  refine w_Mo_41 Th4i88 kv0 (wM _ (by omega) (by omega)) (zz_5664edf06b o104) (zz_be4928651b ab o104) ?_
                  intro h2i103 Th2i103 ih2i103 ah2i103
                  have o105 : vI h2i103 v0 48 = vI h v0 48 := (by rw [ih2i103 v0 48, if_neg (fun z => absurd z.2 (by decide)), ih4i88 v0 48])
                  have o106 : vI h2i103 v0 41 = (vI h v0 41) + 1 := (by rw [ih2i103 v0 41, if_pos ⟨rfl, rfl⟩])
                  refine qk_mono (ih (v0) (v1) (1) h2i103 Th2i103 kv0 wM s0 s1 (zz_51f2f57837 cc83 cc86) (zz_d4c0511bd9 o105 nb cc1) (zz_064b0c980b cc83 cc86) hN (zz_4bb052608b o106 hms hq1 hq2 ab o104)) ?_
                  rintro hz ⟨Tz, g0, g1, g2, g3, g4⟩
                  try dsimp only at *
                  have o108 : vI h2i103 v0 3 = vI h v0 3 := (by rw [ih2i103 v0 3, if_neg (fun z => absurd z.2 (by decide)), ih4i88 v0 3])
                  exact ⟨Tz, (by clear ih; show ∀ a k, ¬ (a = v0 ∧ (k = 5 ∨ k = 48 ∨ k = 41)) → vI hz a k = vI h a k; intro a k n0; rw [g0 a k (by omega), ih2i103, if_neg (by omega), ih4i88]), (by clear ih; show ∀ a j, 0 ≤ j → ¬ (a = v0 + 14 ∨ a = v0 + 17 ∨ a = v0 + 18) → vA hz a j = vA h a j; intro a j j0 n0; rw [g1 a j j0 (by omega), ah2i103, ah4i88 a j j0, if_neg (by omega)]), (zz_e1ffe81a38 g2 o106 o108 o104), (zz_90b9611921 o106 g3 o104), (zz_51145fd40a g4 o105)⟩
            · skip
              unfold f_Mod_substitute_158
              refine r_Mo_41 T kv0 ?_
              intro x1i109 ex1i109 lx1i109 ux1i109
              subst ex1i109
              refine r_Mo_o T kv0 ?_
              refine c_Mod_wrong (v0 := v0) (v1 := (vI h v0 41)) T kv0 wM ?_
              intro r3i109 Tr3i109 gr3i109_0 gr3i109_1 gr3i109_2
              refine qk_some ?_
              have o110 : vI r3i109 v0 41 = vI h v0 41 := (by rw [gr3i109_0 v0 41 (by omega)])
              exact ⟨Tr3i109, (by clear ih; show ∀ a k, ¬ (a = v0 ∧ (k = 5 ∨ k = 48 ∨ k = 41)) → vI r3i109 a k = vI h a k; intro a k n0; rw [gr3i109_0 a k (by omega)]), (by clear ih; show ∀ a j, 0 ≤ j → ¬ (a = v0 + 14 ∨ a = v0 + 17 ∨ a = v0 + 18) → vA r3i109 a j = vA h a j; intro a j j0 n0; rw [gr3i109_2 a j]), (zz_fec31642e6 gr3i109_1), (zz_5d4b6079a7 o110 ab), (zz_a50cc5585c gr3i109_1)⟩
          · skip
            refine qk_if (fun cc111 => ?_) (fun cc111 => ?_)
            · skip
              refine r_Mo_23 T kv0 ?_
              refine r_Mo_e18 T kv0 s0 s1 ?_
              intro x8i84 ex8i84
              subst ex8i84
              refine qk_if (fun cc112 => ?_) (fun cc112 => ?_)
              · skip
                unfold f_Mod_substitute_167
                refine qk_if (fun cc114 => ?_) (fun cc114 => ?_)
                · skip
                  refine r_Mo_22 T kv0 ?_
                  refine w_Mo_e17 T kv0 (wM _ (by omega) (by omega)) s0 s1 ?_
                  intro h8i113 Th8i113 ih8i113 ah8i113
                  unfold f_Mod_substitute_209
                  refine r_Mo_41 Th8i113 kv0 ?_
                  intro x1i115 ex1i115 lx1i115 ux1i115
                  have sx1i115 : (vI h v0 41) = x1i115 := (ex1i115.trans (by rw [ih8i113 v0 41])).symm
                  subst sx1i115
                  have o116 := g_Mo_41 T kv0
                  refine w_Mo_41 Th8i113 kv0 (wM _ (by omega) (by omega)) (zz_5664edf06b o116) (zz_be4928651b ab o116) ?_
                  intro h2i115 Th2i115 ih2i115 ah2i115
                  have o117 : vI h2i115 v0 48 = vI h v0 48 := (by rw [ih2i115 v0 48, if_neg (fun z => absurd z.2 (by decide)), ih8i113 v0 48])
                  have o118 : vI h2i115 v0 41 = (vI h v0 41) + 1 := (by rw [ih2i115 v0 41, if_pos ⟨rfl, rfl⟩])
                  refine qk_mono (ih (v0) (v1) (1) h2i115 Th2i115 kv0 wM s0 s1 (zz_51f2f57837 cc111 cc114) (zz_d4c0511bd9 o117 nb cc1) (zz_064b0c980b cc111 cc114) hN (zz_4bb052608b o118 hms hq1 hq2 ab o116)) ?_
                  rintro hz ⟨Tz, g0, g1, g2, g3, g4⟩
                  try dsimp only at *
                  have o120 : vI h2i115 v0 3 = vI h v0 3 := (by rw [ih2i115 v0 3, if_neg (fun z => absurd z.2 (by decide)), ih8i113 v0 3])
                  exact ⟨Tz, (by clear ih; show ∀ a k, ¬ (a = v0 ∧ (k = 5 ∨ k = 48 ∨ k = 41)) → vI hz a k = vI h a k; intro a k n0; rw [g0 a k (by omega), ih2i115, if_neg (by omega), ih8i113]), (by clear ih; show ∀ a j, 0 ≤ j → ¬ (a = v0 + 14 ∨ a = v0 + 17 ∨ a = v0 + 18) → vA hz a j = vA h a j; intro a j j0 n0; rw [g1 a j j0 (by omega), ah2i115, ah8i113 a j j0, if_neg (by omega)]), (zz_e1ffe81a38 g2 o118 o120 o116), (zz_90b9611921 o118 g3 o116), (zz_51145fd40a g4 o117)⟩
                · skip
                  refine qk_if (fun cc121 => ?_) (fun cc121 => ?_)
                  · skip
                    refine r_Mo_23 T kv0 ?_
                    refine w_Mo_e18 T kv0 (wM _ (by omega) (by omega)) s0 s1 ?_
                    intro h6i113 Th6i113 ih6i113 ah6i113
                    unfold f_Mod_substitute_209
                    refine r_Mo_41 Th6i113 kv0 ?_
                    intro x1i122 ex1i122 lx1i122 ux1i122
                    have sx1i122 : (vI h v0 41) = x1i122 := (ex1i122.trans (by rw [ih6i113 v0 41])).symm
                    subst sx1i122
                    have o123 := g_Mo_41 T kv0
                    refine w_Mo_41 Th6i113 kv0 (wM _ (by omega) (by omega)) (zz_5664edf06b o123) (zz_be4928651b ab o123) ?_
                    intro h2i122 Th2i122 ih2i122 ah2i122
                    have o124 : vI h2i122 v0 41 = (vI h v0 41) + 1 := (by rw [ih2i122 v0 41, if_pos ⟨rfl, rfl⟩])
                    have o125 : vI h2i122 v0 3 = vI h v0 3 := (by rw [ih2i122 v0 3, if_neg (fun z => absurd z.2 (by decide)), ih6i113 v0 3])
                    have o126 : vI h2i122 v0 48 = vI h v0 48 := (by rw [ih2i122 v0 48, if_neg (fun z => absurd z.2 (by decide)), ih6i113 v0 48])
                    have o127 := g_Mo_3 T kv0
                    refine qk_mono (ih (v0) (v1) (1) h2i122 Th2i122 kv0 wM s0 s1 (zz_6cfd15d0aa o124 o125 gr3_2 cc121 o123) (zz_d4c0511bd9 o126 nb cc1) (zz_5ba8c167ed o124 o127 gr3_2 cc121 o123) hN (zz_4bb052608b o124 hms hq1 hq2 ab o123)) ?_
                    rintro hz ⟨Tz, g0, g1, g2, g3, g4⟩
                    try dsimp only at *
                    exact ⟨Tz, (by clear ih; show ∀ a k, ¬ (a = v0 ∧ (k = 5 ∨ k = 48 ∨ k = 41)) → vI hz a k = vI h a k; intro a k n0; rw [g0 a k (by omega), ih2i122, if_neg (by omega), ih6i113]), (by clear ih; show ∀ a j, 0 ≤ j → ¬ (a = v0 + 14 ∨ a = v0 + 17 ∨ a = v0 + 18) → vA hz a j = vA h a j; intro a j j0 n0; rw [g1 a j j0 (by omega), ah2i122, ah6i113 a j j0, if_neg (by omega)]), (zz_e1ffe81a38 g2 o124 o125 o123), (zz_90b9611921 o124 g3 o123), (zz_51145fd40a g4 o126)⟩
                  · skip
                    refine r_Mo_19 T kv0 ?_
                    refine w_Mo_e14 T kv0 (wM _ (by omega) (by omega)) s0 s1 ?_
                    intro h4i113 Th4i113 ih4i113 ah4i113
                    unfold f_Mod_substitute_209
                    refine r_Mo_41 Th4i113 kv0 ?_
                    intro x1i129 ex1i129 lx1i129 ux1i129
                    have sx1i129 : (vI h v0 41) = x1i129 := (ex1i129.trans (by rw [ih4i113 v0 41])).symm
                    subst sx1i129
                    have o130 := g_Mo_41 T kv0
                    refine w_Mo_41 Th4i113 kv0 (wM _ (by omega) (by omega)) (zz_5664edf06b o130) (zz_be4928651b ab o130) ?_
                    intro h2i129 Th2i129 ih2i129 ah2i129
                    have o131 : vI h2i129 v0 41 = (vI h v0 41) + 1 := (by rw [ih2i129 v0 41, if_pos ⟨rfl, rfl⟩])
                    have o132 : vI h2i129 v0 3 = vI h v0 3 := (by rw [ih2i129 v0 3, if_neg (fun z => absurd z.2 (by decide)), ih4i113 v0 3])
                    have o133 : vI h2i129 v0 48 = vI h v0 48 := (by rw [ih2i129 v0 48, if_neg (fun z => absurd z.2 (by decide)), ih4i113 v0 48])
                    have o134 := g_Mo_3 T kv0
                    refine qk_mono (ih (v0) (v1) (1) h2i129 Th2i129 kv0 wM s0 s1 (zz_6cfd15d0aa o131 o132 gr3_2 cc111 o130) (zz_d4c0511bd9 o133 nb cc1) (zz_5ba8c167ed o131 o134 gr3_2 cc111 o130) hN (zz_4bb052608b o131 hms hq1 hq2 ab o130)) ?_
                    rintro hz ⟨Tz, g0, g1, g2, g3, g4⟩
                    try dsimp only at *
                    exact ⟨Tz, (by clear ih; show ∀ a k, ¬ (a = v0 ∧ (k = 5 ∨ k = 48 ∨ k = 41)) → vI hz a k = vI h a k; intro a k n0; rw [g0 a k (by omega), ih2i129, if_neg (by omega), ih4i113]), (by clear ih; show ∀ a j, 0 ≤ j → ¬ (a = v0 + 14 ∨ a = v0 + 17 ∨ a = v0 + 18) → vA hz a j = vA h a j; intro a j j0 n0; rw [g1 a j j0 (by omega), ah2i129, ah4i113 a j j0, if_neg (by omega)]), (zz_e1ffe81a38 g2 o131 o132 o130), (zz_90b9611921 o131 g3 o130), (zz_51145fd40a g4 o133)⟩
              · skip
                unfold f_Mod_substitute_158
                refine r_Mo_41 T kv0 ?_
                intro x1i136 ex1i136 lx1i136 ux1i136
                subst ex1i136
                refine r_Mo_o T kv0 ?_
                refine c_Mod_wrong (v0 := v0) (v1 := (vI h v0 41)) T kv0 wM ?_
                intro r3i136 Tr3i136 gr3i136_0 gr3i136_1 gr3i136_2
                refine qk_some ?_
                have o137 : vI r3i136 v0 41 = vI h v0 41 := (by rw [gr3i136_0 v0 41 (by omega)])
                exact ⟨Tr3i136, (by clear ih; show ∀ a k, ¬ (a = v0 ∧ (k = 5 ∨ k = 48 ∨ k = 41)) → vI r3i136 a k = vI h a k; intro a k n0; rw [gr3i136_0 a k (by omega)]), (by clear ih; show ∀ a j, 0 ≤ j → ¬ (a = v0 + 14 ∨ a = v0 + 17 ∨ a = v0 + 18) → vA r3i136 a j = vA h a j; intro a j j0 n0; rw [gr3i136_2 a j]), (zz_fec31642e6 gr3i136_1), (zz_5d4b6079a7 o137 ab), (zz_a50cc5585c gr3i136_1)⟩
            · skip
              refine r_Mo_19 T kv0 ?_
              refine r_Mo_e14 T kv0 s0 s1 ?_
              intro x5i84 ex5i84
              subst ex5i84
              refine qk_if (fun cc138 => ?_) (fun cc138 => ?_)
              · skip
                unfold f_Mod_substitute_167
                refine qk_if (fun cc140 => ?_) (fun cc140 => ?_)
                · skip
                  refine r_Mo_22 T kv0 ?_
                  refine w_Mo_e17 T kv0 (wM _ (by omega) (by omega)) s0 s1 ?_
                  intro h8i139 Th8i139 ih8i139 ah8i139
                  unfold f_Mod_substitute_209
                  refine r_Mo_41 Th8i139 kv0 ?_
                  intro x1i141 ex1i141 lx1i141 ux1i141
                  have sx1i141 : (vI h v0 41) = x1i141 := (ex1i141.trans (by rw [ih8i139 v0 41])).symm
                  subst sx1i141
                  have o142 := g_Mo_41 T kv0
                  refine w_Mo_41 Th8i139 kv0 (wM _ (by omega) (by omega)) (zz_5664edf06b o142) (zz_be4928651b ab o142) ?_
                  intro h2i141 Th2i141 ih2i141 ah2i141
                  have o143 : vI h2i141 v0 48 = vI h v0 48 := (by rw [ih2i141 v0 48, if_neg (fun z => absurd z.2 (by decide)), ih8i139 v0 48])
                  have o144 : vI h2i141 v0 41 = (vI h v0 41) + 1 := (by rw [ih2i141 v0 41, if_pos ⟨rfl, rfl⟩])
                  refine qk_mono (ih (v0) (v1) (1) h2i141 Th2i141 kv0 wM s0 s1 (zz_51f2f57837 cc83 cc140) (zz_d4c0511bd9 o143 nb cc1) (zz_064b0c980b cc83 cc140) hN (zz_4bb052608b o144 hms hq1 hq2 ab o142)) ?_
                  rintro hz ⟨Tz, g0, g1, g2, g3, g4⟩
                  try dsimp only at *
                  have o146 : vI h2i141 v0 3 = vI h v0 3 := (by rw [ih2i141 v0 3, if_neg (fun z => absurd z.2 (by decide)), ih8i139 v0 3])
                  exact ⟨Tz, (by clear ih; show ∀ a k, ¬ (a = v0 ∧ (k = 5 ∨ k = 48 ∨ k = 41)) → vI hz a k = vI h a k; intro a k n0; rw [g0 a k (by omega), ih2i141, if_neg (by omega), ih8i139]), (by clear ih; show ∀ a j, 0 ≤ j → ¬ (a = v0 + 14 ∨ a = v0 + 17 ∨ a = v0 + 18) → vA hz a j = vA h a j; intro a j j0 n0; rw [g1 a j j0 (by omega), ah2i141, ah8i139 a j j0, if_neg (by omega)]), (zz_e1ffe81a38 g2 o144 o146 o142), (zz_90b9611921 o144 g3 o142), (zz_51145fd40a g4 o143)⟩
                · skip
                  refine qk_if (fun cc147 => ?_) (fun cc147 => ?_)
                  · skip
                    refine r_Mo_23 T kv0 ?_
                    refine w_Mo_e18 T kv0 (wM _ (by omega) (by omega)) s0 s1 ?_
                    intro h6i139 Th6i139 ih6i139 ah6i139
                    unfold f_Mod_substitute_209
                    refine r_Mo_41 Th6i139 kv0 ?_
                    intro x1i148 ex1i148 lx1i148 ux1i148
                    have sx1i148 : (vI h v0 41) = x1i148 := (ex1i148.trans (by rw [ih6i139 v0 41])).symm
                    subst sx1i148
                    have o149 := g_Mo_41 T kv0
                    refine w_Mo_41 Th6i139 kv0 (wM _ (by omega) (by omega)) (zz_5664edf06b o149) (zz_be4928651b ab o149) ?_
                    intro h2i148 Th2i148 ih2i148 ah2i148
                    have o150 : vI h2i148 v0 41 = (vI h v0 41) + 1 := (by rw [ih2i148 v0 41, if_pos ⟨rfl, rfl⟩])
                    have o151 : vI h2i148 v0 3 = vI h v0 3 := (by rw [ih2i148 v0 3, if_neg (fun z => absurd z.2 (by decide)), ih6i139 v0 3])
                    have o152 : vI h2i148 v0 48 = vI h v0 48 := (by rw [ih2i148 v0 48, if_neg (fun z => absurd z.2 (by decide)), ih6i139 v0 48])
                    have o153 := g_Mo_3 T kv0
                    refine qk_mono (ih (v0) (v1) (1) h2i148 Th2i148 kv0 wM s0 s1 (zz_6cfd15d0aa o150 o151 gr3_2 cc147 o149) (zz_d4c0511bd9 o152 nb cc1) (zz_5ba8c167ed o150 o153 gr3_2 cc147 o149) hN (zz_4bb052608b o150 hms hq1 hq2 ab o149)) ?_
                    rintro hz ⟨Tz, g0, g1, g2, g3, g4⟩
                    try dsimp only at *
                    exact ⟨Tz, (by clear ih; show ∀ a k, ¬ (a = v0 ∧ (k = 5 ∨ k = 48 ∨ k = 41)) → vI hz a k = vI h a k; intro a k n0; rw [g0 a k (by omega), ih2i148, if_neg (by omega), ih6i139]), (by clear ih; show ∀ a j, 0 ≤ j → ¬ (a = v0 + 14 ∨ a = v0 + 17 ∨ a = v0 + 18) → vA hz a j = vA h a j; intro a j j0 n0; rw [g1 a j j0 (by omega), ah2i148, ah6i139 a j j0, if_neg (by omega)]), (zz_e1ffe81a38 g2 o150 o151 o149), (zz_90b9611921 o150 g3 o149), (zz_51145fd40a g4 o152)⟩
                  · skip
                    refine r_Mo_19 T kv0 ?_
                    refine w_Mo_e14 T kv0 (wM _ (by omega) (by omega)) s0 s1 ?_
                    intro h4i139 Th4i139 ih4i139 ah4i139
                    unfold f_Mod_substitute_209
                    refine r_Mo_41 Th4i139 kv0 ?_
                    intro x1i155 ex1i155 lx1i155 ux1i155
                    have sx1i155 : (vI h v0 41) = x1i155 := (ex1i155.trans (by rw [ih4i139 v0 41])).symm
                    subst sx1i155
                    have o156 := g_Mo_41 T kv0
                    refine w_Mo_41 Th4i139 kv0 (wM _ (by omega) (by omega)) (zz_5664edf06b o156) (zz_be4928651b ab o156) ?_
                    intro h2i155 Th2i155 ih2i155 ah2i155
                    have o157 : vI h2i155 v0 41 = (vI h v0 41) + 1 := (by rw [ih2i155 v0 41, if_pos ⟨rfl, rfl⟩])
                    have o158 : vI h2i155 v0 3 = vI h v0 3 := (by rw [ih2i155 v0 3, if_neg (fun z => absurd z.2 (by decide)), ih4i139 v0 3])
                    have o159 : vI h2i155 v0 48 = vI h v0 48 := (by rw [ih2i155 v0 48, if_neg (fun z => absurd z.2 (by decide)), ih4i139 v0 48])
                    have o160 := g_Mo_3 T kv0
                    refine qk_mono (ih (v0) (v1) (1) h2i155 Th2i155 kv0 wM s0 s1 (zz_6cfd15d0aa o157 o158 gr3_2 cc83 o156) (zz_d4c0511bd9 o159 nb cc1) (zz_5ba8c167ed o157 o160 gr3_2 cc83 o156) hN (zz_4bb052608b o157 hms hq1 hq2 ab o156)) ?_
                    rintro hz ⟨Tz, g0, g1, g2, g3, g4⟩
                    try dsimp only at *
                    exact ⟨Tz, (by clear ih; show ∀ a k, ¬ (a = v0 ∧ (k = 5 ∨ k = 48 ∨ k = 41)) → vI hz a k = vI h a k; intro a k n0; rw [g0 a k (by omega), ih2i155, if_neg (by omega), ih4i139]), (by clear ih; show ∀ a j, 0 ≤ j → ¬ (a = v0 + 14 ∨ a = v0 + 17 ∨ a = v0 + 18) → vA hz a j = vA h a j; intro a j j0 n0; rw [g1 a j j0 (by omega), ah2i155, ah4i139 a j j0, if_neg (by omega)]), (zz_e1ffe81a38 g2 o157 o158 o156), (zz_90b9611921 o157 g3 o156), (zz_51145fd40a g4 o159)⟩
              · skip
                unfold f_Mod_substitute_158
                refine r_Mo_41 T kv0 ?_
                intro x1i162 ex1i162 lx1i162 ux1i162
                subst ex1i162
                refine r_Mo_o T kv0 ?_
                refine c_Mod_wrong (v0 := v0) (v1 := (vI h v0 41)) T kv0 wM ?_
                intro r3i162 Tr3i162 gr3i162_0 gr3i162_1 gr3i162_2
                refine qk_some ?_
                have o163 : vI r3i162 v0 41 = vI h v0 41 := (by rw [gr3i162_0 v0 41 (by omega)])
                exact ⟨Tr3i162, (by clear ih; show ∀ a k, ¬ (a = v0 ∧ (k = 5 ∨ k = 48 ∨ k = 41)) → vI r3i162 a k = vI h a k; intro a k n0; rw [gr3i162_0 a k (by omega)]), (by clear ih; show ∀ a j, 0 ≤ j → ¬ (a = v0 + 14 ∨ a = v0 + 17 ∨ a = v0 + 18) → vA r3i162 a j = vA h a j; intro a j j0 n0; rw [gr3i162_2 a j]), (zz_fec31642e6 gr3i162_1), (zz_5d4b6079a7 o163 ab), (zz_a50cc5585c gr3i162_1)⟩
        · skip
          refine c_Mod_in (v0 := (yr3)) (v1 := 49) (v2 := 57) T ?_
          intro yr7 gr7_0 gr7_1
          dsimp only
          refine qk_if (fun cc164 => ?_) (fun cc164 => ?_)
          · skip
            unfold f_Mod_substitute_107
            refine qk_if (fun _ => ?_) (fun cc166 => absurd (by decide) cc166)
            refine qk_some ?_
            exact ⟨T, (by clear ih; show ∀ a k, ¬ (a = v0 ∧ (k = 5 ∨ k = 48 ∨ k = 41)) → vI h a k = vI h a k; intro a k n0; rfl), (by clear ih; show ∀ a j, 0 ≤ j → ¬ (a = v0 + 14 ∨ a = v0 + 17 ∨ a = v0 + 18) → vA h a j = vA h a j; intro a j j0 n0; rfl), (zz_d45f65319a hl), (zz_683f148354 ab), (zz_31e838399c)⟩
          · skip
            unfold f_Mod_substitute_107
            refine qk_if (fun cc168 => absurd cc168 (by decide)) (fun _ => ?_)
            refine qk_if (fun cc169 => ?_) (fun cc169 => ?_)
            · skip
              refine r_Mo_22 T kv0 ?_
              refine r_Mo_e17 T kv0 s0 s1 ?_
              intro x11i167 ex11i167
              subst ex11i167
              refine qk_if (fun cc170 => ?_) (fun cc170 => ?_)
              · skip
                unfold f_Mod_substitute_167
                refine qk_if (fun cc172 => ?_) (fun cc172 => ?_)
                · skip
                  refine r_Mo_22 T kv0 ?_
                  refine w_Mo_e17 T kv0 (wM _ (by omega) (by omega)) s0 s1 ?_
                  intro h8i171 Th8i171 ih8i171 ah8i171
                  unfold f_Mod_substitute_209
                  refine r_Mo_41 Th8i171 kv0 ?_
                  intro x1i173 ex1i173 lx1i173 ux1i173
                  have sx1i173 : (vI h v0 41) = x1i173 := (ex1i173.trans (by rw [ih8i171 v0 41])).symm
                  subst sx1i173
                  have o174 := g_Mo_41 T kv0
                  refine w_Mo_41 Th8i171 kv0 (wM _ (by omega) (by omega)) (zz_5664edf06b o174) (zz_be4928651b ab o174) ?_
                  intro h2i173 Th2i173 ih2i173 ah2i173
                  have o175 : vI h2i173 v0 41 = (vI h v0 41) + 1 := (by rw [ih2i173 v0 41, if_pos ⟨rfl, rfl⟩])
                  have o176 : vI h2i173 v0 3 = vI h v0 3 := (by rw [ih2i173 v0 3, if_neg (fun z => absurd z.2 (by decide)), ih8i171 v0 3])
                  have o177 : vI h2i173 v0 48 = vI h v0 48 := (by rw [ih2i173 v0 48, if_neg (fun z => absurd z.2 (by decide)), ih8i171 v0 48])
                  have o178 := g_Mo_3 T kv0
                  refine qk_mono (ih (v0) (v1) (1) h2i173 Th2i173 kv0 wM s0 s1 (zz_2034cfc662 o175 o176 gr3_2 cc172 o174) (zz_d4c0511bd9 o177 nb cc1) (zz_dcb675bef3 o175 o178 gr3_2 cc172 o174) hN (zz_4bb052608b o175 hms hq1 hq2 ab o174)) ?_
                  rintro hz ⟨Tz, g0, g1, g2, g3, g4⟩
                  try dsimp only at *
                  exact ⟨Tz, (by clear ih; show ∀ a k, ¬ (a = v0 ∧ (k = 5 ∨ k = 48 ∨ k = 41)) → vI hz a k = vI h a k; intro a k n0; rw [g0 a k (by omega), ih2i173, if_neg (by omega), ih8i171]), (by clear ih; show ∀ a j, 0 ≤ j → ¬ (a = v0 + 14 ∨ a = v0 + 17 ∨ a = v0 + 18) → vA hz a j = vA h a j; intro a j j0 n0; rw [g1 a j j0 (by omega), ah2i173, ah8i171 a j j0, if_neg (by omega)]), (zz_e1ffe81a38 g2 o175 o176 o174), (zz_90b9611921 o175 g3 o174), (zz_51145fd40a g4 o177)⟩
                · skip
                  refine qk_if (fun cc180 => ?_) (fun cc180 => ?_)
                  · skip
                    refine r_Mo_23 T kv0 ?_
                    refine w_Mo_e18 T kv0 (wM _ (by omega) (by omega)) s0 s1 ?_
                    intro h6i171 Th6i171 ih6i171 ah6i171
                    unfold f_Mod_substitute_209
                    refine r_Mo_41 Th6i171 kv0 ?_
                    intro x1i181 ex1i181 lx1i181 ux1i181
                    have sx1i181 : (vI h v0 41) = x1i181 := (ex1i181.trans (by rw [ih6i171 v0 41])).symm
                    subst sx1i181
                    have o182 := g_Mo_41 T kv0
                    refine w_Mo_41 Th6i171 kv0 (wM _ (by omega) (by omega)) (zz_5664edf06b o182) (zz_be4928651b ab o182) ?_
                    intro h2i181 Th2i181 ih2i181 ah2i181
                    have o183 : vI h2i181 v0 48 = vI h v0 48 := (by rw [ih2i181 v0 48, if_neg (fun z => absurd z.2 (by decide)), ih6i171 v0 48])
                    have o184 : vI h2i181 v0 41 = (vI h v0 41) + 1 := (by rw [ih2i181 v0 41, if_pos ⟨rfl, rfl⟩])
                    refine qk_mono (ih (v0) (v1) (1) h2i181 Th2i181 kv0 wM s0 s1 (zz_9652ae366c cc169 cc180) (zz_d4c0511bd9 o183 nb cc1) (zz_8abc27a2a4 cc169 cc180) hN (zz_4bb052608b o184 hms hq1 hq2 ab o182)) ?_
                    rintro hz ⟨Tz, g0, g1, g2, g3, g4⟩
                    try dsimp only at *
                    have o186 : vI h2i181 v0 3 = vI h v0 3 := (by rw [ih2i181 v0 3, if_neg (fun z => absurd z.2 (by decide)), ih6i171 v0 3])
                    exact ⟨Tz, (by clear ih; show ∀ a k, ¬ (a = v0 ∧ (k = 5 ∨ k = 48 ∨ k = 41)) → vI hz a k = vI h a k; intro a k n0; rw [g0 a k (by omega), ih2i181, if_neg (by omega), ih6i171]), (by clear ih; show ∀ a j, 0 ≤ j → ¬ (a = v0 + 14 ∨ a = v0 + 17 ∨ a = v0 + 18) → vA hz a j = vA h a j; intro a j j0 n0; rw [g1 a j j0 (by omega), ah2i181, ah6i171 a j j0, if_neg (by omega)]), (zz_e1ffe81a38 g2 o184 o186 o182), (zz_90b9611921 o184 g3 o182), (zz_51145fd40a g4 o183)⟩
                  · skip
                    refine r_Mo_19 T kv0 ?_
                    refine w_Mo_e14 T kv0 (wM _ (by omega) (by omega)) s0 s1 ?_
                    intro h4i171 Th4i171 ih4i171 ah4i171
                    unfold f_Mod_substitute_209
                    refine r_Mo_41 Th4i171 kv0 ?_
                    intro x1i187 ex1i187 lx1i187 ux1i187
                    have sx1i187 : (vI h v0 41) = x1i187 := (ex1i187.trans (by rw [ih4i171 v0 41])).symm
                    subst sx1i187
                    have o188 := g_Mo_41 T kv0
                    refine w_Mo_41 Th4i171 kv0 (wM _ (by omega) (by omega)) (zz_5664edf06b o188) (zz_be4928651b ab o188) ?_
                    intro h2i187 Th2i187 ih2i187 ah2i187
                    have o189 : vI h2i187 v0 41 = (vI h v0 41) + 1 := (by rw [ih2i187 v0 41, if_pos ⟨rfl, rfl⟩])
                    have o190 : vI h2i187 v0 3 = vI h v0 3 := (by rw [ih2i187 v0 3, if_neg (fun z => absurd z.2 (by decide)), ih4i171 v0 3])
                    have o191 : vI h2i187 v0 48 = vI h v0 48 := (by rw [ih2i187 v0 48, if_neg (fun z => absurd z.2 (by decide)), ih4i171 v0 48])
                    have o192 := g_Mo_3 T kv0
                    refine qk_mono (ih (v0) (v1) (1) h2i187 Th2i187 kv0 wM s0 s1 (zz_2034cfc662 o189 o190 gr3_2 cc169 o188) (zz_d4c0511bd9 o191 nb cc1) (zz_dcb675bef3 o189 o192 gr3_2 cc169 o188) hN (zz_4bb052608b o189 hms hq1 hq2 ab o188)) ?_
                    rintro hz ⟨Tz, g0, g1, g2, g3, g4⟩
                    try dsimp only at *
                    exact ⟨Tz, (by clear ih; show ∀ a k, ¬ (a = v0 ∧ (k = 5 ∨ k = 48 ∨ k = 41)) → vI hz a k = vI h a k; intro a k n0; rw [g0 a k (by omega), ih2i187, if_neg (by omega), ih4i171]), (by clear ih; show ∀ a j, 0 ≤ j → ¬ (a = v0 + 14 ∨ a = v0 + 17 ∨ a = v0 + 18) → vA hz a j = vA h a j; intro a j j0 n0; rw [g1 a j j0 (by omega), ah2i187, ah4i171 a j j0, if_neg (by omega)]), (zz_e1ffe81a38 g2 o189 o190 o188), (zz_90b9611921 o189 g3 o188), (zz_51145fd40a g4 o191)⟩
              · skip
                unfold f_Mod_substitute_158
                refine r_Mo_41 T kv0 ?_
                intro x1i194 ex1i194 lx1i194 ux1i194
                subst ex1i194
                refine r_Mo_o T kv0 ?_
                refine c_Mod_wrong (v0 := v0) (v1 := (vI h v0 41)) T kv0 wM ?_
                intro r3i194 Tr3i194 gr3i194_0 gr3i194_1 gr3i194_2
                refine qk_some ?_
                have o195 : vI r3i194 v0 41 = vI h v0 41 := (by rw [gr3i194_0 v0 41 (by omega)])
                exact ⟨Tr3i194, (by clear ih; show ∀ a k, ¬ (a = v0 ∧ (k = 5 ∨ k = 48 ∨ k = 41)) → vI r3i194 a k = vI h a k; intro a k n0; rw [gr3i194_0 a k (by omega)]), (by clear ih; show ∀ a j, 0 ≤ j → ¬ (a = v0 + 14 ∨ a = v0 + 17 ∨ a = v0 + 18) → vA r3i194 a j = vA h a j; intro a j j0 n0; rw [gr3i194_2 a j]), (zz_fec31642e6 gr3i194_1), (zz_5d4b6079a7 o195 ab), (zz_a50cc5585c gr3i194_1)⟩
            · skip
              refine qk_if (fun cc196 => ?_) (fun cc196 => ?_)
              · skip
                refine r_Mo_23 T kv0 ?_
                refine r_Mo_e18 T kv0 s0 s1 ?_
                intro x8i167 ex8i167
                subst ex8i167
                refine qk_if (fun cc197 => ?_) (fun cc197 => ?_)
                · skip
                  unfold f_Mod_substitute_167
                  refine qk_if (fun cc199 => ?_) (fun cc199 => ?_)
                  · skip
                    refine r_Mo_22 T kv0 ?_
                    refine w_Mo_e17 T kv0 (wM _ (by omega) (by omega)) s0 s1 ?_
                    intro h8i198 Th8i198 ih8i198 ah8i198
                    unfold f_Mod_substitute_209
                    refine r_Mo_41 Th8i198 kv0 ?_
                    intro x1i200 ex1i200 lx1i200 ux1i200
                    have sx1i200 : (vI h v0 41) = x1i200 := (ex1i200.trans (by rw [ih8i198 v0 41])).symm
                    subst sx1i200
                    have o201 := g_Mo_41 T kv0
                    refine w_Mo_41 Th8i198 kv0 (wM _ (by omega) (by omega)) (zz_5664edf06b o201) (zz_be4928651b ab o201) ?_
                    intro h2i200 Th2i200 ih2i200 ah2i200
                    have o202 : vI h2i200 v0 48 = vI h v0 48 := (by rw [ih2i200 v0 48, if_neg (fun z => absurd z.2 (by decide)), ih8i198 v0 48])
                    have o203 : vI h2i200 v0 41 = (vI h v0 41) + 1 := (by rw [ih2i200 v0 41, if_pos ⟨rfl, rfl⟩])
                    refine qk_mono (ih (v0) (v1) (1) h2i200 Th2i200 kv0 wM s0 s1 (zz_51f2f57837 cc196 cc199) (zz_d4c0511bd9 o202 nb cc1) (zz_064b0c980b cc196 cc199) hN (zz_4bb052608b o203 hms hq1 hq2 ab o201)) ?_
                    rintro hz ⟨Tz, g0, g1, g2, g3, g4⟩
                    try dsimp only at *
                    have o205 : vI h2i200 v0 3 = vI h v0 3 := (by rw [ih2i200 v0 3, if_neg (fun z => absurd z.2 (by decide)), ih8i198 v0 3])
                    exact ⟨Tz, (by clear ih; show ∀ a k, ¬ (a = v0 ∧ (k = 5 ∨ k = 48 ∨ k = 41)) → vI hz a k = vI h a k; intro a k n0; rw [g0 a k (by omega), ih2i200, if_neg (by omega), ih8i198]), (by clear ih; show ∀ a j, 0 ≤ j → ¬ (a = v0 + 14 ∨ a = v0 + 17 ∨ a = v0 + 18) → vA hz a j = vA h a j; intro a j j0 n0; rw [g1 a j j0 (by omega), ah2i200, ah8i198 a j j0, if_neg (by omega)]), (zz_e1ffe81a38 g2 o203 o205 o201), (zz_90b9611921 o203 g3 o201), (zz_51145fd40a g4 o202)⟩
                  · skip
                    refine qk_if (fun cc206 => ?_) (fun cc206 => ?_)
                    · skip
                      refine r_Mo_23 T kv0 ?_
                      refine w_Mo_e18 T kv0 (wM _ (by omega) (by omega)) s0 s1 ?_
                      intro h6i198 Th6i198 ih6i198 ah6i198
                      unfold f_Mod_substitute_209
                      refine r_Mo_41 Th6i198 kv0 ?_
                      intro x1i207 ex1i207 lx1i207 ux1i207
                      have sx1i207 : (vI h v0 41) = x1i207 := (ex1i207.trans (by rw [ih6i198 v0 41])).symm
                      subst sx1i207
                      have o208 := g_Mo_41 T kv0
                      refine w_Mo_41 Th6i198 kv0 (wM _ (by omega) (by omega)) (zz_5664edf06b o208) (zz_be4928651b ab o208) ?_
                      intro h2i207 Th2i207 ih2i207 ah2i207
                      have o209 : vI h2i207 v0 41 = (vI h v0 41) + 1 := (by rw [ih2i207 v0 41, if_pos ⟨rfl, rfl⟩])
                      have o210 : vI h2i207 v0 3 = vI h v0 3 := (by rw [ih2i207 v0 3, if_neg (fun z => absurd z.2 (by decide)), ih6i198 v0 3])
                      have o211 : vI h2i207 v0 48 = vI h v0 48 := (by rw [ih2i207 v0 48, if_neg (fun z => absurd z.2 (by decide)), ih6i198 v0 48])
                      have o212 := g_Mo_3 T kv0
                      refine qk_mono (ih (v0) (v1) (1) h2i207 Th2i207 kv0 wM s0 s1 (zz_6cfd15d0aa o209 o210 gr3_2 cc206 o208) (zz_d4c0511bd9 o211 nb cc1) (zz_5ba8c167ed o209 o212 gr3_2 cc206 o208) hN (zz_4bb052608b o209 hms hq1 hq2 ab o208)) ?_
                      rintro hz ⟨Tz, g0, g1, g2, g3, g4⟩
                      try dsimp only at *
                      exact ⟨Tz, (by clear ih; show ∀ a k, ¬ (a = v0 ∧ (k = 5 ∨ k = 48 ∨ k = 41)) → vI hz a k = vI h a k; intro a k n0; rw [g0 a k (by omega), ih2i207, if_neg (by omega), ih6i198]), (by clear ih; show ∀ a j, 0 ≤ j → ¬ (a = v0 + 14 ∨ a = v0 + 17 ∨ a = v0 + 18) → vA hz a j = vA h a j; intro a j j0 n0; rw [g1 a j j0 (by omega), ah2i207, ah6i198 a j j0, if_neg (by omega)]), (zz_e1ffe81a38 g2 o209 o210 o208), (zz_90b9611921 o209 g3 o208), (zz_51145fd40a g4 o211)⟩
                    · skip
                      refine r_Mo_19 T kv0 ?_
                      refine w_Mo_e14 T kv0 (wM _ (by omega) (by omega)) s0 s1 ?_
                      intro h4i198 Th4i198 ih4i198 ah4i198
                      unfold f_Mod_substitute_209
                      refine r_Mo_41 Th4i198 kv0 ?_
                      intro x1i214 ex1i214 lx1i214 ux1i214
                      have sx1i214 : (vI h v0 41) = x1i214 := (ex1i214.trans (by rw [ih4i198 v0 41])).symm
                      subst sx1i214
                      have o215 := g_Mo_41 T kv0
                      refine w_Mo_41 Th4i198 kv0 (wM _ (by omega) (by omega)) (zz_5664edf06b o215) (zz_be4928651b ab o215) ?_
                      intro h2i214 Th2i214 ih2i214 ah2i214
                      have o216 : vI h2i214 v0 41 = (vI h v0 41) + 1 := (by rw [ih2i214 v0 41, if_pos ⟨rfl, rfl⟩])
                      have o217 : vI h2i214 v0 3 = vI h v0 3 := (by rw [ih2i214 v0 3, if_neg (fun z => absurd z.2 (by decide)), ih4i198 v0 3])
                      have o218 : vI h2i214 v0 48 = vI h v0 48 := (by rw [ih2i214 v0 48, if_neg (fun z => absurd z.2 (by decide)), ih4i198 v0 48])
                      have o219 := g_Mo_3 T kv0
                      refine qk_mono (ih (v0) (v1) (1) h2i214 Th2i214 kv0 wM s0 s1 (zz_6cfd15d0aa o216 o217 gr3_2 cc196 o215) (zz_d4c0511bd9 o218 nb cc1) (zz_5ba8c167ed o216 o219 gr3_2 cc196 o215) hN (zz_4bb052608b o216 hms hq1 hq2 ab o215)) ?_
                      rintro hz ⟨Tz, g0, g1, g2, g3, g4⟩
                      try dsimp only at *
                      exact ⟨Tz, (by clear ih; show ∀ a k, ¬ (a = v0 ∧ (k = 5 ∨ k = 48 ∨ k = 41)) → vI hz a k = vI h a k; intro a k n0; rw [g0 a k (by omega), ih2i214, if_neg (by omega), ih4i198]), (by clear ih; show ∀ a j, 0 ≤ j → ¬ (a = v0 + 14 ∨ a = v0 + 17 ∨ a = v0 + 18) → vA hz a j = vA h a j; intro a j j0 n0; rw [g1 a j j0 (by omega), ah2i214, ah4i198 a j j0, if_neg (by omega)]), (zz_e1ffe81a38 g2 o216 o217 o215), (zz_90b9611921 o216 g3 o215), (zz_51145fd40a g4 o218)⟩
                · skip
                  unfold f_Mod_substitute_158
                  refine r_Mo_41 T kv0 ?_
                  intro x1i221 ex1i221 lx1i221 ux1i221
                  subst ex1i221
                  refine r_Mo_o T kv0 ?_
                  refine c_Mod_wrong (v0 := v0) (v1 := (vI h v0 41)) T kv0 wM ?_
                  intro r3i221 Tr3i221 gr3i221_0 gr3i221_1 gr3i221_2
                  refine qk_some ?_
                  have o222 : vI r3i221 v0 41 = vI h v0 41 := (by rw [gr3i221_0 v0 41 (by omega)])
                  exact ⟨Tr3i221, (by clear ih; show ∀ a k, ¬ (a = v0 ∧ (k = 5 ∨ k = 48 ∨ k = 41)) → vI r3i221 a k = vI h a k; intro a k n0; rw [gr3i221_0 a k (by omega)]), (by clear ih; show ∀ a j, 0 ≤ j → ¬ (a = v0 + 14 ∨ a = v0 + 17 ∨ a = v0 + 18) → vA r3i221 a j = vA h a j; intro a j j0 n0; rw [gr3i221_2 a j]), (zz_fec31642e6 gr3i221_1), (zz_5d4b6079a7 o222 ab), (zz_a50cc5585c gr3i221_1)⟩
              · skip
                refine r_Mo_19 T kv0 ?_
                refine r_Mo_e14 T kv0 s0 s1 ?_
                intro x5i167 ex5i167
                subst ex5i167
                refine qk_if (fun cc223 => ?_) (fun cc223 => ?_)
                · skip
                  unfold f_Mod_substitute_167
                  refine qk_if (fun cc225 => ?_) (fun cc225 => ?_)
                  · skip
                    refine r_Mo_22 T kv0 ?_
                    refine w_Mo_e17 T kv0 (wM _ (by omega) (by omega)) s0 s1 ?_
                    intro h8i224 Th8i224 ih8i224 ah8i224
                    unfold f_Mod_substitute_209
                    refine r_Mo_41 Th8i224 kv0 ?_
                    intro x1i226 ex1i226 lx1i226 ux1i226
                    have sx1i226 : (vI h v0 41) = x1i226 := (ex1i226.trans (by rw [ih8i224 v0 41])).symm
                    subst sx1i226
                    have o227 := g_Mo_41 T kv0
                    refine w_Mo_41 Th8i224 kv0 (wM _ (by omega) (by omega)) (zz_5664edf06b o227) (zz_be4928651b ab o227) ?_
                    intro h2i226 Th2i226 ih2i226 ah2i226
                    have o228 : vI h2i226 v0 41 = (vI h v0 41) + 1 := (by rw [ih2i226 v0 41, if_pos ⟨rfl, rfl⟩])
                    have o229 : vI h2i226 v0 3 = vI h v0 3 := (by rw [ih2i226 v0 3, if_neg (fun z => absurd z.2 (by decide)), ih8i224 v0 3])
                    have o230 : vI h2i226 v0 48 = vI h v0 48 := (by rw [ih2i226 v0 48, if_neg (fun z => absurd z.2 (by decide)), ih8i224 v0 48])
                    have o231 := g_Mo_3 T kv0
                    refine qk_mono (ih (v0) (v1) (1) h2i226 Th2i226 kv0 wM s0 s1 (zz_2034cfc662 o228 o229 gr3_2 cc225 o227) (zz_d4c0511bd9 o230 nb cc1) (zz_dcb675bef3 o228 o231 gr3_2 cc225 o227) hN (zz_4bb052608b o228 hms hq1 hq2 ab o227)) ?_
                    rintro hz ⟨Tz, g0, g1, g2, g3, g4⟩
                    try dsimp only at *
                    exact ⟨Tz, (by clear ih; show ∀ a k, ¬ (a = v0 ∧ (k = 5 ∨ k = 48 ∨ k = 41)) → vI hz a k = vI h a k; intro a k n0; rw [g0 a k (by omega), ih2i226, if_neg (by omega), ih8i224]), (by clear ih; show ∀ a j, 0 ≤ j → ¬ (a = v0 + 14 ∨ a = v0 + 17 ∨ a = v0 + 18) → vA hz a j = vA h a j; intro a j j0 n0; rw [g1 a j j0 (by omega), ah2i226, ah8i224 a j j0, if_neg (by omega)]), (zz_e1ffe81a38 g2 o228 o229 o227), (zz_90b9611921 o228 g3 o227), (zz_51145fd40a g4 o230)⟩
                  · skip
                    refine qk_if (fun cc233 => ?_) (fun cc233 => ?_)
                    · skip
                      refine r_Mo_23 T kv0 ?_
                      refine w_Mo_e18 T kv0 (wM _ (by omega) (by omega)) s0 s1 ?_
                      intro h6i224 Th6i224 ih6i224 ah6i224
                      unfold f_Mod_substitute_209
                      refine r_Mo_41 Th6i224 kv0 ?_
                      intro x1i234 ex1i234 lx1i234 ux1i234
                      have sx1i234 : (vI h v0 41) = x1i234 := (ex1i234.trans (by rw [ih6i224 v0 41])).symm
                      subst sx1i234
                      have o235 := g_Mo_41 T kv0
                      refine w_Mo_41 Th6i224 kv0 (wM _ (by omega) (by omega)) (zz_5664edf06b o235) (zz_be4928651b ab o235) ?_
                      intro h2i234 Th2i234 ih2i234 ah2i234
                      have o236 : vI h2i234 v0 41 = (vI h v0 41) + 1 := (by rw [ih2i234 v0 41, if_pos ⟨rfl, rfl⟩])
                      have o237 : vI h2i234 v0 3 = vI h v0 3 := (by rw [ih2i234 v0 3, if_neg (fun z => absurd z.2 (by decide)), ih6i224 v0 3])
                      have o238 : vI h2i234 v0 48 = vI h v0 48 := (by rw [ih2i234 v0 48, if_neg (fun z => absurd z.2 (by decide)), ih6i224 v0 48])
                      have o239 := g_Mo_3 T kv0
                      refine qk_mono (ih (v0) (v1) (1) h2i234 Th2i234 kv0 wM s0 s1 (zz_6cfd15d0aa o236 o237 gr3_2 cc233 o235) (zz_d4c0511bd9 o238 nb cc1) (zz_5ba8c167ed o236 o239 gr3_2 cc233 o235) hN (zz_4bb052608b o236 hms hq1 hq2 ab o235)) ?_
                      rintro hz ⟨Tz, g0, g1, g2, g3, g4⟩
                      try dsimp only at *
                      exact ⟨Tz, (by clear ih; show ∀ a k, ¬ (a = v0 ∧ (k = 5 ∨ k = 48 ∨ k = 41)) → vI hz a k = vI h a k; intro a k n0; rw [g0 a k (by omega), ih2i234, if_neg (by omega), ih6i224]), (by clear ih; show ∀ a j, 0 ≤ j → ¬ (a = v0 + 14 ∨ a = v0 + 17 ∨ a = v0 + 18) → vA hz a j = vA h a j; intro a j j0 n0; rw [g1 a j j0 (by omega), ah2i234, ah6i224 a j j0, if_neg (by omega)]), (zz_e1ffe81a38 g2 o236 o237 o235), (zz_90b9611921 o236 g3 o235), (zz_51145fd40a g4 o238)⟩
                    · skip
                      refine r_Mo_19 T kv0 ?_
                      refine w_Mo_e14 T kv0 (wM _ (by omega) (by omega)) s0 s1 ?_
                      intro h4i224 Th4i224 ih4i224 ah4i224
                      unfold f_Mod_substitute_209
                      refine r_Mo_41 Th4i224 kv0 ?_
                      intro x1i241 ex1i241 lx1i241 ux1i241
                      have sx1i241 : (vI h v0 41) = x1i241 := (ex1i241.trans (by rw [ih4i224 v0 41])).symm
                      subst sx1i241
                      have o242 := g_Mo_41 T kv0
                      refine w_Mo_41 Th4i224 kv0 (wM _ (by omega) (by omega)) (zz_5664edf06b o242) (zz_be4928651b ab o242) ?_
                      intro h2i241 Th2i241 ih2i241 ah2i241
                      have o243 : vI h2i241 v0 41 = (vI h v0 41) + 1 := (by rw [ih2i241 v0 41, if_pos ⟨rfl, rfl⟩])
                      have o244 : vI h2i241 v0 3 = vI h v0 3 := (by rw [ih2i241 v0 3, if_neg (fun z => absurd z.2 (by decide)), ih4i224 v0 3])
                      have o245 : vI h2i241 v0 48 = vI h v0 48 := (by rw [ih2i241 v0 48, if_neg (fun z => absurd z.2 (by decide)), ih4i224 v0 48])
                      refine qk_mono (ih (v0) (v1) (1) h2i241 Th2i241 kv0 wM s0 s1 (zz_fb90687127 o243 o244 gr3_2 gr7_1 cc164 o242) (zz_d4c0511bd9 o245 nb cc1) (zz_650a223098 o243 gr3_3 gr7_1 cc164 o242) hN (zz_4bb052608b o243 hms hq1 hq2 ab o242)) ?_
                      rintro hz ⟨Tz, g0, g1, g2, g3, g4⟩
                      try dsimp only at *
                      exact ⟨Tz, (by clear ih; show ∀ a k, ¬ (a = v0 ∧ (k = 5 ∨ k = 48 ∨ k = 41)) → vI hz a k = vI h a k; intro a k n0; rw [g0 a k (by omega), ih2i241, if_neg (by omega), ih4i224]), (by clear ih; show ∀ a j, 0 ≤ j → ¬ (a = v0 + 14 ∨ a = v0 + 17 ∨ a = v0 + 18) → vA hz a j = vA h a j; intro a j j0 n0; rw [g1 a j j0 (by omega), ah2i241, ah4i224 a j j0, if_neg (by omega)]), (zz_e1ffe81a38 g2 o243 o244 o242), (zz_90b9611921 o243 g3 o242), (zz_51145fd40a g4 o245)⟩
                · skip
                  unfold f_Mod_substitute_158
                  refine r_Mo_41 T kv0 ?_
                  intro x1i247 ex1i247 lx1i247 ux1i247
                  subst ex1i247
                  refine r_Mo_o T kv0 ?_
                  refine c_Mod_wrong (v0 := v0) (v1 := (vI h v0 41)) T kv0 wM ?_
                  intro r3i247 Tr3i247 gr3i247_0 gr3i247_1 gr3i247_2
                  refine qk_some ?_
                  have o248 : vI r3i247 v0 41 = vI h v0 41 := (by rw [gr3i247_0 v0 41 (by omega)])
                  exact ⟨Tr3i247, (by clear ih; show ∀ a k, ¬ (a = v0 ∧ (k = 5 ∨ k = 48 ∨ k = 41)) → vI r3i247 a k = vI h a k; intro a k n0; rw [gr3i247_0 a k (by omega)]), (by clear ih; show ∀ a j, 0 ≤ j → ¬ (a = v0 + 14 ∨ a = v0 + 17 ∨ a = v0 + 18) → vA r3i247 a j = vA h a j; intro a j j0 n0; rw [gr3i247_2 a j]), (zz_fec31642e6 gr3i247_1), (zz_5d4b6079a7 o248 ab), (zz_a50cc5585c gr3i247_1)⟩
theorem p_Mod_substitute_70 {L : q_L} {W : Nat → Prop} {h0 : z_H} {π : Nat → Nat → Option Nat} {N : Nat} {h : z_H} {v0 : Nat} {v1 : Int32} {v2 : Int32} (T : q_U L W h0 π h) (kv0 : q_M L π v0) (wM : ∀ a, v0 ≤ a → a < v0 + 46 → W a) (s0 : 0 ≤ v1) (s1 : v1 < 80) (hl : vI h v0 48 = 0 → vI h v0 41 ≤ vI h v0 3) (nb : v2 ≠ 0 → vI h v0 48 = 0) (ab : vI h v0 41 ≤ 245) (hN : 100000 ≤ N) : qk (f_Mod_substitute_70 N  N v0 v1 v2 h) (fun r => q_U L W h0 π r ∧ (∀ a k, ¬ (a = v0 ∧ (k = 5 ∨ k = 48 ∨ k = 41)) → vI r a k = vI h a k) ∧ (∀ a j, 0 ≤ j → ¬ (a = v0 + 14 ∨ a = v0 + 17 ∨ a = v0 + 18) → vA r a j = vA h a j) ∧ (vI r v0 48 = 0 → vI h v0 41 ≤ vI r v0 41 ∧ vI r v0 41 ≤ vI h v0 3) ∧ (vI h v0 41 ≤ vI r v0 41 ∧ vI r v0 41 ≤ 246) ∧ (vI r v0 48 = 0 → vI h v0 48 = 0)) := by
  have hq := q_qnN hN
  have rg_at := g_Mo_41 T kv0
  refine p_Mod_substitute_70_n (q_lo (M := 251) (by decide) (by decide)) N v0 v1 v2 h T kv0 wM s0 s1 hl nb ab hN ?_ 
  show 251 - q_n N ≤ _
  rw [hq]
  lia
