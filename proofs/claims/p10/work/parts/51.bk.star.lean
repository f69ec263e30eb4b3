set_option maxHeartbeats 1000000 in
theorem p_Mod_star {L : q_L} {W : Nat → Prop} {h0 : z_H} {π : Nat → Nat → Option Nat} {N : Nat} {f0 : Int32} {h : z_H} {v0 : Nat} (T : q_U L W h0 π h) (kv0 : q_M L π v0) (wM : ∀ a, v0 ≤ a → a < v0 + 46 → W a) (bd : vI h v0 48 = 0) (hl : vI h v0 41 < vI h v0 3) (hi : vA h (v0 + 21) (vI h v0 42) ≤ vI h v0 41) (J : q_JM (vA h (v0 + 26)) (vA h (v0 + 27)) f0 (260 * vI h v0 42 + vA h (v0 + 21) (vI h v0 42)) (vI h v0 44) (vI h v0 49) (vI h v0 50)) : qk (f_Mod_star N v0 h) (fun r => q_U L W h0 π r ∧ (∀ a k, ¬ (a = v0 ∧ (k = 5 ∨ k = 46 ∨ k = 48 ∨ k = 50 ∨ k = 41 ∨ k = 44 ∨ k = 49 ∨ k = 45)) → vI r a k = vI h a k) ∧ (∀ a j, 0 ≤ j → ¬ (a = v0 + 21 ∨ a = v0 + 26 ∨ a = v0 + 27 ∨ a = v0 + 29) → vA r a j = vA h a j) ∧ (∀ j, 0 ≤ j → j ≠ vI h v0 42 → vA r (v0 + 21) j = vA h (v0 + 21) j) ∧ (∀ j, 0 ≤ j → (j < (260 * vI h v0 42 + vA h (v0 + 21) (vI h v0 42)) ∨ 260 * vI h v0 42 + 260 ≤ j) → vA r (v0 + 26) j = vA h (v0 + 26) j ∧ vA r (v0 + 27) j = vA h (v0 + 27) j) ∧ (vI r v0 48 = 0 → vI h v0 41 < vI r v0 41 ∧ vI r v0 41 ≤ vI h v0 3) ∧ (vI r v0 48 = 0 → vA r (v0 + 21) (vI h v0 42) ≤ vI r v0 41) ∧ (vI r v0 48 = 0 → q_JM (vA r (v0 + 26)) (vA r (v0 + 27)) f0 (260 * vI r v0 42 + vA r (v0 + 21) (vI r v0 42)) (vI r v0 44) (vI r v0 49) (vI r v0 50)) ∧ (vI h v0 41 ≤ vI r v0 41 ∧ vI r v0 41 ≤ 242) ∧ (vA h (v0 + 21) (vI h v0 42) ≤ vA r (v0 + 21) (vI h v0 42) ∧ vA r (v0 + 21) (vI h v0 42) ≤ 241)) := by
  have rg_half := g_Mo_42 T kv0
  have rg_at := g_Mo_41 T kv0
  have rg_length := g_Mo_3 T kv0
  have rg_group := g_Mo_44 T kv0
  have re_items := g_Mo_e21 T kv0 (vI h v0 42)
  have Jf := J.2.2.2.2.2.2.2.2.2
  have J0 := J.1
  unfold f_Mod_star
  refine r_Mo_50 T kv0 ?_
  intro x1 ex1
  subst ex1
  refine qk_if (fun cc1 => ?_) (fun cc1 => ?_)
  · skip
    unfold f_Mod_star_15
    refine r_Mo_41 T kv0 ?_
    intro x1i2 ex1i2 lx1i2 ux1i2
    subst ex1i2
    refine r_Mo_o T kv0 ?_
    refine c_Mod_wrong (v0 := v0) (v1 := (vI h v0 41)) T kv0 (by first | with_reducible assumption | grind | lia) ?_
    intro r3i2 Tr3i2 gr3i2_0 gr3i2_1 gr3i2_2
    refine qk_some ?_
    exact ⟨Tr3i2, (by intro a k n0; rw [gr3i2_0 a k (by omega)]), (by intro a j j0 n0; rw [gr3i2_2 a j]), (by intro j j0 n; rw [gr3i2_2 (v0 + 21) j]), (by intro j j0 jj; rw [gr3i2_2 (v0 + 26) j, gr3i2_2 (v0 + 27) j]; exact ⟨rfl, rfl⟩), (by intro bb; exact absurd (bb.symm.trans gr3i2_1) (by decide)), (by intro bb; exact absurd (bb.symm.trans gr3i2_1) (by decide)), (by intro bb; exact absurd (bb.symm.trans gr3i2_1) (by decide)), (by exact q_upn rg_at.1 (q_a1 hl rg_length.2) (Or.inl (by rw [gr3i2_0 v0 41 (by omega)]))), (by exact q_ui8 re_items.1 (Int32.le_trans hi (q_a1 hl rg_length.2)) (Or.inl (by rw [gr3i2_2 (v0 + 21) (vI h v0 42)])))⟩
  · skip
    refine r_Mo_45 T kv0 ?_
    intro x3 ex3
    subst ex3
    refine qk_if (fun cc3 => ?_) (fun cc3 => ?_)
    · skip
      unfold f_Mod_star_15
      refine r_Mo_41 T kv0 ?_
      intro x1i4 ex1i4 lx1i4 ux1i4
      subst ex1i4
      refine r_Mo_o T kv0 ?_
      refine c_Mod_wrong (v0 := v0) (v1 := (vI h v0 41)) T kv0 (by first | with_reducible assumption | grind | lia) ?_
      intro r3i4 Tr3i4 gr3i4_0 gr3i4_1 gr3i4_2
      refine qk_some ?_
      exact ⟨Tr3i4, (by intro a k n0; rw [gr3i4_0 a k (by omega)]), (by intro a j j0 n0; rw [gr3i4_2 a j]), (by intro j j0 n; rw [gr3i4_2 (v0 + 21) j]), (by intro j j0 jj; rw [gr3i4_2 (v0 + 26) j, gr3i4_2 (v0 + 27) j]; exact ⟨rfl, rfl⟩), (by intro bb; exact absurd (bb.symm.trans gr3i4_1) (by decide)), (by intro bb; exact absurd (bb.symm.trans gr3i4_1) (by decide)), (by intro bb; exact absurd (bb.symm.trans gr3i4_1) (by decide)), (by exact q_upn rg_at.1 (q_a1 hl rg_length.2) (Or.inl (by rw [gr3i4_0 v0 41 (by omega)]))), (by exact q_ui8 re_items.1 (Int32.le_trans hi (q_a1 hl rg_length.2)) (Or.inl (by rw [gr3i4_2 (v0 + 21) (vI h v0 42)])))⟩
    · skip
      refine r_Mo_45 T kv0 ?_
      intro x5 ex5
      subst ex5
      refine w_Mo_45 T kv0 (by first | with_reducible assumption | grind | lia) ?_
      intro h6 Th6 ih6 ah6
      refine w_Mo_50 Th6 kv0 (by first | with_reducible assumption | grind | lia) ?_
      intro h7 Th7 ih7 ah7
      refine r_Mo_34 Th7 kv0 ?_
      refine r_Mo_42 Th7 kv0 ?_
      intro x9 ex9 lx9 ux9
      subst ex9
      refine r_Mo_26 Th7 kv0 ?_
      refine r_Mo_42 Th7 kv0 ?_
      intro x11 ex11 lx11 ux11
      subst ex11
      refine r_Mo_e21 Th7 kv0 (by first | with_reducible assumption | grind | lia) (by first | with_reducible assumption | grind | lia) ?_
      intro x12 ex12 lx12 ux12
      subst ex12
      refine w_Mo_e29 Th7 kv0 (by first | with_reducible assumption | grind | lia) (by first | with_reducible assumption | grind | lia) (by first | with_reducible assumption | grind | lia) ?_
      intro h13 Th13 ih13 ah13
      refine r_Mo_41 Th13 kv0 ?_
      intro x14 ex14 lx14 ux14
      subst ex14
      refine w_Mo_41 Th13 kv0 (by first | with_reducible assumption | grind | lia) (by first | with_reducible assumption | grind | lia) (by first | with_reducible assumption | grind | lia) ?_
      intro h15 Th15 ih15 ah15
      refine qk_some ?_
      exact ⟨Th15, (by intro a k n0; rw [ih15, if_neg (by omega), ih13, ih7, if_neg (by omega), ih6, if_neg (by omega)]), (by intro a j j0 n0; rw [ah15, ah13 a j j0, if_neg (by omega), ah7, ah6]), (by intro j j0 n; rw [ah15, ah13 (v0 + 21) j j0, if_neg (by omega), ah7, ah6]), (by intro j j0 jj; rw [ah15, ah13 (v0 + 26) j j0, if_neg (by omega), ah7, ah6, ah15, ah13 (v0 + 27) j j0, if_neg (by omega), ah7, ah6]; exact ⟨rfl, rfl⟩), (by intro bb; exact q_u1 rg_at.1 hl rg_length.2 (by rw [ih15, if_pos ⟨rfl, rfl⟩, ih13, ih7, if_neg (fun z => absurd z.2 (by decide)), ih6, if_neg (fun z => absurd z.2 (by decide))])), (by intro bb; exact q_ui re_items.1 hi (q_a1 hl rg_length.2) (Or.inl (by rw [ah15, ah13 (v0 + 21) (vI h v0 42) rg_half.1, if_neg (by omega), ah7, ah6])) (Or.inl (by rw [ih15, if_pos ⟨rfl, rfl⟩, ih13, ih7, if_neg (fun z => absurd z.2 (by decide)), ih6, if_neg (fun z => absurd z.2 (by decide))]))), (by intro bb; exact q_JM_eq J (fun j j0 j1 => by rw [ah15, ah13 (v0 + 26) j j0, if_neg (by omega), ah7, ah6, ah15, ah13 (v0 + 27) j j0, if_neg (by omega), ah7, ah6]; exact ⟨rfl, rfl⟩) rfl (by rw [ih15, if_neg (fun z => absurd z.2 (by decide)), ih13, ih7, if_neg (fun z => absurd z.2 (by decide)), ih6, if_neg (fun z => absurd z.2 (by decide)), ah15, ah13 (v0 + 21) (vI h v0 42) rg_half.1, if_neg (by omega), ah7, ah6]) (by rw [ih15, if_neg (fun z => absurd z.2 (by decide)), ih13, ih7, if_neg (fun z => absurd z.2 (by decide)), ih6, if_neg (fun z => absurd z.2 (by decide))]) (by rw [ih15, if_neg (fun z => absurd z.2 (by decide)), ih13, ih7, if_neg (fun z => absurd z.2 (by decide)), ih6, if_neg (fun z => absurd z.2 (by decide))]) (Or.inr (by rw [ih15, if_neg (fun z => absurd z.2 (by decide)), ih13, ih7, if_pos ⟨rfl, rfl⟩]))), (by exact q_upn rg_at.1 (q_a1 hl rg_length.2) (Or.inr (Or.inl (by rw [ih15, if_pos ⟨rfl, rfl⟩, ih13, ih7, if_neg (fun z => absurd z.2 (by decide)), ih6, if_neg (fun z => absurd z.2 (by decide))])))), (by exact q_ui8 re_items.1 (Int32.le_trans hi (q_a1 hl rg_length.2)) (Or.inl (by rw [ah15, ah13 (v0 + 21) (vI h v0 42) rg_half.1, if_neg (by omega), ah7, ah6])))⟩
theorem c_Mod_star {L : q_L} {W : Nat → Prop} {h0 : z_H} {π : Nat → Nat → Option Nat} {N : Nat} {f0 : Int32} {h : z_H} {v0 : Nat} {β : Type} {f : z_H → Option β} {Q : β → Prop} (T : q_U L W h0 π h) (kv0 : q_M L π v0) (wM : ∀ a, v0 ≤ a → a < v0 + 46 → W a) (bd : vI h v0 48 = 0) (hl : vI h v0 41 < vI h v0 3) (hi : vA h (v0 + 21) (vI h v0 42) ≤ vI h v0 41) (J : q_JM (vA h (v0 + 26)) (vA h (v0 + 27)) f0 (260 * vI h v0 42 + vA h (v0 + 21) (vI h v0 42)) (vI h v0 44) (vI h v0 49) (vI h v0 50)) (H : ∀ h', q_U L W h0 π h' → (∀ a k, ¬ (a = v0 ∧ (k = 5 ∨ k = 46 ∨ k = 48 ∨ k = 50 ∨ k = 41 ∨ k = 44 ∨ k = 49 ∨ k = 45)) → vI h' a k = vI h a k) → (∀ a j, 0 ≤ j → ¬ (a = v0 + 21 ∨ a = v0 + 26 ∨ a = v0 + 27 ∨ a = v0 + 29) → vA h' a j = vA h a j) → (∀ j, 0 ≤ j → j ≠ vI h v0 42 → vA h' (v0 + 21) j = vA h (v0 + 21) j) → (∀ j, 0 ≤ j → (j < (260 * vI h v0 42 + vA h (v0 + 21) (vI h v0 42)) ∨ 260 * vI h v0 42 + 260 ≤ j) → vA h' (v0 + 26) j = vA h (v0 + 26) j ∧ vA h' (v0 + 27) j = vA h (v0 + 27) j) → (vI h' v0 48 = 0 → vI h v0 41 < vI h' v0 41 ∧ vI h' v0 41 ≤ vI h v0 3) → (vI h' v0 48 = 0 → vA h' (v0 + 21) (vI h v0 42) ≤ vI h' v0 41) → (vI h' v0 48 = 0 → q_JM (vA h' (v0 + 26)) (vA h' (v0 + 27)) f0 (260 * vI h' v0 42 + vA h' (v0 + 21) (vI h' v0 42)) (vI h' v0 44) (vI h' v0 49) (vI h' v0 50)) → (vI h v0 41 ≤ vI h' v0 41 ∧ vI h' v0 41 ≤ 242) → (vA h (v0 + 21) (vI h v0 42) ≤ vA h' (v0 + 21) (vI h v0 42) ∧ vA h' (v0 + 21) (vI h v0 42) ≤ 241) → qk (f h') Q) : qk (z_b (f_Mod_star N v0 h) f) Q := by
  refine qk_b (p_Mod_star T kv0 wM bd hl hi J) ?_
  rintro hz ⟨Tz, g0, g1, g2, g3, g4, g5, g6, g7, g8⟩
  exact H hz Tz g0 g1 g2 g3 g4 g5 g6 g7 g8
