set_option maxHeartbeats 1000000 in
theorem p_Mod_escaped_68 {L : q_L} {W : Nat → Prop} {h0 : z_H} {π : Nat → Nat → Option Nat} {N : Nat} {f0 : Int32} {h : z_H} {v0 : Nat} {v1 : Int32} (T : q_U L W h0 π h) (kv0 : q_M L π v0) (wM : ∀ a, v0 ≤ a → a < v0 + 46 → W a) (bd : vI h v0 48 = 0) (hl : vI h v0 41 + 1 < vI h v0 3) (hi : vA h (v0 + 21) (vI h v0 42) ≤ vI h v0 41) (J : q_JM (vA h (v0 + 26)) (vA h (v0 + 27)) f0 (260 * vI h v0 42 + vA h (v0 + 21) (vI h v0 42)) (vI h v0 44) (vI h v0 49) (vI h v0 50)) : qk (f_Mod_escaped_68 N v0 v1 h) (fun r => q_U L W h0 π r ∧ (∀ a k, ¬ (a = v0 ∧ (k = 5 ∨ k = 46 ∨ k = 48 ∨ k = 50 ∨ k = 41 ∨ k = 44 ∨ k = 49 ∨ k = 45)) → vI r a k = vI h a k) ∧ (∀ a j, 0 ≤ j → ¬ (a = v0 + 21 ∨ a = v0 + 26 ∨ a = v0 + 27 ∨ a = v0 + 29) → vA r a j = vA h a j) ∧ (∀ j, 0 ≤ j → j ≠ vI h v0 42 → vA r (v0 + 21) j = vA h (v0 + 21) j) ∧ (∀ j, 0 ≤ j → (j < (260 * vI h v0 42 + vA h (v0 + 21) (vI h v0 42)) ∨ 260 * vI h v0 42 + 260 ≤ j) → vA r (v0 + 26) j = vA h (v0 + 26) j ∧ vA r (v0 + 27) j = vA h (v0 + 27) j) ∧ (vI r v0 48 = 0 → vI h v0 41 < vI r v0 41 ∧ vI r v0 41 ≤ vI h v0 3) ∧ (vI r v0 48 = 0 → vA r (v0 + 21) (vI h v0 42) ≤ vI r v0 41) ∧ (vI r v0 48 = 0 → q_JM (vA r (v0 + 26)) (vA r (v0 + 27)) f0 (260 * vI r v0 42 + vA r (v0 + 21) (vI r v0 42)) (vI r v0 44) (vI r v0 49) (vI r v0 50)) ∧ (vI h v0 41 ≤ vI r v0 41 ∧ vI r v0 41 ≤ 242) ∧ (vA h (v0 + 21) (vI h v0 42) ≤ vA r (v0 + 21) (vI h v0 42) ∧ vA r (v0 + 21) (vI h v0 42) ≤ 241)) := by
  have rg_half := g_Mo_42 T kv0
  have rg_at := g_Mo_41 T kv0
  have rg_length := g_Mo_3 T kv0
  have rg_group := g_Mo_44 T kv0
  have re_items := g_Mo_e21 T kv0 (vI h v0 42)
  unfold f_Mod_escaped_68
  refine r_Mo_o T kv0 ?_
  refine c_Mod_wrong (v0 := v0) (v1 := v1) T kv0 (by first | with_reducible assumption | grind | lia) ?_
  intro r2 Tr2 gr2_0 gr2_1 gr2_2
  unfold f_Mod_escaped_263
  refine r_Mo_41 Tr2 kv0 ?_
  intro x1i1 ex1i1 lx1i1 ux1i1
  subst ex1i1
  refine w_Mo_41 Tr2 kv0 (by first | with_reducible assumption | grind | lia) (by first | with_reducible assumption | grind | lia) (by first | with_reducible assumption | grind | lia) ?_
  intro h2i1 Th2i1 ih2i1 ah2i1
  refine qk_some ?_
  exact ⟨Th2i1, (by intro a k n0; rw [ih2i1, if_neg (by omega), gr2_0 a k (by omega)]), (by intro a j j0 n0; rw [ah2i1, gr2_2 a j]), (by first | with_reducible assumption | grind | lia), (by intro j j0 jj; grind -lia), (by intro bb; exact absurd bb (by grind -lia)), (by intro bb; exact absurd bb (by grind -lia)), (by intro bb; exact absurd bb (by grind)), (by exact q_upn rg_at.1 (q_a2 rg_at.1 rg_at.2 hl rg_length.2) (by grind -lia)), (by exact q_ui8 re_items.1 (Int32.le_trans hi (q_a2 rg_at.1 rg_at.2 hl rg_length.2)) (by grind -lia))⟩
theorem c_Mod_escaped_68 {L : q_L} {W : Nat → Prop} {h0 : z_H} {π : Nat → Nat → Option Nat} {N : Nat} {f0 : Int32} {h : z_H} {v0 : Nat} {v1 : Int32} {β : Type} {f : z_H → Option β} {Q : β → Prop} (T : q_U L W h0 π h) (kv0 : q_M L π v0) (wM : ∀ a, v0 ≤ a → a < v0 + 46 → W a) (bd : vI h v0 48 = 0) (hl : vI h v0 41 + 1 < vI h v0 3) (hi : vA h (v0 + 21) (vI h v0 42) ≤ vI h v0 41) (J : q_JM (vA h (v0 + 26)) (vA h (v0 + 27)) f0 (260 * vI h v0 42 + vA h (v0 + 21) (vI h v0 42)) (vI h v0 44) (vI h v0 49) (vI h v0 50)) (H : ∀ h', q_U L W h0 π h' → (∀ a k, ¬ (a = v0 ∧ (k = 5 ∨ k = 46 ∨ k = 48 ∨ k = 50 ∨ k = 41 ∨ k = 44 ∨ k = 49 ∨ k = 45)) → vI h' a k = vI h a k) → (∀ a j, 0 ≤ j → ¬ (a = v0 + 21 ∨ a = v0 + 26 ∨ a = v0 + 27 ∨ a = v0 + 29) → vA h' a j = vA h a j) → (∀ j, 0 ≤ j → j ≠ vI h v0 42 → vA h' (v0 + 21) j = vA h (v0 + 21) j) → (∀ j, 0 ≤ j → (j < (260 * vI h v0 42 + vA h (v0 + 21) (vI h v0 42)) ∨ 260 * vI h v0 42 + 260 ≤ j) → vA h' (v0 + 26) j = vA h (v0 + 26) j ∧ vA h' (v0 + 27) j = vA h (v0 + 27) j) → (vI h' v0 48 = 0 → vI h v0 41 < vI h' v0 41 ∧ vI h' v0 41 ≤ vI h v0 3) → (vI h' v0 48 = 0 → vA h' (v0 + 21) (vI h v0 42) ≤ vI h' v0 41) → (vI h' v0 48 = 0 → q_JM (vA h' (v0 + 26)) (vA h' (v0 + 27)) f0 (260 * vI h' v0 42 + vA h' (v0 + 21) (vI h' v0 42)) (vI h' v0 44) (vI h' v0 49) (vI h' v0 50)) → (vI h v0 41 ≤ vI h' v0 41 ∧ vI h' v0 41 ≤ 242) → (vA h (v0 + 21) (vI h v0 42) ≤ vA h' (v0 + 21) (vI h v0 42) ∧ vA h' (v0 + 21) (vI h v0 42) ≤ 241) → qk (f h') Q) : qk (z_b (f_Mod_escaped_68 N v0 v1 h) f) Q := by
  refine qk_b (p_Mod_escaped_68 T kv0 wM bd hl hi J) ?_
  rintro hz ⟨Tz, g0, g1, g2, g3, g4, g5, g6, g7, g8⟩
  exact H hz Tz g0 g1 g2 g3 g4 g5 g6 g7 g8

