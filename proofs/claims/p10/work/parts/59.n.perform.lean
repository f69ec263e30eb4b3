theorem zz_59b5a3dc6a {a1 : Int32} (h0 : a1 = 0) : (0 ≤ a1) ∧ (a1 ≤ 41) := by simp only [Int32.le_iff_toInt_le, Int32.lt_iff_toInt_lt, ← Int32.toInt_inj, ne_eq] at *; have l0 : (0 : Int32).toInt = 0 := (by decide); have l1 : (41 : Int32).toInt = 41 := (by decide); omega
theorem zz_549381f4d0 {a1 a2 a3 : Int32} (h0 : ((a1 = 97) ∨ ((a1 = 99) ∨ (a1 = 105))) → ((a2 ≤ a3) ∧ (a3 ≤ a2 + 300))) (h1 : a1 = 97) (h2 : (0 ≤ a2) ∧ (a2 ≤ 600)) : a2 ≤ a3 := by simp only [Int32.le_iff_toInt_le, Int32.lt_iff_toInt_lt, ← Int32.toInt_inj, ne_eq] at *; have b0 := Int32.le_toInt a2; have c0 := Int32.toInt_lt a2; have l0 : (97 : Int32).toInt = 97 := (by decide); have l1 : (99 : Int32).toInt = 99 := (by decide); have l2 : (105 : Int32).toInt = 105 := (by decide); have l3 : (300 : Int32).toInt = 300 := (by decide); have l4 : (0 : Int32).toInt = 0 := (by decide); have l5 : (600 : Int32).toInt = 600 := (by decide); have s0 : (a2 + 300).toInt = a2.toInt + 300 := q_tA (by decide) (by omega) (by omega); omega
theorem zz_f0ddbf51de {a1 : Int32} (h0 : (0 ≤ a1) ∧ (a1 ≤ 40)) : (0 ≤ a1) ∧ (a1 ≤ 41) := by simp only [Int32.le_iff_toInt_le, Int32.lt_iff_toInt_lt, ← Int32.toInt_inj, ne_eq] at *; have l0 : (0 : Int32).toInt = 0 := (by decide); have l1 : (40 : Int32).toInt = 40 := (by decide); have l2 : (41 : Int32).toInt = 41 := (by decide); omega
theorem zz_ad498810fd {a1 : Int32} (h0 : (-1 ≤ a1) ∧ (a1 ≤ 40)) (h1 : ¬ (a1 = -1)) : (0 ≤ a1) ∧ (a1 ≤ 41) := by simp only [Int32.le_iff_toInt_le, Int32.lt_iff_toInt_lt, ← Int32.toInt_inj, ne_eq] at *; have l0 : (-1 : Int32).toInt = -1 := (by decide); have l1 : (40 : Int32).toInt = 40 := (by decide); have l2 : (0 : Int32).toInt = 0 := (by decide); have l3 : (41 : Int32).toInt = 41 := (by decide); omega
theorem zz_b3ebcf533b {a1 a2 a3 a4 a5 : Int32} (h0 : a1 = a2) (h1 : a3 = a4) (h2 : ((a5 = 97) ∨ ((a5 = 99) ∨ (a5 = 105))) → ((a4 ≤ a2) ∧ (a2 ≤ a4 + 300))) (h3 : a5 = 99) (h4 : (0 ≤ a4) ∧ (a4 ≤ 600)) : a1 ≤ a3 + 300 := by simp only [Int32.le_iff_toInt_le, Int32.lt_iff_toInt_lt, ← Int32.toInt_inj, ne_eq] at *; have b0 := Int32.le_toInt a4; have c0 := Int32.toInt_lt a4; have b1 := Int32.le_toInt a3; have c1 := Int32.toInt_lt a3; have l0 : (97 : Int32).toInt = 97 := (by decide); have l1 : (99 : Int32).toInt = 99 := (by decide); have l2 : (105 : Int32).toInt = 105 := (by decide); have l3 : (300 : Int32).toInt = 300 := (by decide); have l4 : (0 : Int32).toInt = 0 := (by decide); have l5 : (600 : Int32).toInt = 600 := (by decide); have s0 : (a4 + 300).toInt = a4.toInt + 300 := q_tA (by decide) (by omega) (by omega); have s1 : (a3 + 300).toInt = a3.toInt + 300 := q_tA (by decide) (by omega) (by omega); omega
theorem zz_6ae1d1c5db {a1 a2 a3 a4 a5 : Int32} (h0 : a1 = a2) (h1 : (a1 ≤ a3) ∧ (a3 ≤ a4)) (h2 : a4 = a5) : (a2 ≤ a3) ∧ (a3 ≤ a5) := by simp only [Int32.le_iff_toInt_le, Int32.lt_iff_toInt_lt, ← Int32.toInt_inj, ne_eq] at *; omega
theorem zz_c9e71edd1e {a1 a2 a3 : Int32} (h0 : ((a1 = 97) ∨ ((a1 = 99) ∨ (a1 = 105))) → ((a2 ≤ a3) ∧ (a3 ≤ a2 + 300))) (h1 : a1 = 105) (h2 : (0 ≤ a2) ∧ (a2 ≤ 600)) : a3 ≤ a2 + 300 := by simp only [Int32.le_iff_toInt_le, Int32.lt_iff_toInt_lt, ← Int32.toInt_inj, ne_eq] at *; have b0 := Int32.le_toInt a2; have c0 := Int32.toInt_lt a2; have l0 : (97 : Int32).toInt = 97 := (by decide); have l1 : (99 : Int32).toInt = 99 := (by decide); have l2 : (105 : Int32).toInt = 105 := (by decide); have l3 : (300 : Int32).toInt = 300 := (by decide); have l4 : (0 : Int32).toInt = 0 := (by decide); have l5 : (600 : Int32).toInt = 600 := (by decide); have s0 : (a2 + 300).toInt = a2.toInt + 300 := q_tA (by decide) (by omega) (by omega); omega
theorem zz_f637ee8a05 {a1 a2 a3 a4 : Int32} (h0 : (a1 = 121) → ((a2 ≤ a3) ∧ (a4 = a3 + (a3 - a2)))) (h1 : a1 = 121) (h2 : (0 ≤ a3) ∧ (a3 ≤ 600)) (h3 : (0 ≤ a2) ∧ (a2 ≤ 600)) : a2 ≤ a3 := by simp only [Int32.le_iff_toInt_le, Int32.lt_iff_toInt_lt, ← Int32.toInt_inj, ne_eq] at *; have b0 := Int32.le_toInt a3; have c0 := Int32.toInt_lt a3; have b1 := Int32.le_toInt a2; have c1 := Int32.toInt_lt a2; have l0 : (121 : Int32).toInt = 121 := (by decide); have l1 : (0 : Int32).toInt = 0 := (by decide); have l2 : (600 : Int32).toInt = 600 := (by decide); have s0 : (a3 - a2).toInt = a3.toInt - a2.toInt := q_tS rfl (by omega) (by omega); have s1 : (a3 + (a3 - a2)).toInt = a3.toInt + (a3 - a2).toInt := q_tA rfl (by omega) (by omega); omega
theorem zz_be767933fd {a1 a2 a3 a4 : Int32} (h0 : (a1 = 121) → ((a2 ≤ a3) ∧ (a4 = a3 + (a3 - a2)))) (h1 : a1 = 121) (h2 : (0 ≤ a3) ∧ (a3 ≤ 600)) (h3 : (0 ≤ a2) ∧ (a2 ≤ 600)) : a4 = a3 + (a3 - a2) := by simp only [Int32.le_iff_toInt_le, Int32.lt_iff_toInt_lt, ← Int32.toInt_inj, ne_eq] at *; have b0 := Int32.le_toInt a3; have c0 := Int32.toInt_lt a3; have b1 := Int32.le_toInt a2; have c1 := Int32.toInt_lt a2; have l0 : (121 : Int32).toInt = 121 := (by decide); have l1 : (0 : Int32).toInt = 0 := (by decide); have l2 : (600 : Int32).toInt = 600 := (by decide); have s0 : (a3 - a2).toInt = a3.toInt - a2.toInt := q_tS rfl (by omega) (by omega); have s1 : (a3 + (a3 - a2)).toInt = a3.toInt + (a3 - a2).toInt := q_tA rfl (by omega) (by omega); omega
set_option maxHeartbeats 8000000 in
theorem p_Mod_perform {L : q_L} {W : Nat → Prop} {h0 : z_H} {π : Nat → Nat → Option Nat} {N : Nat} {h : z_H} {v0 : Nat} {v1 : Int32} {v2 : Int32} (T : q_U L W h0 π h) (kv0 : q_M L π v0) (wM : ∀ a, v0 ≤ a → a < v0 + 46 → W a) (s0 : 0 ≤ v1) (s1 : v1 < 80) (k0 : 0 ≤ v2) (k1 : v2 ≤ 40) (P3 : vA h (v0 + 4) v1 = 115 → q_PM h v0 (vA h (v0 + 9) v1)) (t1 : vA h (v0 + 4) v1 = 97 ∨ vA h (v0 + 4) v1 = 99 ∨ vA h (v0 + 4) v1 = 105 → vA h (v0 + 10) v1 ≤ vA h (v0 + 11) v1 ∧ vA h (v0 + 11) v1 ≤ vA h (v0 + 10) v1 + 300) (y1 : vA h (v0 + 4) v1 = 121 → vA h (v0 + 10) v1 ≤ vA h (v0 + 12) v1 ∧ vA h (v0 + 11) v1 = vA h (v0 + 12) v1 + (vA h (v0 + 12) v1 - vA h (v0 + 10) v1)) (AP : vI h v0 68 = 0 ∨ vA h (v0 + 42) (vI h v0 68 - 1) = 10) (rl : vI h v0 70 ≤ vI h v0 4) (hN : 100000 ≤ N) : qk (f_Mod_perform N v0 v1 v2 h) (fun r => q_U L W h0 π r.2 ∧ (0 ≤ r.1 ∧ r.1 ≤ 41) ∧ (vI h v0 70 ≤ vI r.2 v0 70 ∧ vI r.2 v0 70 ≤ vI h v0 4) ∧ (∀ a k, ¬ (a = v0 ∧ (k = 6 ∨ k = 76 ∨ k = 69 ∨ k = 67 ∨ k = 68 ∨ k = 65 ∨ k = 66 ∨ k = 70 ∨ k = 72 ∨ k = 73 ∨ k = 74 ∨ k = 54 ∨ k = 55 ∨ k = 56 ∨ k = 57)) → vI r.2 a k = vI h a k) ∧ (∀ a j, 0 ≤ j → ¬ (a = v0 + 43 ∨ a = v0 + 41 ∨ a = v0 + 39 ∨ a = v0 + 40 ∨ a = v0 + 42 ∨ a = v0 + 36 ∨ a = v0 + 37 ∨ a = v0 + 38) → vA r.2 a j = vA h a j) ∧ (vI r.2 v0 68 = 0 ∨ vA r.2 (v0 + 42) (vI r.2 v0 68 - 1) = 10)) := by
  unfold f_Mod_perform
  refine r_Mo_9 T kv0 ?_
  refine r_Mo_e4 T kv0 s0 s1 ?_
  intro x2 ex2
  subst ex2
  refine qk_if (fun cc1 => ?_) (fun cc1 => ?_)
  · skip
    refine r_Mo_o T kv0 ?_
    refine c_Mod_tellNumber (v0 := v0) T kv0 wM hN ?_
    intro yr5 hr5 Tr5 gr5_0 gr5_1 gr5_2 gr5_3
    dsimp only
    unfold f_Mod_perform_520
    refine qk_some ?_
    have o3 : vI hr5 v0 70 = vI h v0 70 := (by rw [gr5_2 v0 70 (by omega)])
    have o4 := g_Mo_68 T kv0
    exact ⟨Tr5, (zz_e57b4beb88 k0 k1), (zz_f8cc4ad1dc o3 rl), (by show ∀ a k, ¬ (a = v0 ∧ (k = 6 ∨ k = 76 ∨ k = 69 ∨ k = 67 ∨ k = 68 ∨ k = 65 ∨ k = 66 ∨ k = 70 ∨ k = 72 ∨ k = 73 ∨ k = 74 ∨ k = 54 ∨ k = 55 ∨ k = 56 ∨ k = 57)) → vI hr5 a k = vI h a k; intro a k n0; rw [gr5_2 a k (by omega)]), (by show ∀ a j, 0 ≤ j → ¬ (a = v0 + 43 ∨ a = v0 + 41 ∨ a = v0 + 39 ∨ a = v0 + 40 ∨ a = v0 + 42 ∨ a = v0 + 36 ∨ a = v0 + 37 ∨ a = v0 + 38) → vA hr5 a j = vA h a j; intro a j j0 n0; rw [gr5_3 a j j0 (by omega)]), (by show vI hr5 v0 68 = 0 ∨ vA hr5 (v0 + 42) (vI hr5 v0 68 - 1) = 10; by_cases z : vI h v0 68 = 0; (left; rw [gr5_2 v0 68 (by omega)]; exact z); (right; have jz : 0 ≤ vI h v0 68 - 1 := (zz_e8fb340edd o4 z); rw [gr5_2 v0 68 (by omega)]; rw [gr5_3 (v0 + 42) (vI h v0 68 - 1) jz (by omega)]; exact (AP).resolve_left z))⟩
  · skip
    refine qk_if (fun cc5 => ?_) (fun cc5 => ?_)
    · skip
      refine r_Mo_o T kv0 ?_
      refine c_Mod_cut (v0 := v0) T kv0 wM (by exact AP) rl hN ?_
      intro yr8 hr8 Tr8 gr8_0 gr8_1 gr8_2 gr8_3 gr8_4
      dsimp only
      refine qk_some ?_
      exact ⟨Tr8, (zz_59b5a3dc6a gr8_0), gr8_1, (by show ∀ a k, ¬ (a = v0 ∧ (k = 6 ∨ k = 76 ∨ k = 69 ∨ k = 67 ∨ k = 68 ∨ k = 65 ∨ k = 66 ∨ k = 70 ∨ k = 72 ∨ k = 73 ∨ k = 74 ∨ k = 54 ∨ k = 55 ∨ k = 56 ∨ k = 57)) → vI hr8 a k = vI h a k; intro a k n0; rw [gr8_2 a k (by omega)]), (by show ∀ a j, 0 ≤ j → ¬ (a = v0 + 43 ∨ a = v0 + 41 ∨ a = v0 + 39 ∨ a = v0 + 40 ∨ a = v0 + 42 ∨ a = v0 + 36 ∨ a = v0 + 37 ∨ a = v0 + 38) → vA hr8 a j = vA h a j; intro a j j0 n0; rw [gr8_3 a j j0 (by omega)]), (by show vI hr8 v0 68 = 0 ∨ vA hr8 (v0 + 42) (vI hr8 v0 68 - 1) = 10; exact gr8_4)⟩
    · skip
      refine qk_if (fun cc6 => ?_) (fun cc6 => ?_)
      · skip
        refine r_Mo_9 T kv0 ?_
        refine r_Mo_e4 T kv0 s0 s1 ?_
        intro x11 ex11
        subst ex11
        refine r_Mo_o T kv0 ?_
        refine c_Mod_holds (v0 := v0) (v1 := (vA h (v0 + 4) v1)) T kv0 wM hN ?_
        intro yr13 hr13 Tr13 gr13_0 gr13_1
        dsimp only
        unfold f_Mod_perform_520
        refine qk_some ?_
        have o8 : vI hr13 v0 70 = vI h v0 70 := (by rw [gr13_0 v0 70 (by omega)])
        have o9 := g_Mo_68 T kv0
        exact ⟨Tr13, (zz_e57b4beb88 k0 k1), (zz_f8cc4ad1dc o8 rl), (by show ∀ a k, ¬ (a = v0 ∧ (k = 6 ∨ k = 76 ∨ k = 69 ∨ k = 67 ∨ k = 68 ∨ k = 65 ∨ k = 66 ∨ k = 70 ∨ k = 72 ∨ k = 73 ∨ k = 74 ∨ k = 54 ∨ k = 55 ∨ k = 56 ∨ k = 57)) → vI hr13 a k = vI h a k; intro a k n0; rw [gr13_0 a k (by omega)]), (by show ∀ a j, 0 ≤ j → ¬ (a = v0 + 43 ∨ a = v0 + 41 ∨ a = v0 + 39 ∨ a = v0 + 40 ∨ a = v0 + 42 ∨ a = v0 + 36 ∨ a = v0 + 37 ∨ a = v0 + 38) → vA hr13 a j = vA h a j; intro a j j0 n0; rw [gr13_1 a j j0 (by omega)]), (by show vI hr13 v0 68 = 0 ∨ vA hr13 (v0 + 42) (vI hr13 v0 68 - 1) = 10; by_cases z : vI h v0 68 = 0; (left; rw [gr13_0 v0 68 (by omega)]; exact z); (right; have jz : 0 ≤ vI h v0 68 - 1 := (zz_e8fb340edd o9 z); rw [gr13_0 v0 68 (by omega)]; rw [gr13_1 (v0 + 42) (vI h v0 68 - 1) jz (by omega)]; exact (AP).resolve_left z))⟩
      · skip
        refine qk_if (fun cc10 => ?_) (fun cc10 => ?_)
        · skip
          refine r_Mo_9 T kv0 ?_
          refine r_Mo_e4 T kv0 s0 s1 ?_
          intro x16 ex16
          subst ex16
          refine r_Mo_o T kv0 ?_
          refine c_Mod_holds (v0 := v0) (v1 := (vA h (v0 + 4) v1)) T kv0 wM hN ?_
          intro yr18 hr18 Tr18 gr18_0 gr18_1
          dsimp only
          unfold f_Mod_perform_520
          refine qk_some ?_
          have o12 : vI hr18 v0 70 = vI h v0 70 := (by rw [gr18_0 v0 70 (by omega)])
          have o13 := g_Mo_68 T kv0
          exact ⟨Tr18, (zz_e57b4beb88 k0 k1), (zz_f8cc4ad1dc o12 rl), (by show ∀ a k, ¬ (a = v0 ∧ (k = 6 ∨ k = 76 ∨ k = 69 ∨ k = 67 ∨ k = 68 ∨ k = 65 ∨ k = 66 ∨ k = 70 ∨ k = 72 ∨ k = 73 ∨ k = 74 ∨ k = 54 ∨ k = 55 ∨ k = 56 ∨ k = 57)) → vI hr18 a k = vI h a k; intro a k n0; rw [gr18_0 a k (by omega)]), (by show ∀ a j, 0 ≤ j → ¬ (a = v0 + 43 ∨ a = v0 + 41 ∨ a = v0 + 39 ∨ a = v0 + 40 ∨ a = v0 + 42 ∨ a = v0 + 36 ∨ a = v0 + 37 ∨ a = v0 + 38) → vA hr18 a j = vA h a j; intro a j j0 n0; rw [gr18_1 a j j0 (by omega)]), (by show vI hr18 v0 68 = 0 ∨ vA hr18 (v0 + 42) (vI hr18 v0 68 - 1) = 10; by_cases z : vI h v0 68 = 0; (left; rw [gr18_0 v0 68 (by omega)]; exact z); (right; have jz : 0 ≤ vI h v0 68 - 1 := (zz_e8fb340edd o13 z); rw [gr18_0 v0 68 (by omega)]; rw [gr18_1 (v0 + 42) (vI h v0 68 - 1) jz (by omega)]; exact (AP).resolve_left z))⟩
        · skip
          refine qk_if (fun cc14 => ?_) (fun cc14 => ?_)
          · skip
            refine r_Mo_o T kv0 ?_
            refine c_Mod_nextLine (v0 := v0) (v1 := v1) (v2 := v2) T kv0 wM s0 s1 k0 k1 (by exact AP) rl hN ?_
            intro yr21 hr21 Tr21 gr21_0 gr21_1 gr21_2 gr21_3 gr21_4
            dsimp only
            refine qk_some ?_
            exact ⟨Tr21, (zz_b94f94fe38 gr21_0), gr21_1, (by show ∀ a k, ¬ (a = v0 ∧ (k = 6 ∨ k = 76 ∨ k = 69 ∨ k = 67 ∨ k = 68 ∨ k = 65 ∨ k = 66 ∨ k = 70 ∨ k = 72 ∨ k = 73 ∨ k = 74 ∨ k = 54 ∨ k = 55 ∨ k = 56 ∨ k = 57)) → vI hr21 a k = vI h a k; intro a k n0; rw [gr21_2 a k (by omega)]), (by show ∀ a j, 0 ≤ j → ¬ (a = v0 + 43 ∨ a = v0 + 41 ∨ a = v0 + 39 ∨ a = v0 + 40 ∨ a = v0 + 42 ∨ a = v0 + 36 ∨ a = v0 + 37 ∨ a = v0 + 38) → vA hr21 a j = vA h a j; intro a j j0 n0; rw [gr21_3 a j j0 (by omega)]), (by show vI hr21 v0 68 = 0 ∨ vA hr21 (v0 + 42) (vI hr21 v0 68 - 1) = 10; exact gr21_4)⟩
          · skip
            refine qk_if (fun cc15 => ?_) (fun cc15 => ?_)
            · skip
              refine r_Mo_o T kv0 ?_
              refine c_Mod_tellSpace (v0 := v0) (v1 := 1) T kv0 wM hN ?_
              intro yr24 hr24 Tr24 gr24_0 gr24_1 gr24_2 gr24_3
              dsimp only
              unfold f_Mod_perform_520
              refine qk_some ?_
              have o17 : vI hr24 v0 70 = vI h v0 70 := (by rw [gr24_2 v0 70 (by omega)])
              have o18 := g_Mo_68 T kv0
              exact ⟨Tr24, (zz_e57b4beb88 k0 k1), (zz_f8cc4ad1dc o17 rl), (by show ∀ a k, ¬ (a = v0 ∧ (k = 6 ∨ k = 76 ∨ k = 69 ∨ k = 67 ∨ k = 68 ∨ k = 65 ∨ k = 66 ∨ k = 70 ∨ k = 72 ∨ k = 73 ∨ k = 74 ∨ k = 54 ∨ k = 55 ∨ k = 56 ∨ k = 57)) → vI hr24 a k = vI h a k; intro a k n0; rw [gr24_2 a k (by omega)]), (by show ∀ a j, 0 ≤ j → ¬ (a = v0 + 43 ∨ a = v0 + 41 ∨ a = v0 + 39 ∨ a = v0 + 40 ∨ a = v0 + 42 ∨ a = v0 + 36 ∨ a = v0 + 37 ∨ a = v0 + 38) → vA hr24 a j = vA h a j; intro a j j0 n0; rw [gr24_3 a j j0 (by omega)]), (by show vI hr24 v0 68 = 0 ∨ vA hr24 (v0 + 42) (vI hr24 v0 68 - 1) = 10; by_cases z : vI h v0 68 = 0; (left; rw [gr24_2 v0 68 (by omega)]; exact z); (right; have jz : 0 ≤ vI h v0 68 - 1 := (zz_e8fb340edd o18 z); rw [gr24_2 v0 68 (by omega)]; rw [gr24_3 (v0 + 42) (vI h v0 68 - 1) jz (by omega)]; exact (AP).resolve_left z))⟩
            · skip
              refine qk_if (fun cc19 => ?_) (fun cc19 => ?_)
              · skip
                refine r_Mo_o T kv0 ?_
                have o20 := g_Mo_e10 T kv0 v1
                refine c_Mod_append (v0 := v0) (v1 := v1) T kv0 wM s0 s1 (zz_549381f4d0 t1 cc19 o20) (by exact AP) hN ?_
                intro yr27 hr27 Tr27 gr27_0 gr27_1 gr27_2
                dsimp only
                unfold f_Mod_perform_520
                refine qk_some ?_
                have o22 : vI hr27 v0 70 = vI h v0 70 := (by rw [gr27_0 v0 70 (by omega)])
                exact ⟨Tr27, (zz_e57b4beb88 k0 k1), (zz_f8cc4ad1dc o22 rl), (by show ∀ a k, ¬ (a = v0 ∧ (k = 6 ∨ k = 76 ∨ k = 69 ∨ k = 67 ∨ k = 68 ∨ k = 65 ∨ k = 66 ∨ k = 70 ∨ k = 72 ∨ k = 73 ∨ k = 74 ∨ k = 54 ∨ k = 55 ∨ k = 56 ∨ k = 57)) → vI hr27 a k = vI h a k; intro a k n0; rw [gr27_0 a k (by omega)]), (by show ∀ a j, 0 ≤ j → ¬ (a = v0 + 43 ∨ a = v0 + 41 ∨ a = v0 + 39 ∨ a = v0 + 40 ∨ a = v0 + 42 ∨ a = v0 + 36 ∨ a = v0 + 37 ∨ a = v0 + 38) → vA hr27 a j = vA h a j; intro a j j0 n0; rw [gr27_1 a j j0 (by omega)]), (by show vI hr27 v0 68 = 0 ∨ vA hr27 (v0 + 42) (vI hr27 v0 68 - 1) = 10; exact gr27_2)⟩
              · skip
                refine qk_if (fun cc23 => ?_) (fun cc23 => ?_)
                · skip
                  refine r_Mo_18 T kv0 ?_
                  refine r_Mo_e13 T kv0 s0 s1 ?_
                  intro x30 ex30 lx30 ux30
                  subst ex30
                  refine qk_if (fun cc24 => ?_) (fun cc24 => ?_)
                  · skip
                    refine r_Mo_24 T kv0 ?_
                    refine r_Mo_7 T kv0 ?_
                    intro x35 ex35 lx35 ux35
                    subst ex35
                    have o25 := g_Mo_7 T kv0
                    refine r_Mo_e19 T kv0 lx35 (zz_e1f2e57bfa o25) ?_
                    intro x36 ex36 lx36 ux36
                    subst ex36
                    refine qk_some ?_
                    have o26 := g_Mo_e19 T kv0 (vI h v0 7)
                    exact ⟨T, (zz_f0ddbf51de o26), (zz_bb25b93de8 rl), (by show ∀ a k, ¬ (a = v0 ∧ (k = 6 ∨ k = 76 ∨ k = 69 ∨ k = 67 ∨ k = 68 ∨ k = 65 ∨ k = 66 ∨ k = 70 ∨ k = 72 ∨ k = 73 ∨ k = 74 ∨ k = 54 ∨ k = 55 ∨ k = 56 ∨ k = 57)) → vI h a k = vI h a k; intro a k n0; rfl), (by show ∀ a j, 0 ≤ j → ¬ (a = v0 + 43 ∨ a = v0 + 41 ∨ a = v0 + 39 ∨ a = v0 + 40 ∨ a = v0 + 42 ∨ a = v0 + 36 ∨ a = v0 + 37 ∨ a = v0 + 38) → vA h a j = vA h a j; intro a j j0 n0; rfl), (by show vI h v0 68 = 0 ∨ vA h (v0 + 42) (vI h v0 68 - 1) = 10; exact AP)⟩
                  · skip
                    refine r_Mo_18 T kv0 ?_
                    refine r_Mo_e13 T kv0 s0 s1 ?_
                    intro x33 ex33 lx33 ux33
                    subst ex33
                    refine qk_some ?_
                    have o27 := g_Mo_e13 T kv0 v1
                    exact ⟨T, (zz_ad498810fd o27 cc24), (zz_bb25b93de8 rl), (by show ∀ a k, ¬ (a = v0 ∧ (k = 6 ∨ k = 76 ∨ k = 69 ∨ k = 67 ∨ k = 68 ∨ k = 65 ∨ k = 66 ∨ k = 70 ∨ k = 72 ∨ k = 73 ∨ k = 74 ∨ k = 54 ∨ k = 55 ∨ k = 56 ∨ k = 57)) → vI h a k = vI h a k; intro a k n0; rfl), (by show ∀ a j, 0 ≤ j → ¬ (a = v0 + 43 ∨ a = v0 + 41 ∨ a = v0 + 39 ∨ a = v0 + 40 ∨ a = v0 + 42 ∨ a = v0 + 36 ∨ a = v0 + 37 ∨ a = v0 + 38) → vA h a j = vA h a j; intro a j j0 n0; rfl), (by show vI h v0 68 = 0 ∨ vA h (v0 + 42) (vI h v0 68 - 1) = 10; exact AP)⟩
                · skip
                  refine qk_if (fun cc28 => ?_) (fun cc28 => ?_)
                  · skip
                    refine w_Mo_65 T kv0 (wM _ (by omega) (by omega)) (by show (0 : Int32) ≤ 0; decide) (by show (0 : Int32) ≤ 60; decide) ?_
                    intro h38 Th38 ih38 ah38
                    refine r_Mo_12 Th38 kv0 ?_
                    refine r_Mo_e7 Th38 kv0 s0 s1 ?_
                    intro x40 ex40 lx40 ux40
                    have sx40 : (vA h (v0 + 7) v1) = x40 := (ex40.trans (by rw [ah38 (v0 + 7) v1])).symm
                    subst sx40
                    refine qk_if (fun cc29 => ?_) (fun cc29 => ?_)
                    · skip
                      unfold f_Mod_perform_403
                      refine r_Mo_o Th38 kv0 ?_
                      have o31 : vA h38 (v0 + 11) v1 = vA h (v0 + 11) v1 := (by rw [ah38 (v0 + 11) v1])
                      have o32 : vA h38 (v0 + 10) v1 = vA h (v0 + 10) v1 := (by rw [ah38 (v0 + 10) v1])
                      have o33 := g_Mo_e10 T kv0 v1
                      refine c_Mod_tellText (v0 := v0) (v1 := v1) Th38 kv0 wM s0 s1 (zz_b3ebcf533b o31 o32 t1 cc28 o33) hN ?_
                      intro yr2i30 hr2i30 Tr2i30 gr2i30_0 gr2i30_1 gr2i30_2 gr2i30_3
                      dsimp only
                      unfold f_Mod_perform_409
                      refine r_Mo_76 Tr2i30 kv0 ?_
                      intro x1i34 ex1i34
                      subst ex1i34
                      refine qk_if (fun cc35 => ?_) (fun cc35 => ?_)
                      · skip
                        refine r_Mo_o Tr2i30 kv0 ?_
                        have o36 := g_Mo_68 T kv0
                        have o37 : vI hr2i30 v0 70 = vI h v0 70 := (by rw [gr2i30_2 v0 70 (by omega), ih38 v0 70, if_neg (fun z => absurd z.2 (by decide))])
                        have o38 : vI hr2i30 v0 4 = vI h v0 4 := (by rw [gr2i30_2 v0 4 (by omega), ih38 v0 4, if_neg (fun z => absurd z.2 (by decide))])
                        refine c_Mod_endCycle (v0 := v0) (v1 := 0) Tr2i30 kv0 wM (by by_cases z : vI h v0 68 = 0; (left; rw [gr2i30_2 v0 68 (by omega), ih38 v0 68, if_neg (fun z => absurd z.2 (by decide))]; exact z); (right; have jz : 0 ≤ vI h v0 68 - 1 := (zz_e8fb340edd o36 z); rw [gr2i30_2 v0 68 (by omega), ih38 v0 68, if_neg (fun z => absurd z.2 (by decide))]; rw [gr2i30_3 (v0 + 42) (vI h v0 68 - 1) jz (by omega), ah38 (v0 + 42) (vI h v0 68 - 1)]; exact (AP).resolve_left z)) (zz_3b376fc0b5 o37 o38 rl) hN ?_
                        intro yr4i34 hr4i34 Tr4i34 gr4i34_0 gr4i34_1 gr4i34_2 gr4i34_3 gr4i34_4 gr4i34_5
                        dsimp only
                        refine qk_some ?_
                        exact ⟨Tr4i34, (zz_59b5a3dc6a gr4i34_0), (zz_6ae1d1c5db o37 gr4i34_2 o38), (by show ∀ a k, ¬ (a = v0 ∧ (k = 6 ∨ k = 76 ∨ k = 69 ∨ k = 67 ∨ k = 68 ∨ k = 65 ∨ k = 66 ∨ k = 70 ∨ k = 72 ∨ k = 73 ∨ k = 74 ∨ k = 54 ∨ k = 55 ∨ k = 56 ∨ k = 57)) → vI hr4i34 a k = vI h a k; intro a k n0; rw [gr4i34_3 a k (by omega), gr2i30_2 a k (by omega), ih38, if_neg (by omega)]), (by show ∀ a j, 0 ≤ j → ¬ (a = v0 + 43 ∨ a = v0 + 41 ∨ a = v0 + 39 ∨ a = v0 + 40 ∨ a = v0 + 42 ∨ a = v0 + 36 ∨ a = v0 + 37 ∨ a = v0 + 38) → vA hr4i34 a j = vA h a j; intro a j j0 n0; rw [gr4i34_4 a j j0 (by omega), gr2i30_3 a j j0 (by omega), ah38]), (by show vI hr4i34 v0 68 = 0 ∨ vA hr4i34 (v0 + 42) (vI hr4i34 v0 68 - 1) = 10; exact gr4i34_5)⟩
                      · skip
                        refine qk_some ?_
                        have o39 : vI hr2i30 v0 70 = vI h v0 70 := (by rw [gr2i30_2 v0 70 (by omega), ih38 v0 70, if_neg (fun z => absurd z.2 (by decide))])
                        have o40 := g_Mo_68 T kv0
                        exact ⟨Tr2i30, (zz_ade52561c1), (zz_f8cc4ad1dc o39 rl), (by show ∀ a k, ¬ (a = v0 ∧ (k = 6 ∨ k = 76 ∨ k = 69 ∨ k = 67 ∨ k = 68 ∨ k = 65 ∨ k = 66 ∨ k = 70 ∨ k = 72 ∨ k = 73 ∨ k = 74 ∨ k = 54 ∨ k = 55 ∨ k = 56 ∨ k = 57)) → vI hr2i30 a k = vI h a k; intro a k n0; rw [gr2i30_2 a k (by omega), ih38, if_neg (by omega)]), (by show ∀ a j, 0 ≤ j → ¬ (a = v0 + 43 ∨ a = v0 + 41 ∨ a = v0 + 39 ∨ a = v0 + 40 ∨ a = v0 + 42 ∨ a = v0 + 36 ∨ a = v0 + 37 ∨ a = v0 + 38) → vA hr2i30 a j = vA h a j; intro a j j0 n0; rw [gr2i30_3 a j j0 (by omega), ah38]), (by show vI hr2i30 v0 68 = 0 ∨ vA hr2i30 (v0 + 42) (vI hr2i30 v0 68 - 1) = 10; by_cases z : vI h v0 68 = 0; (left; rw [gr2i30_2 v0 68 (by omega), ih38 v0 68, if_neg (fun z => absurd z.2 (by decide))]; exact z); (right; have jz : 0 ≤ vI h v0 68 - 1 := (zz_e8fb340edd o40 z); rw [gr2i30_2 v0 68 (by omega), ih38 v0 68, if_neg (fun z => absurd z.2 (by decide))]; rw [gr2i30_3 (v0 + 42) (vI h v0 68 - 1) jz (by omega), ah38 (v0 + 42) (vI h v0 68 - 1)]; exact (AP).resolve_left z))⟩
                    · skip
                      refine r_Mo_21 Th38 kv0 ?_
                      refine r_Mo_e16 Th38 kv0 s0 s1 ?_
                      intro x43 ex43
                      have sx43 : (vA h (v0 + 16) v1) = x43 := (ex43.trans (by rw [ah38 (v0 + 16) v1])).symm
                      subst sx43
                      refine qk_if (fun cc41 => ?_) (fun cc41 => ?_)
                      · skip
                        refine r_Mo_75 Th38 kv0 ?_
                        intro x45 ex45
                        have sx45 : (vI h v0 75) = x45 := (ex45.trans (by rw [ih38 v0 75, if_neg (fun z => absurd z.2 (by decide))])).symm
                        subst sx45
                        refine qk_if (fun cc42 => ?_) (fun cc42 => ?_)
                        · skip
                          unfold f_Mod_perform_409
                          refine r_Mo_76 Th38 kv0 ?_
                          intro x1i43 ex1i43
                          have sx1i43 : (vI h v0 76) = x1i43 := (ex1i43.trans (by rw [ih38 v0 76, if_neg (fun z => absurd z.2 (by decide))])).symm
                          subst sx1i43
                          refine qk_if (fun cc44 => ?_) (fun cc44 => ?_)
                          · skip
                            refine r_Mo_o Th38 kv0 ?_
                            have o45 := g_Mo_68 T kv0
                            have o46 : vI h38 v0 70 = vI h v0 70 := (by rw [ih38 v0 70, if_neg (fun z => absurd z.2 (by decide))])
                            have o47 : vI h38 v0 4 = vI h v0 4 := (by rw [ih38 v0 4, if_neg (fun z => absurd z.2 (by decide))])
                            refine c_Mod_endCycle (v0 := v0) (v1 := 0) Th38 kv0 wM (by by_cases z : vI h v0 68 = 0; (left; rw [ih38 v0 68, if_neg (fun z => absurd z.2 (by decide))]; exact z); (right; have jz : 0 ≤ vI h v0 68 - 1 := (zz_e8fb340edd o45 z); rw [ih38 v0 68, if_neg (fun z => absurd z.2 (by decide))]; rw [ah38 (v0 + 42) (vI h v0 68 - 1)]; exact (AP).resolve_left z)) (zz_3b376fc0b5 o46 o47 rl) hN ?_
                            intro yr4i43 hr4i43 Tr4i43 gr4i43_0 gr4i43_1 gr4i43_2 gr4i43_3 gr4i43_4 gr4i43_5
                            dsimp only
                            refine qk_some ?_
                            exact ⟨Tr4i43, (zz_59b5a3dc6a gr4i43_0), (zz_6ae1d1c5db o46 gr4i43_2 o47), (by show ∀ a k, ¬ (a = v0 ∧ (k = 6 ∨ k = 76 ∨ k = 69 ∨ k = 67 ∨ k = 68 ∨ k = 65 ∨ k = 66 ∨ k = 70 ∨ k = 72 ∨ k = 73 ∨ k = 74 ∨ k = 54 ∨ k = 55 ∨ k = 56 ∨ k = 57)) → vI hr4i43 a k = vI h a k; intro a k n0; rw [gr4i43_3 a k (by omega), ih38, if_neg (by omega)]), (by show ∀ a j, 0 ≤ j → ¬ (a = v0 + 43 ∨ a = v0 + 41 ∨ a = v0 + 39 ∨ a = v0 + 40 ∨ a = v0 + 42 ∨ a = v0 + 36 ∨ a = v0 + 37 ∨ a = v0 + 38) → vA hr4i43 a j = vA h a j; intro a j j0 n0; rw [gr4i43_4 a j j0 (by omega), ah38]), (by show vI hr4i43 v0 68 = 0 ∨ vA hr4i43 (v0 + 42) (vI hr4i43 v0 68 - 1) = 10; exact gr4i43_5)⟩
                          · skip
                            refine qk_some ?_
                            have o48 : vI h38 v0 70 = vI h v0 70 := (by rw [ih38 v0 70, if_neg (fun z => absurd z.2 (by decide))])
                            have o49 := g_Mo_68 T kv0
                            exact ⟨Th38, (zz_ade52561c1), (zz_f8cc4ad1dc o48 rl), (by show ∀ a k, ¬ (a = v0 ∧ (k = 6 ∨ k = 76 ∨ k = 69 ∨ k = 67 ∨ k = 68 ∨ k = 65 ∨ k = 66 ∨ k = 70 ∨ k = 72 ∨ k = 73 ∨ k = 74 ∨ k = 54 ∨ k = 55 ∨ k = 56 ∨ k = 57)) → vI h38 a k = vI h a k; intro a k n0; rw [ih38, if_neg (by omega)]), (by show ∀ a j, 0 ≤ j → ¬ (a = v0 + 43 ∨ a = v0 + 41 ∨ a = v0 + 39 ∨ a = v0 + 40 ∨ a = v0 + 42 ∨ a = v0 + 36 ∨ a = v0 + 37 ∨ a = v0 + 38) → vA h38 a j = vA h a j; intro a j j0 n0; rw [ah38]), (by show vI h38 v0 68 = 0 ∨ vA h38 (v0 + 42) (vI h38 v0 68 - 1) = 10; by_cases z : vI h v0 68 = 0; (left; rw [ih38 v0 68, if_neg (fun z => absurd z.2 (by decide))]; exact z); (right; have jz : 0 ≤ vI h v0 68 - 1 := (zz_e8fb340edd o49 z); rw [ih38 v0 68, if_neg (fun z => absurd z.2 (by decide))]; rw [ah38 (v0 + 42) (vI h v0 68 - 1)]; exact (AP).resolve_left z))⟩
                        · skip
                          unfold f_Mod_perform_403
                          refine r_Mo_o Th38 kv0 ?_
                          have o51 : vA h38 (v0 + 11) v1 = vA h (v0 + 11) v1 := (by rw [ah38 (v0 + 11) v1])
                          have o52 : vA h38 (v0 + 10) v1 = vA h (v0 + 10) v1 := (by rw [ah38 (v0 + 10) v1])
                          have o53 := g_Mo_e10 T kv0 v1
                          refine c_Mod_tellText (v0 := v0) (v1 := v1) Th38 kv0 wM s0 s1 (zz_b3ebcf533b o51 o52 t1 cc28 o53) hN ?_
                          intro yr2i50 hr2i50 Tr2i50 gr2i50_0 gr2i50_1 gr2i50_2 gr2i50_3
                          dsimp only
                          unfold f_Mod_perform_409
                          refine r_Mo_76 Tr2i50 kv0 ?_
                          intro x1i54 ex1i54
                          subst ex1i54
                          refine qk_if (fun cc55 => ?_) (fun cc55 => ?_)
                          · skip
                            refine r_Mo_o Tr2i50 kv0 ?_
                            have o56 := g_Mo_68 T kv0
                            have o57 : vI hr2i50 v0 70 = vI h v0 70 := (by rw [gr2i50_2 v0 70 (by omega), ih38 v0 70, if_neg (fun z => absurd z.2 (by decide))])
                            have o58 : vI hr2i50 v0 4 = vI h v0 4 := (by rw [gr2i50_2 v0 4 (by omega), ih38 v0 4, if_neg (fun z => absurd z.2 (by decide))])
                            refine c_Mod_endCycle (v0 := v0) (v1 := 0) Tr2i50 kv0 wM (by by_cases z : vI h v0 68 = 0; (left; rw [gr2i50_2 v0 68 (by omega), ih38 v0 68, if_neg (fun z => absurd z.2 (by decide))]; exact z); (right; have jz : 0 ≤ vI h v0 68 - 1 := (zz_e8fb340edd o56 z); rw [gr2i50_2 v0 68 (by omega), ih38 v0 68, if_neg (fun z => absurd z.2 (by decide))]; rw [gr2i50_3 (v0 + 42) (vI h v0 68 - 1) jz (by omega), ah38 (v0 + 42) (vI h v0 68 - 1)]; exact (AP).resolve_left z)) (zz_3b376fc0b5 o57 o58 rl) hN ?_
                            intro yr4i54 hr4i54 Tr4i54 gr4i54_0 gr4i54_1 gr4i54_2 gr4i54_3 gr4i54_4 gr4i54_5
                            dsimp only
                            refine qk_some ?_
                            exact ⟨Tr4i54, (zz_59b5a3dc6a gr4i54_0), (zz_6ae1d1c5db o57 gr4i54_2 o58), (by show ∀ a k, ¬ (a = v0 ∧ (k = 6 ∨ k = 76 ∨ k = 69 ∨ k = 67 ∨ k = 68 ∨ k = 65 ∨ k = 66 ∨ k = 70 ∨ k = 72 ∨ k = 73 ∨ k = 74 ∨ k = 54 ∨ k = 55 ∨ k = 56 ∨ k = 57)) → vI hr4i54 a k = vI h a k; intro a k n0; rw [gr4i54_3 a k (by omega), gr2i50_2 a k (by omega), ih38, if_neg (by omega)]), (by show ∀ a j, 0 ≤ j → ¬ (a = v0 + 43 ∨ a = v0 + 41 ∨ a = v0 + 39 ∨ a = v0 + 40 ∨ a = v0 + 42 ∨ a = v0 + 36 ∨ a = v0 + 37 ∨ a = v0 + 38) → vA hr4i54 a j = vA h a j; intro a j j0 n0; rw [gr4i54_4 a j j0 (by omega), gr2i50_3 a j j0 (by omega), ah38]), (by show vI hr4i54 v0 68 = 0 ∨ vA hr4i54 (v0 + 42) (vI hr4i54 v0 68 - 1) = 10; exact gr4i54_5)⟩
                          · skip
                            refine qk_some ?_
                            have o59 : vI hr2i50 v0 70 = vI h v0 70 := (by rw [gr2i50_2 v0 70 (by omega), ih38 v0 70, if_neg (fun z => absurd z.2 (by decide))])
                            have o60 := g_Mo_68 T kv0
                            exact ⟨Tr2i50, (zz_ade52561c1), (zz_f8cc4ad1dc o59 rl), (by show ∀ a k, ¬ (a = v0 ∧ (k = 6 ∨ k = 76 ∨ k = 69 ∨ k = 67 ∨ k = 68 ∨ k = 65 ∨ k = 66 ∨ k = 70 ∨ k = 72 ∨ k = 73 ∨ k = 74 ∨ k = 54 ∨ k = 55 ∨ k = 56 ∨ k = 57)) → vI hr2i50 a k = vI h a k; intro a k n0; rw [gr2i50_2 a k (by omega), ih38, if_neg (by omega)]), (by show ∀ a j, 0 ≤ j → ¬ (a = v0 + 43 ∨ a = v0 + 41 ∨ a = v0 + 39 ∨ a = v0 + 40 ∨ a = v0 + 42 ∨ a = v0 + 36 ∨ a = v0 + 37 ∨ a = v0 + 38) → vA hr2i50 a j = vA h a j; intro a j j0 n0; rw [gr2i50_3 a j j0 (by omega), ah38]), (by show vI hr2i50 v0 68 = 0 ∨ vA hr2i50 (v0 + 42) (vI hr2i50 v0 68 - 1) = 10; by_cases z : vI h v0 68 = 0; (left; rw [gr2i50_2 v0 68 (by omega), ih38 v0 68, if_neg (fun z => absurd z.2 (by decide))]; exact z); (right; have jz : 0 ≤ vI h v0 68 - 1 := (zz_e8fb340edd o60 z); rw [gr2i50_2 v0 68 (by omega), ih38 v0 68, if_neg (fun z => absurd z.2 (by decide))]; rw [gr2i50_3 (v0 + 42) (vI h v0 68 - 1) jz (by omega), ah38 (v0 + 42) (vI h v0 68 - 1)]; exact (AP).resolve_left z))⟩
                      · skip
                        unfold f_Mod_perform_403
                        refine r_Mo_o Th38 kv0 ?_
                        have o62 : vA h38 (v0 + 11) v1 = vA h (v0 + 11) v1 := (by rw [ah38 (v0 + 11) v1])
                        have o63 : vA h38 (v0 + 10) v1 = vA h (v0 + 10) v1 := (by rw [ah38 (v0 + 10) v1])
                        have o64 := g_Mo_e10 T kv0 v1
                        refine c_Mod_tellText (v0 := v0) (v1 := v1) Th38 kv0 wM s0 s1 (zz_b3ebcf533b o62 o63 t1 cc28 o64) hN ?_
                        intro yr2i61 hr2i61 Tr2i61 gr2i61_0 gr2i61_1 gr2i61_2 gr2i61_3
                        dsimp only
                        unfold f_Mod_perform_409
                        refine r_Mo_76 Tr2i61 kv0 ?_
                        intro x1i65 ex1i65
                        subst ex1i65
                        refine qk_if (fun cc66 => ?_) (fun cc66 => ?_)
                        · skip
                          refine r_Mo_o Tr2i61 kv0 ?_
                          have o67 := g_Mo_68 T kv0
                          have o68 : vI hr2i61 v0 70 = vI h v0 70 := (by rw [gr2i61_2 v0 70 (by omega), ih38 v0 70, if_neg (fun z => absurd z.2 (by decide))])
                          have o69 : vI hr2i61 v0 4 = vI h v0 4 := (by rw [gr2i61_2 v0 4 (by omega), ih38 v0 4, if_neg (fun z => absurd z.2 (by decide))])
                          refine c_Mod_endCycle (v0 := v0) (v1 := 0) Tr2i61 kv0 wM (by by_cases z : vI h v0 68 = 0; (left; rw [gr2i61_2 v0 68 (by omega), ih38 v0 68, if_neg (fun z => absurd z.2 (by decide))]; exact z); (right; have jz : 0 ≤ vI h v0 68 - 1 := (zz_e8fb340edd o67 z); rw [gr2i61_2 v0 68 (by omega), ih38 v0 68, if_neg (fun z => absurd z.2 (by decide))]; rw [gr2i61_3 (v0 + 42) (vI h v0 68 - 1) jz (by omega), ah38 (v0 + 42) (vI h v0 68 - 1)]; exact (AP).resolve_left z)) (zz_3b376fc0b5 o68 o69 rl) hN ?_
                          intro yr4i65 hr4i65 Tr4i65 gr4i65_0 gr4i65_1 gr4i65_2 gr4i65_3 gr4i65_4 gr4i65_5
                          dsimp only
                          refine qk_some ?_
                          exact ⟨Tr4i65, (zz_59b5a3dc6a gr4i65_0), (zz_6ae1d1c5db o68 gr4i65_2 o69), (by show ∀ a k, ¬ (a = v0 ∧ (k = 6 ∨ k = 76 ∨ k = 69 ∨ k = 67 ∨ k = 68 ∨ k = 65 ∨ k = 66 ∨ k = 70 ∨ k = 72 ∨ k = 73 ∨ k = 74 ∨ k = 54 ∨ k = 55 ∨ k = 56 ∨ k = 57)) → vI hr4i65 a k = vI h a k; intro a k n0; rw [gr4i65_3 a k (by omega), gr2i61_2 a k (by omega), ih38, if_neg (by omega)]), (by show ∀ a j, 0 ≤ j → ¬ (a = v0 + 43 ∨ a = v0 + 41 ∨ a = v0 + 39 ∨ a = v0 + 40 ∨ a = v0 + 42 ∨ a = v0 + 36 ∨ a = v0 + 37 ∨ a = v0 + 38) → vA hr4i65 a j = vA h a j; intro a j j0 n0; rw [gr4i65_4 a j j0 (by omega), gr2i61_3 a j j0 (by omega), ah38]), (by show vI hr4i65 v0 68 = 0 ∨ vA hr4i65 (v0 + 42) (vI hr4i65 v0 68 - 1) = 10; exact gr4i65_5)⟩
                        · skip
                          refine qk_some ?_
                          have o70 : vI hr2i61 v0 70 = vI h v0 70 := (by rw [gr2i61_2 v0 70 (by omega), ih38 v0 70, if_neg (fun z => absurd z.2 (by decide))])
                          have o71 := g_Mo_68 T kv0
                          exact ⟨Tr2i61, (zz_ade52561c1), (zz_f8cc4ad1dc o70 rl), (by show ∀ a k, ¬ (a = v0 ∧ (k = 6 ∨ k = 76 ∨ k = 69 ∨ k = 67 ∨ k = 68 ∨ k = 65 ∨ k = 66 ∨ k = 70 ∨ k = 72 ∨ k = 73 ∨ k = 74 ∨ k = 54 ∨ k = 55 ∨ k = 56 ∨ k = 57)) → vI hr2i61 a k = vI h a k; intro a k n0; rw [gr2i61_2 a k (by omega), ih38, if_neg (by omega)]), (by show ∀ a j, 0 ≤ j → ¬ (a = v0 + 43 ∨ a = v0 + 41 ∨ a = v0 + 39 ∨ a = v0 + 40 ∨ a = v0 + 42 ∨ a = v0 + 36 ∨ a = v0 + 37 ∨ a = v0 + 38) → vA hr2i61 a j = vA h a j; intro a j j0 n0; rw [gr2i61_3 a j j0 (by omega), ah38]), (by show vI hr2i61 v0 68 = 0 ∨ vA hr2i61 (v0 + 42) (vI hr2i61 v0 68 - 1) = 10; by_cases z : vI h v0 68 = 0; (left; rw [gr2i61_2 v0 68 (by omega), ih38 v0 68, if_neg (fun z => absurd z.2 (by decide))]; exact z); (right; have jz : 0 ≤ vI h v0 68 - 1 := (zz_e8fb340edd o71 z); rw [gr2i61_2 v0 68 (by omega), ih38 v0 68, if_neg (fun z => absurd z.2 (by decide))]; rw [gr2i61_3 (v0 + 42) (vI h v0 68 - 1) jz (by omega), ah38 (v0 + 42) (vI h v0 68 - 1)]; exact (AP).resolve_left z))⟩
                  · skip
                    refine qk_if (fun cc72 => ?_) (fun cc72 => ?_)
                    · skip
                      refine r_Mo_o T kv0 ?_
                      refine c_Mod_endCycle (v0 := v0) (v1 := 0) T kv0 wM (by exact AP) rl hN ?_
                      intro yr49 hr49 Tr49 gr49_0 gr49_1 gr49_2 gr49_3 gr49_4 gr49_5
                      dsimp only
                      refine qk_some ?_
                      exact ⟨Tr49, (zz_59b5a3dc6a gr49_0), gr49_2, (by show ∀ a k, ¬ (a = v0 ∧ (k = 6 ∨ k = 76 ∨ k = 69 ∨ k = 67 ∨ k = 68 ∨ k = 65 ∨ k = 66 ∨ k = 70 ∨ k = 72 ∨ k = 73 ∨ k = 74 ∨ k = 54 ∨ k = 55 ∨ k = 56 ∨ k = 57)) → vI hr49 a k = vI h a k; intro a k n0; rw [gr49_3 a k (by omega)]), (by show ∀ a j, 0 ≤ j → ¬ (a = v0 + 43 ∨ a = v0 + 41 ∨ a = v0 + 39 ∨ a = v0 + 40 ∨ a = v0 + 42 ∨ a = v0 + 36 ∨ a = v0 + 37 ∨ a = v0 + 38) → vA hr49 a j = vA h a j; intro a j j0 n0; rw [gr49_4 a j j0 (by omega)]), (by show vI hr49 v0 68 = 0 ∨ vA hr49 (v0 + 42) (vI hr49 v0 68 - 1) = 10; exact gr49_5)⟩
                    · skip
                      refine qk_if (fun cc73 => ?_) (fun cc73 => ?_)
                      · skip
                        refine r_Mo_9 T kv0 ?_
                        refine r_Mo_e4 T kv0 s0 s1 ?_
                        intro x52 ex52
                        subst ex52
                        refine r_Mo_o T kv0 ?_
                        refine c_Mod_holds (v0 := v0) (v1 := (vA h (v0 + 4) v1)) T kv0 wM hN ?_
                        intro yr54 hr54 Tr54 gr54_0 gr54_1
                        dsimp only
                        unfold f_Mod_perform_520
                        refine qk_some ?_
                        have o75 : vI hr54 v0 70 = vI h v0 70 := (by rw [gr54_0 v0 70 (by omega)])
                        have o76 := g_Mo_68 T kv0
                        exact ⟨Tr54, (zz_e57b4beb88 k0 k1), (zz_f8cc4ad1dc o75 rl), (by show ∀ a k, ¬ (a = v0 ∧ (k = 6 ∨ k = 76 ∨ k = 69 ∨ k = 67 ∨ k = 68 ∨ k = 65 ∨ k = 66 ∨ k = 70 ∨ k = 72 ∨ k = 73 ∨ k = 74 ∨ k = 54 ∨ k = 55 ∨ k = 56 ∨ k = 57)) → vI hr54 a k = vI h a k; intro a k n0; rw [gr54_0 a k (by omega)]), (by show ∀ a j, 0 ≤ j → ¬ (a = v0 + 43 ∨ a = v0 + 41 ∨ a = v0 + 39 ∨ a = v0 + 40 ∨ a = v0 + 42 ∨ a = v0 + 36 ∨ a = v0 + 37 ∨ a = v0 + 38) → vA hr54 a j = vA h a j; intro a j j0 n0; rw [gr54_1 a j j0 (by omega)]), (by show vI hr54 v0 68 = 0 ∨ vA hr54 (v0 + 42) (vI hr54 v0 68 - 1) = 10; by_cases z : vI h v0 68 = 0; (left; rw [gr54_0 v0 68 (by omega)]; exact z); (right; have jz : 0 ≤ vI h v0 68 - 1 := (zz_e8fb340edd o76 z); rw [gr54_0 v0 68 (by omega)]; rw [gr54_1 (v0 + 42) (vI h v0 68 - 1) jz (by omega)]; exact (AP).resolve_left z))⟩
                      · skip
                        refine qk_if (fun cc77 => ?_) (fun cc77 => ?_)
                        · skip
                          refine r_Mo_9 T kv0 ?_
                          refine r_Mo_e4 T kv0 s0 s1 ?_
                          intro x57 ex57
                          subst ex57
                          refine r_Mo_o T kv0 ?_
                          refine c_Mod_holds (v0 := v0) (v1 := (vA h (v0 + 4) v1)) T kv0 wM hN ?_
                          intro yr59 hr59 Tr59 gr59_0 gr59_1
                          dsimp only
                          unfold f_Mod_perform_520
                          refine qk_some ?_
                          have o79 : vI hr59 v0 70 = vI h v0 70 := (by rw [gr59_0 v0 70 (by omega)])
                          have o80 := g_Mo_68 T kv0
                          exact ⟨Tr59, (zz_e57b4beb88 k0 k1), (zz_f8cc4ad1dc o79 rl), (by show ∀ a k, ¬ (a = v0 ∧ (k = 6 ∨ k = 76 ∨ k = 69 ∨ k = 67 ∨ k = 68 ∨ k = 65 ∨ k = 66 ∨ k = 70 ∨ k = 72 ∨ k = 73 ∨ k = 74 ∨ k = 54 ∨ k = 55 ∨ k = 56 ∨ k = 57)) → vI hr59 a k = vI h a k; intro a k n0; rw [gr59_0 a k (by omega)]), (by show ∀ a j, 0 ≤ j → ¬ (a = v0 + 43 ∨ a = v0 + 41 ∨ a = v0 + 39 ∨ a = v0 + 40 ∨ a = v0 + 42 ∨ a = v0 + 36 ∨ a = v0 + 37 ∨ a = v0 + 38) → vA hr59 a j = vA h a j; intro a j j0 n0; rw [gr59_1 a j j0 (by omega)]), (by show vI hr59 v0 68 = 0 ∨ vA hr59 (v0 + 42) (vI hr59 v0 68 - 1) = 10; by_cases z : vI h v0 68 = 0; (left; rw [gr59_0 v0 68 (by omega)]; exact z); (right; have jz : 0 ≤ vI h v0 68 - 1 := (zz_e8fb340edd o80 z); rw [gr59_0 v0 68 (by omega)]; rw [gr59_1 (v0 + 42) (vI h v0 68 - 1) jz (by omega)]; exact (AP).resolve_left z))⟩
                        · skip
                          refine qk_if (fun cc81 => ?_) (fun cc81 => ?_)
                          · skip
                            refine r_Mo_o T kv0 ?_
                            have o82 := g_Mo_e10 T kv0 v1
                            refine c_Mod_tellText (v0 := v0) (v1 := v1) T kv0 wM s0 s1 (zz_c9e71edd1e t1 cc81 o82) hN ?_
                            intro yr62 hr62 Tr62 gr62_0 gr62_1 gr62_2 gr62_3
                            dsimp only
                            unfold f_Mod_perform_520
                            refine qk_some ?_
                            have o84 : vI hr62 v0 70 = vI h v0 70 := (by rw [gr62_2 v0 70 (by omega)])
                            have o85 := g_Mo_68 T kv0
                            exact ⟨Tr62, (zz_e57b4beb88 k0 k1), (zz_f8cc4ad1dc o84 rl), (by show ∀ a k, ¬ (a = v0 ∧ (k = 6 ∨ k = 76 ∨ k = 69 ∨ k = 67 ∨ k = 68 ∨ k = 65 ∨ k = 66 ∨ k = 70 ∨ k = 72 ∨ k = 73 ∨ k = 74 ∨ k = 54 ∨ k = 55 ∨ k = 56 ∨ k = 57)) → vI hr62 a k = vI h a k; intro a k n0; rw [gr62_2 a k (by omega)]), (by show ∀ a j, 0 ≤ j → ¬ (a = v0 + 43 ∨ a = v0 + 41 ∨ a = v0 + 39 ∨ a = v0 + 40 ∨ a = v0 + 42 ∨ a = v0 + 36 ∨ a = v0 + 37 ∨ a = v0 + 38) → vA hr62 a j = vA h a j; intro a j j0 n0; rw [gr62_3 a j j0 (by omega)]), (by show vI hr62 v0 68 = 0 ∨ vA hr62 (v0 + 42) (vI hr62 v0 68 - 1) = 10; by_cases z : vI h v0 68 = 0; (left; rw [gr62_2 v0 68 (by omega)]; exact z); (right; have jz : 0 ≤ vI h v0 68 - 1 := (zz_e8fb340edd o85 z); rw [gr62_2 v0 68 (by omega)]; rw [gr62_3 (v0 + 42) (vI h v0 68 - 1) jz (by omega)]; exact (AP).resolve_left z))⟩
                          · skip
                            refine qk_if (fun cc86 => ?_) (fun cc86 => ?_)
                            · skip
                              refine r_Mo_o T kv0 ?_
                              refine c_Mod_nextLine (v0 := v0) (v1 := v1) (v2 := v2) T kv0 wM s0 s1 k0 k1 (by exact AP) rl hN ?_
                              intro yr65 hr65 Tr65 gr65_0 gr65_1 gr65_2 gr65_3 gr65_4
                              dsimp only
                              refine qk_some ?_
                              exact ⟨Tr65, (zz_b94f94fe38 gr65_0), gr65_1, (by show ∀ a k, ¬ (a = v0 ∧ (k = 6 ∨ k = 76 ∨ k = 69 ∨ k = 67 ∨ k = 68 ∨ k = 65 ∨ k = 66 ∨ k = 70 ∨ k = 72 ∨ k = 73 ∨ k = 74 ∨ k = 54 ∨ k = 55 ∨ k = 56 ∨ k = 57)) → vI hr65 a k = vI h a k; intro a k n0; rw [gr65_2 a k (by omega)]), (by show ∀ a j, 0 ≤ j → ¬ (a = v0 + 43 ∨ a = v0 + 41 ∨ a = v0 + 39 ∨ a = v0 + 40 ∨ a = v0 + 42 ∨ a = v0 + 36 ∨ a = v0 + 37 ∨ a = v0 + 38) → vA hr65 a j = vA h a j; intro a j j0 n0; rw [gr65_3 a j j0 (by omega)]), (by show vI hr65 v0 68 = 0 ∨ vA hr65 (v0 + 42) (vI hr65 v0 68 - 1) = 10; exact gr65_4)⟩
                            · skip
                              refine qk_if (fun cc87 => ?_) (fun cc87 => ?_)
                              · skip
                                refine r_Mo_o T kv0 ?_
                                refine c_Mod_tellSpace (v0 := v0) (v1 := 0) T kv0 wM hN ?_
                                intro yr68 hr68 Tr68 gr68_0 gr68_1 gr68_2 gr68_3
                                dsimp only
                                unfold f_Mod_perform_520
                                refine qk_some ?_
                                have o89 : vI hr68 v0 70 = vI h v0 70 := (by rw [gr68_2 v0 70 (by omega)])
                                have o90 := g_Mo_68 T kv0
                                exact ⟨Tr68, (zz_e57b4beb88 k0 k1), (zz_f8cc4ad1dc o89 rl), (by show ∀ a k, ¬ (a = v0 ∧ (k = 6 ∨ k = 76 ∨ k = 69 ∨ k = 67 ∨ k = 68 ∨ k = 65 ∨ k = 66 ∨ k = 70 ∨ k = 72 ∨ k = 73 ∨ k = 74 ∨ k = 54 ∨ k = 55 ∨ k = 56 ∨ k = 57)) → vI hr68 a k = vI h a k; intro a k n0; rw [gr68_2 a k (by omega)]), (by show ∀ a j, 0 ≤ j → ¬ (a = v0 + 43 ∨ a = v0 + 41 ∨ a = v0 + 39 ∨ a = v0 + 40 ∨ a = v0 + 42 ∨ a = v0 + 36 ∨ a = v0 + 37 ∨ a = v0 + 38) → vA hr68 a j = vA h a j; intro a j j0 n0; rw [gr68_3 a j j0 (by omega)]), (by show vI hr68 v0 68 = 0 ∨ vA hr68 (v0 + 42) (vI hr68 v0 68 - 1) = 10; by_cases z : vI h v0 68 = 0; (left; rw [gr68_2 v0 68 (by omega)]; exact z); (right; have jz : 0 ≤ vI h v0 68 - 1 := (zz_e8fb340edd o90 z); rw [gr68_2 v0 68 (by omega)]; rw [gr68_3 (v0 + 42) (vI h v0 68 - 1) jz (by omega)]; exact (AP).resolve_left z))⟩
                              · skip
                                refine qk_if (fun cc91 => ?_) (fun cc91 => ?_)
                                · skip
                                  refine r_Mo_o T kv0 ?_
                                  refine c_Mod_tellSpace (v0 := v0) (v1 := 0) T kv0 wM hN ?_
                                  intro yr71 hr71 Tr71 gr71_0 gr71_1 gr71_2 gr71_3
                                  dsimp only
                                  refine qk_if (fun cc92 => ?_) (fun cc92 => ?_)
                                  · skip
                                    unfold f_Mod_perform_490
                                    refine w_Mo_76 Tr71 kv0 (wM _ (by omega) (by omega)) ?_
                                    intro h1i93 Th1i93 ih1i93 ah1i93
                                    refine qk_if (fun _ => ?_) (fun cc94 => absurd (by decide) cc94)
                                    refine qk_some ?_
                                    have o95 : vI h1i93 v0 70 = vI h v0 70 := (by rw [ih1i93 v0 70, if_neg (fun z => absurd z.2 (by decide)), gr71_2 v0 70 (by omega)])
                                    have o96 := g_Mo_68 T kv0
                                    exact ⟨Th1i93, (zz_ade52561c1), (zz_f8cc4ad1dc o95 rl), (by show ∀ a k, ¬ (a = v0 ∧ (k = 6 ∨ k = 76 ∨ k = 69 ∨ k = 67 ∨ k = 68 ∨ k = 65 ∨ k = 66 ∨ k = 70 ∨ k = 72 ∨ k = 73 ∨ k = 74 ∨ k = 54 ∨ k = 55 ∨ k = 56 ∨ k = 57)) → vI h1i93 a k = vI h a k; intro a k n0; rw [ih1i93, if_neg (by omega), gr71_2 a k (by omega)]), (by show ∀ a j, 0 ≤ j → ¬ (a = v0 + 43 ∨ a = v0 + 41 ∨ a = v0 + 39 ∨ a = v0 + 40 ∨ a = v0 + 42 ∨ a = v0 + 36 ∨ a = v0 + 37 ∨ a = v0 + 38) → vA h1i93 a j = vA h a j; intro a j j0 n0; rw [ah1i93, gr71_3 a j j0 (by omega)]), (by show vI h1i93 v0 68 = 0 ∨ vA h1i93 (v0 + 42) (vI h1i93 v0 68 - 1) = 10; by_cases z : vI h v0 68 = 0; (left; rw [ih1i93 v0 68, if_neg (fun z => absurd z.2 (by decide)), gr71_2 v0 68 (by omega)]; exact z); (right; have jz : 0 ≤ vI h v0 68 - 1 := (zz_e8fb340edd o96 z); rw [ih1i93 v0 68, if_neg (fun z => absurd z.2 (by decide)), gr71_2 v0 68 (by omega)]; rw [ah1i93 (v0 + 42) (vI h v0 68 - 1), gr71_3 (v0 + 42) (vI h v0 68 - 1) jz (by omega)]; exact (AP).resolve_left z))⟩
                                  · skip
                                    refine r_Mo_o Tr71 kv0 ?_
                                    have o97 := g_Mo_68 T kv0
                                    refine c_Mod_tellAppended (v0 := v0) Tr71 kv0 wM (by by_cases z : vI h v0 68 = 0; (left; rw [gr71_2 v0 68 (by omega)]; exact z); (right; have jz : 0 ≤ vI h v0 68 - 1 := (zz_e8fb340edd o97 z); rw [gr71_2 v0 68 (by omega)]; rw [gr71_3 (v0 + 42) (vI h v0 68 - 1) jz (by omega)]; exact (AP).resolve_left z)) hN ?_
                                    intro yr74 hr74 Tr74 gr74_0 gr74_1 gr74_2 gr74_3 gr74_4
                                    dsimp only
                                    refine qk_if (fun cc98 => ?_) (fun cc98 => ?_)
                                    · skip
                                      unfold f_Mod_perform_490
                                      refine w_Mo_76 Tr74 kv0 (wM _ (by omega) (by omega)) ?_
                                      intro h1i99 Th1i99 ih1i99 ah1i99
                                      refine qk_if (fun _ => ?_) (fun cc100 => absurd (by decide) cc100)
                                      refine qk_some ?_
                                      have o101 : vI h1i99 v0 70 = vI h v0 70 := (by rw [ih1i99 v0 70, if_neg (fun z => absurd z.2 (by decide)), gr74_2 v0 70 (by omega), gr71_2 v0 70 (by omega)])
                                      exact ⟨Th1i99, (zz_ade52561c1), (zz_f8cc4ad1dc o101 rl), (by show ∀ a k, ¬ (a = v0 ∧ (k = 6 ∨ k = 76 ∨ k = 69 ∨ k = 67 ∨ k = 68 ∨ k = 65 ∨ k = 66 ∨ k = 70 ∨ k = 72 ∨ k = 73 ∨ k = 74 ∨ k = 54 ∨ k = 55 ∨ k = 56 ∨ k = 57)) → vI h1i99 a k = vI h a k; intro a k n0; rw [ih1i99, if_neg (by omega), gr74_2 a k (by omega), gr71_2 a k (by omega)]), (by show ∀ a j, 0 ≤ j → ¬ (a = v0 + 43 ∨ a = v0 + 41 ∨ a = v0 + 39 ∨ a = v0 + 40 ∨ a = v0 + 42 ∨ a = v0 + 36 ∨ a = v0 + 37 ∨ a = v0 + 38) → vA h1i99 a j = vA h a j; intro a j j0 n0; rw [ah1i99, gr74_3 a j j0 (by omega), gr71_3 a j j0 (by omega)]), (by show vI h1i99 v0 68 = 0 ∨ vA h1i99 (v0 + 42) (vI h1i99 v0 68 - 1) = 10; left; rw [ih1i99 v0 68, if_neg (fun z => absurd z.2 (by decide)), gr74_4])⟩
                                    · skip
                                      unfold f_Mod_perform_490
                                      refine w_Mo_76 Tr74 kv0 (wM _ (by omega) (by omega)) ?_
                                      intro h1i102 Th1i102 ih1i102 ah1i102
                                      refine qk_if (fun cc103 => absurd cc103 (by decide)) (fun _ => ?_)
                                      refine qk_some ?_
                                      have o104 : vI h1i102 v0 70 = vI h v0 70 := (by rw [ih1i102 v0 70, if_neg (fun z => absurd z.2 (by decide)), gr74_2 v0 70 (by omega), gr71_2 v0 70 (by omega)])
                                      exact ⟨Th1i102, (zz_ade52561c1), (zz_f8cc4ad1dc o104 rl), (by show ∀ a k, ¬ (a = v0 ∧ (k = 6 ∨ k = 76 ∨ k = 69 ∨ k = 67 ∨ k = 68 ∨ k = 65 ∨ k = 66 ∨ k = 70 ∨ k = 72 ∨ k = 73 ∨ k = 74 ∨ k = 54 ∨ k = 55 ∨ k = 56 ∨ k = 57)) → vI h1i102 a k = vI h a k; intro a k n0; rw [ih1i102, if_neg (by omega), gr74_2 a k (by omega), gr71_2 a k (by omega)]), (by show ∀ a j, 0 ≤ j → ¬ (a = v0 + 43 ∨ a = v0 + 41 ∨ a = v0 + 39 ∨ a = v0 + 40 ∨ a = v0 + 42 ∨ a = v0 + 36 ∨ a = v0 + 37 ∨ a = v0 + 38) → vA h1i102 a j = vA h a j; intro a j j0 n0; rw [ah1i102, gr74_3 a j j0 (by omega), gr71_3 a j j0 (by omega)]), (by show vI h1i102 v0 68 = 0 ∨ vA h1i102 (v0 + 42) (vI h1i102 v0 68 - 1) = 10; left; rw [ih1i102 v0 68, if_neg (fun z => absurd z.2 (by decide)), gr74_4])⟩
                                · skip
                                  refine qk_if (fun cc105 => ?_) (fun cc105 => ?_)
                                  · skip
                                    refine r_Mo_o T kv0 ?_
                                    have o106 := g_Mo_e9 T kv0 v1
                                    refine c_Mod_substituted (v0 := v0) (v1 := v1) T kv0 wM s0 s1 (by exact P3 cc105) (zz_613598ed50 o106) hN ?_
                                    intro yr78 hr78 Tr78 gr78_0 gr78_1
                                    dsimp only
                                    unfold f_Mod_perform_520
                                    refine qk_some ?_
                                    have o108 : vI hr78 v0 70 = vI h v0 70 := (by rw [gr78_0 v0 70 (by omega)])
                                    have o109 := g_Mo_68 T kv0
                                    exact ⟨Tr78, (zz_e57b4beb88 k0 k1), (zz_f8cc4ad1dc o108 rl), (by show ∀ a k, ¬ (a = v0 ∧ (k = 6 ∨ k = 76 ∨ k = 69 ∨ k = 67 ∨ k = 68 ∨ k = 65 ∨ k = 66 ∨ k = 70 ∨ k = 72 ∨ k = 73 ∨ k = 74 ∨ k = 54 ∨ k = 55 ∨ k = 56 ∨ k = 57)) → vI hr78 a k = vI h a k; intro a k n0; rw [gr78_0 a k (by omega)]), (by show ∀ a j, 0 ≤ j → ¬ (a = v0 + 43 ∨ a = v0 + 41 ∨ a = v0 + 39 ∨ a = v0 + 40 ∨ a = v0 + 42 ∨ a = v0 + 36 ∨ a = v0 + 37 ∨ a = v0 + 38) → vA hr78 a j = vA h a j; intro a j j0 n0; rw [gr78_1 a j j0 (by omega)]), (by show vI hr78 v0 68 = 0 ∨ vA hr78 (v0 + 42) (vI hr78 v0 68 - 1) = 10; by_cases z : vI h v0 68 = 0; (left; rw [gr78_0 v0 68 (by omega)]; exact z); (right; have jz : 0 ≤ vI h v0 68 - 1 := (zz_e8fb340edd o109 z); rw [gr78_0 v0 68 (by omega)]; rw [gr78_1 (v0 + 42) (vI h v0 68 - 1) jz (by omega)]; exact (AP).resolve_left z))⟩
                                  · skip
                                    refine qk_if (fun cc110 => ?_) (fun cc110 => ?_)
                                    · skip
                                      refine r_Mo_74 T kv0 ?_
                                      intro x80 ex80
                                      subst ex80
                                      refine qk_if (fun cc111 => ?_) (fun cc111 => ?_)
                                      · skip
                                        refine qk_some ?_
                                        exact ⟨T, (zz_e57b4beb88 k0 k1), (zz_bb25b93de8 rl), (by show ∀ a k, ¬ (a = v0 ∧ (k = 6 ∨ k = 76 ∨ k = 69 ∨ k = 67 ∨ k = 68 ∨ k = 65 ∨ k = 66 ∨ k = 70 ∨ k = 72 ∨ k = 73 ∨ k = 74 ∨ k = 54 ∨ k = 55 ∨ k = 56 ∨ k = 57)) → vI h a k = vI h a k; intro a k n0; rfl), (by show ∀ a j, 0 ≤ j → ¬ (a = v0 + 43 ∨ a = v0 + 41 ∨ a = v0 + 39 ∨ a = v0 + 40 ∨ a = v0 + 42 ∨ a = v0 + 36 ∨ a = v0 + 37 ∨ a = v0 + 38) → vA h a j = vA h a j; intro a j j0 n0; rfl), (by show vI h v0 68 = 0 ∨ vA h (v0 + 42) (vI h v0 68 - 1) = 10; exact AP)⟩
                                      · skip
                                        refine w_Mo_74 T kv0 (wM _ (by omega) (by omega)) ?_
                                        intro h82 Th82 ih82 ah82
                                        refine r_Mo_18 Th82 kv0 ?_
                                        refine r_Mo_e13 Th82 kv0 s0 s1 ?_
                                        intro x84 ex84 lx84 ux84
                                        have sx84 : (vA h (v0 + 13) v1) = x84 := (ex84.trans (by rw [ah82 (v0 + 13) v1])).symm
                                        subst sx84
                                        refine qk_if (fun cc112 => ?_) (fun cc112 => ?_)
                                        · skip
                                          refine r_Mo_24 Th82 kv0 ?_
                                          refine r_Mo_7 Th82 kv0 ?_
                                          intro x89 ex89 lx89 ux89
                                          have sx89 : (vI h v0 7) = x89 := (ex89.trans (by rw [ih82 v0 7, if_neg (fun z => absurd z.2 (by decide))])).symm
                                          subst sx89
                                          have o113 := g_Mo_7 T kv0
                                          refine r_Mo_e19 Th82 kv0 lx89 (zz_e1f2e57bfa o113) ?_
                                          intro x90 ex90 lx90 ux90
                                          have sx90 : (vA h (v0 + 19) (vI h v0 7)) = x90 := (ex90.trans (by rw [ah82 (v0 + 19) (vI h v0 7)])).symm
                                          subst sx90
                                          refine qk_some ?_
                                          have o114 := g_Mo_e19 T kv0 (vI h v0 7)
                                          have o115 : vI h82 v0 70 = vI h v0 70 := (by rw [ih82 v0 70, if_neg (fun z => absurd z.2 (by decide))])
                                          have o116 := g_Mo_68 T kv0
                                          exact ⟨Th82, (zz_f0ddbf51de o114), (zz_f8cc4ad1dc o115 rl), (by show ∀ a k, ¬ (a = v0 ∧ (k = 6 ∨ k = 76 ∨ k = 69 ∨ k = 67 ∨ k = 68 ∨ k = 65 ∨ k = 66 ∨ k = 70 ∨ k = 72 ∨ k = 73 ∨ k = 74 ∨ k = 54 ∨ k = 55 ∨ k = 56 ∨ k = 57)) → vI h82 a k = vI h a k; intro a k n0; rw [ih82, if_neg (by omega)]), (by show ∀ a j, 0 ≤ j → ¬ (a = v0 + 43 ∨ a = v0 + 41 ∨ a = v0 + 39 ∨ a = v0 + 40 ∨ a = v0 + 42 ∨ a = v0 + 36 ∨ a = v0 + 37 ∨ a = v0 + 38) → vA h82 a j = vA h a j; intro a j j0 n0; rw [ah82]), (by show vI h82 v0 68 = 0 ∨ vA h82 (v0 + 42) (vI h82 v0 68 - 1) = 10; by_cases z : vI h v0 68 = 0; (left; rw [ih82 v0 68, if_neg (fun z => absurd z.2 (by decide))]; exact z); (right; have jz : 0 ≤ vI h v0 68 - 1 := (zz_e8fb340edd o116 z); rw [ih82 v0 68, if_neg (fun z => absurd z.2 (by decide))]; rw [ah82 (v0 + 42) (vI h v0 68 - 1)]; exact (AP).resolve_left z))⟩
                                        · skip
                                          refine r_Mo_18 Th82 kv0 ?_
                                          refine r_Mo_e13 Th82 kv0 s0 s1 ?_
                                          intro x87 ex87 lx87 ux87
                                          have sx87 : (vA h (v0 + 13) v1) = x87 := (ex87.trans (by rw [ah82 (v0 + 13) v1])).symm
                                          subst sx87
                                          refine qk_some ?_
                                          have o117 := g_Mo_e13 T kv0 v1
                                          have o118 : vI h82 v0 70 = vI h v0 70 := (by rw [ih82 v0 70, if_neg (fun z => absurd z.2 (by decide))])
                                          have o119 := g_Mo_68 T kv0
                                          exact ⟨Th82, (zz_ad498810fd o117 cc112), (zz_f8cc4ad1dc o118 rl), (by show ∀ a k, ¬ (a = v0 ∧ (k = 6 ∨ k = 76 ∨ k = 69 ∨ k = 67 ∨ k = 68 ∨ k = 65 ∨ k = 66 ∨ k = 70 ∨ k = 72 ∨ k = 73 ∨ k = 74 ∨ k = 54 ∨ k = 55 ∨ k = 56 ∨ k = 57)) → vI h82 a k = vI h a k; intro a k n0; rw [ih82, if_neg (by omega)]), (by show ∀ a j, 0 ≤ j → ¬ (a = v0 + 43 ∨ a = v0 + 41 ∨ a = v0 + 39 ∨ a = v0 + 40 ∨ a = v0 + 42 ∨ a = v0 + 36 ∨ a = v0 + 37 ∨ a = v0 + 38) → vA h82 a j = vA h a j; intro a j j0 n0; rw [ah82]), (by show vI h82 v0 68 = 0 ∨ vA h82 (v0 + 42) (vI h82 v0 68 - 1) = 10; by_cases z : vI h v0 68 = 0; (left; rw [ih82 v0 68, if_neg (fun z => absurd z.2 (by decide))]; exact z); (right; have jz : 0 ≤ vI h v0 68 - 1 := (zz_e8fb340edd o119 z); rw [ih82 v0 68, if_neg (fun z => absurd z.2 (by decide))]; rw [ah82 (v0 + 42) (vI h v0 68 - 1)]; exact (AP).resolve_left z))⟩
                                    · skip
                                      refine qk_if (fun cc120 => ?_) (fun cc120 => ?_)
                                      · skip
                                        refine r_Mo_9 T kv0 ?_
                                        refine r_Mo_e4 T kv0 s0 s1 ?_
                                        intro x93 ex93
                                        subst ex93
                                        refine r_Mo_o T kv0 ?_
                                        refine c_Mod_holds (v0 := v0) (v1 := (vA h (v0 + 4) v1)) T kv0 wM hN ?_
                                        intro yr95 hr95 Tr95 gr95_0 gr95_1
                                        dsimp only
                                        unfold f_Mod_perform_520
                                        refine qk_some ?_
                                        have o122 : vI hr95 v0 70 = vI h v0 70 := (by rw [gr95_0 v0 70 (by omega)])
                                        have o123 := g_Mo_68 T kv0
                                        exact ⟨Tr95, (zz_e57b4beb88 k0 k1), (zz_f8cc4ad1dc o122 rl), (by show ∀ a k, ¬ (a = v0 ∧ (k = 6 ∨ k = 76 ∨ k = 69 ∨ k = 67 ∨ k = 68 ∨ k = 65 ∨ k = 66 ∨ k = 70 ∨ k = 72 ∨ k = 73 ∨ k = 74 ∨ k = 54 ∨ k = 55 ∨ k = 56 ∨ k = 57)) → vI hr95 a k = vI h a k; intro a k n0; rw [gr95_0 a k (by omega)]), (by show ∀ a j, 0 ≤ j → ¬ (a = v0 + 43 ∨ a = v0 + 41 ∨ a = v0 + 39 ∨ a = v0 + 40 ∨ a = v0 + 42 ∨ a = v0 + 36 ∨ a = v0 + 37 ∨ a = v0 + 38) → vA hr95 a j = vA h a j; intro a j j0 n0; rw [gr95_1 a j j0 (by omega)]), (by show vI hr95 v0 68 = 0 ∨ vA hr95 (v0 + 42) (vI hr95 v0 68 - 1) = 10; by_cases z : vI h v0 68 = 0; (left; rw [gr95_0 v0 68 (by omega)]; exact z); (right; have jz : 0 ≤ vI h v0 68 - 1 := (zz_e8fb340edd o123 z); rw [gr95_0 v0 68 (by omega)]; rw [gr95_1 (v0 + 42) (vI h v0 68 - 1) jz (by omega)]; exact (AP).resolve_left z))⟩
                                      · skip
                                        refine qk_if (fun cc124 => ?_) (fun cc124 => ?_)
                                        · skip
                                          refine r_Mo_o T kv0 ?_
                                          have o125 := g_Mo_e12 T kv0 v1
                                          have o126 := g_Mo_e10 T kv0 v1
                                          refine c_Mod_exchanged (v0 := v0) (v1 := v1) T kv0 wM s0 s1 (zz_f637ee8a05 y1 cc124 o125 o126) (zz_be767933fd y1 cc124 o125 o126) hN ?_
                                          intro r98 Tr98 gr98_0 gr98_1
                                          unfold f_Mod_perform_520
                                          refine qk_some ?_
                                          have o128 : vI r98 v0 70 = vI h v0 70 := (by rw [gr98_0 v0 70])
                                          have o129 := g_Mo_68 T kv0
                                          exact ⟨Tr98, (zz_e57b4beb88 k0 k1), (zz_f8cc4ad1dc o128 rl), (by show ∀ a k, ¬ (a = v0 ∧ (k = 6 ∨ k = 76 ∨ k = 69 ∨ k = 67 ∨ k = 68 ∨ k = 65 ∨ k = 66 ∨ k = 70 ∨ k = 72 ∨ k = 73 ∨ k = 74 ∨ k = 54 ∨ k = 55 ∨ k = 56 ∨ k = 57)) → vI r98 a k = vI h a k; intro a k n0; rw [gr98_0 a k]), (by show ∀ a j, 0 ≤ j → ¬ (a = v0 + 43 ∨ a = v0 + 41 ∨ a = v0 + 39 ∨ a = v0 + 40 ∨ a = v0 + 42 ∨ a = v0 + 36 ∨ a = v0 + 37 ∨ a = v0 + 38) → vA r98 a j = vA h a j; intro a j j0 n0; rw [gr98_1 a j j0 (by omega)]), (by show vI r98 v0 68 = 0 ∨ vA r98 (v0 + 42) (vI r98 v0 68 - 1) = 10; by_cases z : vI h v0 68 = 0; (left; rw [gr98_0 v0 68]; exact z); (right; have jz : 0 ≤ vI h v0 68 - 1 := (zz_e8fb340edd o129 z); rw [gr98_0 v0 68]; rw [gr98_1 (v0 + 42) (vI h v0 68 - 1) jz (by omega)]; exact (AP).resolve_left z))⟩
                                        · skip
                                          unfold f_Mod_perform_520
                                          refine qk_some ?_
                                          exact ⟨T, (zz_e57b4beb88 k0 k1), (zz_bb25b93de8 rl), (by show ∀ a k, ¬ (a = v0 ∧ (k = 6 ∨ k = 76 ∨ k = 69 ∨ k = 67 ∨ k = 68 ∨ k = 65 ∨ k = 66 ∨ k = 70 ∨ k = 72 ∨ k = 73 ∨ k = 74 ∨ k = 54 ∨ k = 55 ∨ k = 56 ∨ k = 57)) → vI h a k = vI h a k; intro a k n0; rfl), (by show ∀ a j, 0 ≤ j → ¬ (a = v0 + 43 ∨ a = v0 + 41 ∨ a = v0 + 39 ∨ a = v0 + 40 ∨ a = v0 + 42 ∨ a = v0 + 36 ∨ a = v0 + 37 ∨ a = v0 + 38) → vA h a j = vA h a j; intro a j j0 n0; rfl), (by show vI h v0 68 = 0 ∨ vA h (v0 + 42) (vI h v0 68 - 1) = 10; exact AP)⟩
theorem c_Mod_perform {L : q_L} {W : Nat → Prop} {h0 : z_H} {π : Nat → Nat → Option Nat} {N : Nat} {h : z_H} {v0 : Nat} {v1 : Int32} {v2 : Int32} {β : Type} {f : Int32 × z_H → Option β} {Q : β → Prop} (T : q_U L W h0 π h) (kv0 : q_M L π v0) (wM : ∀ a, v0 ≤ a → a < v0 + 46 → W a) (s0 : 0 ≤ v1) (s1 : v1 < 80) (k0 : 0 ≤ v2) (k1 : v2 ≤ 40) (P3 : vA h (v0 + 4) v1 = 115 → q_PM h v0 (vA h (v0 + 9) v1)) (t1 : vA h (v0 + 4) v1 = 97 ∨ vA h (v0 + 4) v1 = 99 ∨ vA h (v0 + 4) v1 = 105 → vA h (v0 + 10) v1 ≤ vA h (v0 + 11) v1 ∧ vA h (v0 + 11) v1 ≤ vA h (v0 + 10) v1 + 300) (y1 : vA h (v0 + 4) v1 = 121 → vA h (v0 + 10) v1 ≤ vA h (v0 + 12) v1 ∧ vA h (v0 + 11) v1 = vA h (v0 + 12) v1 + (vA h (v0 + 12) v1 - vA h (v0 + 10) v1)) (AP : vI h v0 68 = 0 ∨ vA h (v0 + 42) (vI h v0 68 - 1) = 10) (rl : vI h v0 70 ≤ vI h v0 4) (hN : 100000 ≤ N) (H : ∀ y h', q_U L W h0 π h' → (0 ≤ y ∧ y ≤ 41) → (vI h v0 70 ≤ vI h' v0 70 ∧ vI h' v0 70 ≤ vI h v0 4) → (∀ a k, ¬ (a = v0 ∧ (k = 6 ∨ k = 76 ∨ k = 69 ∨ k = 67 ∨ k = 68 ∨ k = 65 ∨ k = 66 ∨ k = 70 ∨ k = 72 ∨ k = 73 ∨ k = 74 ∨ k = 54 ∨ k = 55 ∨ k = 56 ∨ k = 57)) → vI h' a k = vI h a k) → (∀ a j, 0 ≤ j → ¬ (a = v0 + 43 ∨ a = v0 + 41 ∨ a = v0 + 39 ∨ a = v0 + 40 ∨ a = v0 + 42 ∨ a = v0 + 36 ∨ a = v0 + 37 ∨ a = v0 + 38) → vA h' a j = vA h a j) → (vI h' v0 68 = 0 ∨ vA h' (v0 + 42) (vI h' v0 68 - 1) = 10) → qk (f (y, h')) Q) : qk (z_b (f_Mod_perform N v0 v1 v2 h) f) Q := by
  refine qk_b (p_Mod_perform T kv0 wM s0 s1 k0 k1 P3 t1 y1 AP rl hN) ?_
  rintro ⟨y, hz⟩ ⟨Tz, g0, g1, g2, g3, g4⟩
  exact H y hz Tz g0 g1 g2 g3 g4
