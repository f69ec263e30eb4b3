theorem zz_cc46906757 {a1 a2 a3 a4 : Int32} (h0 : a1 = (if a2 = 1 then a3 else -1)) (h1 : 0 ≤ a1) : (a2 = 0) → (a4 = 1) := by split at h0 <;> (simp only [Int32.le_iff_toInt_le, Int32.lt_iff_toInt_lt, ← Int32.toInt_inj, ne_eq] at *; have l0 : (1 : Int32).toInt = 1 := (by decide); have l1 : (-1 : Int32).toInt = -1 := (by decide); have l2 : (0 : Int32).toInt = 0 := (by decide); omega)
theorem zz_2d440dfe26 {a1 a2 a3 : Int32} (h0 : a1 = 2) : (a2 ≠ 0) → ((a3 = 0) → (a1 = 2)) := by simp only [Int32.le_iff_toInt_le, Int32.lt_iff_toInt_lt, ← Int32.toInt_inj, ne_eq] at *; have l0 : (2 : Int32).toInt = 2 := (by decide); have l1 : (0 : Int32).toInt = 0 := (by decide); omega
theorem zz_9b348c1f27 {a1 a2 a3 a4 a5 : Int32} (h0 : a1 = 0) (h1 : (0 ≤ a2) ∧ (a2 ≤ 24)) (h2 : (0 ≤ a3) ∧ (a3 ≤ 8)) : (a4 ≠ 0) → ((a1 ≠ 0) → ((24 < a2 + a3) → (a5 = 2))) := by simp only [Int32.le_iff_toInt_le, Int32.lt_iff_toInt_lt, ← Int32.toInt_inj, ne_eq] at *; have b0 := Int32.le_toInt a2; have c0 := Int32.toInt_lt a2; have b1 := Int32.le_toInt a3; have c1 := Int32.toInt_lt a3; have l0 : (0 : Int32).toInt = 0 := (by decide); have l1 : (24 : Int32).toInt = 24 := (by decide); have l2 : (8 : Int32).toInt = 8 := (by decide); have l3 : (2 : Int32).toInt = 2 := (by decide); have s0 : (a2 + a3).toInt = a2.toInt + a3.toInt := q_tA rfl (by omega) (by omega); omega
theorem zz_d853873519 {a1 a2 a3 a4 a5 a6 a7 : Int32} (h0 : a1 = 0) (h1 : (0 ≤ a2) ∧ (a2 ≤ 24)) (h2 : (0 ≤ a3) ∧ (a3 ≤ 8)) : (a4 ≠ 0) → ((a1 ≠ 0) → ((a2 + a3 ≤ 24) → ((a5 = 0) ∧ ((a6 = a2 + a3) ∧ (a7 = a2 + a3))))) := by simp only [Int32.le_iff_toInt_le, Int32.lt_iff_toInt_lt, ← Int32.toInt_inj, ne_eq] at *; have b0 := Int32.le_toInt a2; have c0 := Int32.toInt_lt a2; have b1 := Int32.le_toInt a3; have c1 := Int32.toInt_lt a3; have l0 : (0 : Int32).toInt = 0 := (by decide); have l1 : (24 : Int32).toInt = 24 := (by decide); have l2 : (8 : Int32).toInt = 8 := (by decide); have s0 : (a2 + a3).toInt = a2.toInt + a3.toInt := q_tA rfl (by omega) (by omega); omega
theorem zz_44ead30954 {a1 a2 a3 a4 : Int32} (h0 : a1 = 0) : (a2 ≠ 0) → ((a1 ≠ 0) → (a3 = a4)) := by simp only [Int32.le_iff_toInt_le, Int32.lt_iff_toInt_lt, ← Int32.toInt_inj, ne_eq] at *; have l0 : (0 : Int32).toInt = 0 := (by decide); omega
theorem zz_e227cfbe5e {a1 : Int32} (h0 : (0 ≤ a1) ∧ (a1 ≤ 12)) (h1 : ¬ (a1 = 0)) : 0 ≤ a1 - 1 := by simp only [Int32.le_iff_toInt_le, Int32.lt_iff_toInt_lt, ← Int32.toInt_inj, ne_eq] at *; have b0 := Int32.le_toInt a1; have c0 := Int32.toInt_lt a1; have l0 : (0 : Int32).toInt = 0 := (by decide); have l1 : (12 : Int32).toInt = 12 := (by decide); have l2 : (1 : Int32).toInt = 1 := (by decide); have s0 : (a1 - 1).toInt = a1.toInt - 1 := q_tS (by decide) (by omega) (by omega); omega
theorem zz_0c61d2c72b {a1 : Int32} (h0 : (0 ≤ a1) ∧ (a1 ≤ 12)) : a1 - 1 < 12 := by simp only [Int32.le_iff_toInt_le, Int32.lt_iff_toInt_lt, ← Int32.toInt_inj, ne_eq] at *; have b0 := Int32.le_toInt a1; have c0 := Int32.toInt_lt a1; have l0 : (0 : Int32).toInt = 0 := (by decide); have l1 : (12 : Int32).toInt = 12 := (by decide); have l2 : (1 : Int32).toInt = 1 := (by decide); have s0 : (a1 - 1).toInt = a1.toInt - 1 := q_tS (by decide) (by omega) (by omega); omega
theorem zz_57245dab7a {a1 a2 a3 a4 a5 : Int32} (h0 : a1 = a2) (h1 : a3 = (if a4 = 1 then a5 else -1)) (h2 : a2 + a3 ≤ 24) (h3 : 0 ≤ a3) (h4 : (0 ≤ a2) ∧ (a2 ≤ 24)) (h5 : (0 ≤ a5) ∧ (a5 ≤ 8)) : a1 + a5 ≤ 24 := by split at h1 <;> (simp only [Int32.le_iff_toInt_le, Int32.lt_iff_toInt_lt, ← Int32.toInt_inj, ne_eq] at *; have b0 := Int32.le_toInt a2; have c0 := Int32.toInt_lt a2; have b1 := Int32.le_toInt a3; have c1 := Int32.toInt_lt a3; have b2 := Int32.le_toInt a1; have c2 := Int32.toInt_lt a1; have b3 := Int32.le_toInt a5; have c3 := Int32.toInt_lt a5; have l0 : (1 : Int32).toInt = 1 := (by decide); have l1 : (-1 : Int32).toInt = -1 := (by decide); have l2 : (24 : Int32).toInt = 24 := (by decide); have l3 : (0 : Int32).toInt = 0 := (by decide); have l4 : (8 : Int32).toInt = 8 := (by decide); have s0 : (a2 + a3).toInt = a2.toInt + a3.toInt := q_tA rfl (by omega) (by omega); have s1 : (a1 + a5).toInt = a1.toInt + a5.toInt := q_tA rfl (by omega) (by omega); omega)
theorem zz_e20a05e6c6 {a1 a2 a3 : Int32} (h0 : ¬ (a1 = 0)) : (a2 ≠ 0) → ((a1 = 0) → (a3 = 2)) := by simp only [Int32.le_iff_toInt_le, Int32.lt_iff_toInt_lt, ← Int32.toInt_inj, ne_eq] at *; have l0 : (0 : Int32).toInt = 0 := (by decide); have l1 : (2 : Int32).toInt = 2 := (by decide); omega
theorem zz_9471643ca4 {a1 a2 a3 a4 a5 a6 : Int32} (h0 : a1 = a2) (h1 : a1 + a3 ≤ 24) (h2 : (0 ≤ a3) ∧ (a3 ≤ 8)) (h3 : (0 ≤ a2) ∧ (a2 ≤ 24)) : (a4 ≠ 0) → ((a5 ≠ 0) → ((24 < a2 + a3) → (a6 = 2))) := by simp only [Int32.le_iff_toInt_le, Int32.lt_iff_toInt_lt, ← Int32.toInt_inj, ne_eq] at *; have b0 := Int32.le_toInt a1; have c0 := Int32.toInt_lt a1; have b1 := Int32.le_toInt a3; have c1 := Int32.toInt_lt a3; have b2 := Int32.le_toInt a2; have c2 := Int32.toInt_lt a2; have l0 : (24 : Int32).toInt = 24 := (by decide); have l1 : (0 : Int32).toInt = 0 := (by decide); have l2 : (8 : Int32).toInt = 8 := (by decide); have l3 : (2 : Int32).toInt = 2 := (by decide); have s0 : (a1 + a3).toInt = a1.toInt + a3.toInt := q_tA rfl (by omega) (by omega); have s1 : (a2 + a3).toInt = a2.toInt + a3.toInt := q_tA rfl (by omega) (by omega); omega
theorem zz_7340430cbd {a1 a2 a3 a4 a5 a6 a7 : Int32} (h0 : a1 = 0) (h1 : a2 = a3) (h2 : a4 = a2 + a5) (h3 : (0 ≤ a5) ∧ (a5 ≤ 8)) (h4 : (0 ≤ a3) ∧ (a3 ≤ 24)) : (a6 ≠ 0) → ((a7 ≠ 0) → ((a3 + a5 ≤ 24) → ((a1 = 0) ∧ ((a2 + a5 = a3 + a5) ∧ (a4 = a3 + a5))))) := by simp only [Int32.le_iff_toInt_le, Int32.lt_iff_toInt_lt, ← Int32.toInt_inj, ne_eq] at *; have b0 := Int32.le_toInt a2; have c0 := Int32.toInt_lt a2; have b1 := Int32.le_toInt a5; have c1 := Int32.toInt_lt a5; have b2 := Int32.le_toInt a3; have c2 := Int32.toInt_lt a3; have l0 : (0 : Int32).toInt = 0 := (by decide); have l1 : (8 : Int32).toInt = 8 := (by decide); have l2 : (24 : Int32).toInt = 24 := (by decide); have s0 : (a2 + a5).toInt = a2.toInt + a5.toInt := q_tA rfl (by omega) (by omega); have s1 : (a3 + a5).toInt = a3.toInt + a5.toInt := q_tA rfl (by omega) (by omega); omega
theorem zz_3f337f9e66 {a1 a2 : Int32} (h0 : a1 ≠ a2 - 1) (h1 : (0 ≤ a2) ∧ (a2 ≤ 12)) : ¬ (a1 = a2 - 1) := by simp only [Int32.le_iff_toInt_le, Int32.lt_iff_toInt_lt, ← Int32.toInt_inj, ne_eq] at *; have b0 := Int32.le_toInt a2; have c0 := Int32.toInt_lt a2; have l0 : (1 : Int32).toInt = 1 := (by decide); have l1 : (0 : Int32).toInt = 0 := (by decide); have l2 : (12 : Int32).toInt = 12 := (by decide); have s0 : (a2 - 1).toInt = a2.toInt - 1 := q_tS (by decide) (by omega) (by omega); omega
theorem zz_ab4627200a {a1 a2 a3 a4 : Int32} (h0 : a1 = 0) : (a1 ≠ 0) → ((a2 ≠ 0) → (a3 = a4)) := by simp only [Int32.le_iff_toInt_le, Int32.lt_iff_toInt_lt, ← Int32.toInt_inj, ne_eq] at *; have l0 : (0 : Int32).toInt = 0 := (by decide); omega
theorem zz_370aba5fef {a1 a2 a3 a4 a5 : Int32} (h0 : a1 = 2) (h1 : (0 ≤ a2) ∧ (a2 ≤ 24)) (h2 : (0 ≤ a3) ∧ (a3 ≤ 8)) : (a4 ≠ 0) → ((a5 ≠ 0) → ((24 < a2 + a3) → (a1 = 2))) := by simp only [Int32.le_iff_toInt_le, Int32.lt_iff_toInt_lt, ← Int32.toInt_inj, ne_eq] at *; have b0 := Int32.le_toInt a2; have c0 := Int32.toInt_lt a2; have b1 := Int32.le_toInt a3; have c1 := Int32.toInt_lt a3; have l0 : (2 : Int32).toInt = 2 := (by decide); have l1 : (0 : Int32).toInt = 0 := (by decide); have l2 : (24 : Int32).toInt = 24 := (by decide); have l3 : (8 : Int32).toInt = 8 := (by decide); have s0 : (a2 + a3).toInt = a2.toInt + a3.toInt := q_tA rfl (by omega) (by omega); omega
theorem zz_6af81b6162 {a1 a2 a3 a4 a5 a6 a7 a8 : Int32} (h0 : (0 ≤ a1) ∧ (a1 ≤ 24)) (h1 : a2 = (if a3 = 1 then a4 else -1)) (h2 : ¬ (a1 + a2 ≤ 24)) (h3 : 0 ≤ a2) (h4 : (0 ≤ a4) ∧ (a4 ≤ 8)) : (a3 ≠ 0) → ((a5 ≠ 0) → ((a1 + a4 ≤ 24) → ((a6 = 0) ∧ ((a7 = a1 + a4) ∧ (a8 = a1 + a4))))) := by split at h1 <;> (simp only [Int32.le_iff_toInt_le, Int32.lt_iff_toInt_lt, ← Int32.toInt_inj, ne_eq] at *; have b0 := Int32.le_toInt a1; have c0 := Int32.toInt_lt a1; have b1 := Int32.le_toInt a2; have c1 := Int32.toInt_lt a2; have b2 := Int32.le_toInt a4; have c2 := Int32.toInt_lt a4; have l0 : (0 : Int32).toInt = 0 := (by decide); have l1 : (24 : Int32).toInt = 24 := (by decide); have l2 : (1 : Int32).toInt = 1 := (by decide); have l3 : (-1 : Int32).toInt = -1 := (by decide); have l4 : (8 : Int32).toInt = 8 := (by decide); have s0 : (a1 + a2).toInt = a1.toInt + a2.toInt := q_tA rfl (by omega) (by omega); have s1 : (a1 + a4).toInt = a1.toInt + a4.toInt := q_tA rfl (by omega) (by omega); omega)
theorem zz_3e869ad0b8 {a1 a2 a3 a4 : Int32} (h0 : a1 = a2) : (a3 ≠ 0) → ((a4 ≠ 0) → (a1 = a2)) := by simp only [Int32.le_iff_toInt_le, Int32.lt_iff_toInt_lt, ← Int32.toInt_inj, ne_eq] at *; have l0 : (0 : Int32).toInt = 0 := (by decide); omega
theorem zz_01500c2001 {a1 a2 a3 a4 a5 : Int32} (h0 : (0 ≤ a1) ∧ (a1 ≤ 8)) (h1 : (a2 = 0) ∨ (a2 = 1)) (h2 : a3 = (if a2 = 1 then a1 else -1)) (h3 : ¬ (0 ≤ a3)) : (a2 ≠ 0) → ((a4 = 0) → (a5 = 2)) := by split at h2 <;> (simp only [Int32.le_iff_toInt_le, Int32.lt_iff_toInt_lt, ← Int32.toInt_inj, ne_eq] at *; have l0 : (0 : Int32).toInt = 0 := (by decide); have l1 : (8 : Int32).toInt = 8 := (by decide); have l2 : (1 : Int32).toInt = 1 := (by decide); have l3 : (-1 : Int32).toInt = -1 := (by decide); have l4 : (2 : Int32).toInt = 2 := (by decide); omega)
theorem zz_5b4fa976a1 {a1 a2 a3 a4 a5 a6 : Int32} (h0 : (0 ≤ a1) ∧ (a1 ≤ 24)) (h1 : (a2 = 0) ∨ (a2 = 1)) (h2 : a3 = (if a2 = 1 then a4 else -1)) (h3 : ¬ (0 ≤ a3)) (h4 : (0 ≤ a4) ∧ (a4 ≤ 8)) : (a2 ≠ 0) → ((a5 ≠ 0) → ((24 < a1 + a4) → (a6 = 2))) := by split at h2 <;> (simp only [Int32.le_iff_toInt_le, Int32.lt_iff_toInt_lt, ← Int32.toInt_inj, ne_eq] at *; have b0 := Int32.le_toInt a1; have c0 := Int32.toInt_lt a1; have b1 := Int32.le_toInt a4; have c1 := Int32.toInt_lt a4; have l0 : (0 : Int32).toInt = 0 := (by decide); have l1 : (24 : Int32).toInt = 24 := (by decide); have l2 : (1 : Int32).toInt = 1 := (by decide); have l3 : (-1 : Int32).toInt = -1 := (by decide); have l4 : (8 : Int32).toInt = 8 := (by decide); have l5 : (2 : Int32).toInt = 2 := (by decide); have s0 : (a1 + a4).toInt = a1.toInt + a4.toInt := q_tA rfl (by omega) (by omega); omega)
theorem zz_bedc734c9f {a1 a2 a3 a4 a5 a6 a7 a8 : Int32} (h0 : (0 ≤ a1) ∧ (a1 ≤ 8)) (h1 : (a2 = 0) ∨ (a2 = 1)) (h2 : a3 = (if a2 = 1 then a1 else -1)) (h3 : ¬ (0 ≤ a3)) (h4 : (0 ≤ a4) ∧ (a4 ≤ 24)) : (a2 ≠ 0) → ((a5 ≠ 0) → ((a4 + a1 ≤ 24) → ((a6 = 0) ∧ ((a7 = a4 + a1) ∧ (a8 = a4 + a1))))) := by split at h2 <;> (simp only [Int32.le_iff_toInt_le, Int32.lt_iff_toInt_lt, ← Int32.toInt_inj, ne_eq] at *; have b0 := Int32.le_toInt a4; have c0 := Int32.toInt_lt a4; have b1 := Int32.le_toInt a1; have c1 := Int32.toInt_lt a1; have l0 : (0 : Int32).toInt = 0 := (by decide); have l1 : (8 : Int32).toInt = 8 := (by decide); have l2 : (1 : Int32).toInt = 1 := (by decide); have l3 : (-1 : Int32).toInt = -1 := (by decide); have l4 : (24 : Int32).toInt = 24 := (by decide); have s0 : (a4 + a1).toInt = a4.toInt + a1.toInt := q_tA rfl (by omega) (by omega); omega)
set_option maxHeartbeats 4000000 in
theorem p_Mod_more {L : q_L} {W : Nat → Prop} {h0 : z_H} {π : Nat → Nat → Option Nat} {N : Nat} {h : z_H} {v0 : Nat} {v1 : Int64} (T : q_U L W h0 π h) (kv0 : q_M L π v0) (wM : ∀ a, v0 ≤ a → a < v0 + 46 → W a) (hN : 100000 ≤ N) : qk (f_Mod_more N v0 v1 h) (fun r => q_U L W h0 π r.2 ∧ (q_okc v1 0 8 = 0 → vI r.2 v0 6 = 1) ∧ (q_okc v1 0 8 ≠ 0 → vI h v0 4 = 0 → vI r.2 v0 6 = 2) ∧ (q_okc v1 0 8 ≠ 0 → vI h v0 4 ≠ 0 → 24 < vA h (v0 + 2) (vI h v0 4 - 1) + q_cn v1 8 → vI r.2 v0 6 = 2) ∧ (q_okc v1 0 8 ≠ 0 → vI h v0 4 ≠ 0 → vA h (v0 + 2) (vI h v0 4 - 1) + q_cn v1 8 ≤ 24 → vI r.2 v0 6 = 0 ∧ r.1 = vA h (v0 + 2) (vI h v0 4 - 1) + q_cn v1 8 ∧ vA r.2 (v0 + 2) (vI h v0 4 - 1) = vA h (v0 + 2) (vI h v0 4 - 1) + q_cn v1 8) ∧ (∀ a k, ¬ (a = v0 ∧ (k = 6)) → vI r.2 a k = vI h a k) ∧ (∀ a j, 0 ≤ j → ¬ (a = v0 + 2 ∨ a = v0 + 3) → vA r.2 a j = vA h a j) ∧ (∀ j, 0 ≤ j → j ≠ (vI h v0 4 - 1) → vA r.2 (v0 + 2) j = vA h (v0 + 2) j) ∧ (vI r.2 v0 6 ≠ 0 → vI h v0 4 ≠ 0 → vA r.2 (v0 + 2) (vI h v0 4 - 1) = vA h (v0 + 2) (vI h v0 4 - 1))) := by
  have hcn_v1 : 0 ≤ q_cn v1 8 ∧ q_cn v1 8 ≤ 8 := q_cnr_8 v1
  have hok_v1 : q_okc v1 0 8 = 0 ∨ q_okc v1 0 8 = 1 := q_ok01_8 v1 0
  unfold f_Mod_more
  refine c_Mod_measure (v0 := v1) (v2 := 0) T hN ?_
  intro yr1 gr1_0
  dsimp only
  refine qk_bs ?_
  refine qk_if (fun cc1 => ?_) (fun cc1 => ?_)
  · skip
    refine r_Mo_4 T kv0 ?_
    intro x4 ex4 lx4 ux4
    subst ex4
    refine qk_if (fun cc2 => ?_) (fun cc2 => ?_)
    · skip
      unfold f_Mod_more_41
      refine r_Mo_o T kv0 ?_
      refine c_Mod_fail (v0 := v0) (v1 := 2) T kv0 wM ?_
      intro yr2i3 hr2i3 Tr2i3 gr2i3_0 gr2i3_1 gr2i3_2
      dsimp only
      refine qk_some ?_
      have o4 : vI hr2i3 v0 6 = 2 := (by rw [gr2i3_1 v0 6, if_pos ⟨rfl, rfl⟩])
      have o5 := g_Mo_e2 T kv0 ((vI h v0 4) - 1)
      exact ⟨Tr2i3, (zz_cc46906757 gr1_0 cc1), (zz_2d440dfe26 o4), (zz_9b348c1f27 cc2 o5 hcn_v1), (zz_d853873519 cc2 o5 hcn_v1), (by show ∀ a k, ¬ (a = v0 ∧ (k = 6)) → vI hr2i3 a k = vI h a k; intro a k n0; rw [gr2i3_1 a k, if_neg (by omega)]), (by show ∀ a j, 0 ≤ j → ¬ (a = v0 + 2 ∨ a = v0 + 3) → vA hr2i3 a j = vA h a j; intro a j j0 n0; rw [gr2i3_2 a j]), (by show ∀ j, 0 ≤ j → j ≠ (vI h v0 4 - 1) → vA hr2i3 (v0 + 2) j = vA h (v0 + 2) j; intro j j0 n0; rw [gr2i3_2 (v0 + 2) j]), (zz_44ead30954 cc2)⟩
    · skip
      refine r_Mo_1 T kv0 ?_
      refine r_Mo_4 T kv0 ?_
      intro x7 ex7 lx7 ux7
      subst ex7
      have o6 := g_Mo_4 T kv0
      refine r_Mo_e2 T kv0 (zz_e227cfbe5e o6 cc2) (zz_0c61d2c72b o6) ?_
      intro x8 ex8 lx8 ux8
      subst ex8
      refine qk_if (fun cc7 => ?_) (fun cc7 => ?_)
      · skip
        refine w_Mo_6 T kv0 (wM _ (by omega) (by omega)) ?_
        intro h10 Th10 ih10 ah10
        refine r_Mo_4 Th10 kv0 ?_
        intro x11 ex11 lx11 ux11
        have sx11 : (vI h v0 4) = x11 := (ex11.trans (by rw [ih10 v0 4, if_neg (fun z => absurd z.2 (by decide))])).symm
        subst sx11
        refine r_Mo_o Th10 kv0 ?_
        have o8 : vA h10 (v0 + 2) ((vI h v0 4) - 1) = vA h (v0 + 2) ((vI h v0 4) - 1) := (by rw [ah10 (v0 + 2) ((vI h v0 4) - 1)])
        have o9 := g_Mo_e2 T kv0 ((vI h v0 4) - 1)
        refine c_Mod_addTo (v0 := v0) (v1 := ((vI h v0 4) - 1)) (v2 := v1) Th10 kv0 wM (zz_e227cfbe5e o6 cc2) (zz_0c61d2c72b o6) (zz_57245dab7a o8 gr1_0 cc7 cc1 o9 hcn_v1) hN ?_
        intro r13 Tr13 gr13_0 gr13_1
        refine r_Mo_1 Tr13 kv0 ?_
        refine r_Mo_4 Tr13 kv0 ?_
        intro x15 ex15 lx15 ux15
        have sx15 : (vI h v0 4) = x15 := (ex15.trans (by rw [gr13_0 v0 4, ih10 v0 4, if_neg (fun z => absurd z.2 (by decide))])).symm
        subst sx15
        refine r_Mo_e2 Tr13 kv0 (zz_e227cfbe5e o6 cc2) (zz_0c61d2c72b o6) ?_
        intro x16 ex16 lx16 ux16
        have sx16 : vA h10 (v0 + 2) ((vI h v0 4) - 1) + q_cn v1 8 = x16 := (ex16.trans (by rw [gr13_1 (v0 + 2) ((vI h v0 4) - 1) (zz_e227cfbe5e o6 cc2) (by omega), if_pos ⟨rfl, rfl⟩])).symm
        subst sx16
        refine qk_some ?_
        have o10 : vI r13 v0 6 = 0 := (by rw [gr13_0 v0 6, ih10 v0 6, if_pos ⟨rfl, rfl⟩])
        have o11 : vA r13 (v0 + 2) ((vI h v0 4) - 1) = (vA h10 (v0 + 2) ((vI h v0 4) - 1)) + (q_cn v1 8) := (by rw [gr13_1 (v0 + 2) ((vI h v0 4) - 1) (zz_e227cfbe5e o6 cc2) (by omega), if_pos ⟨rfl, rfl⟩])
        exact ⟨Tr13, (zz_cc46906757 gr1_0 cc1), (zz_e20a05e6c6 cc2), (zz_9471643ca4 o8 ux16 hcn_v1 o9), (zz_7340430cbd o10 o8 o11 hcn_v1 o9), (by show ∀ a k, ¬ (a = v0 ∧ (k = 6)) → vI r13 a k = vI h a k; intro a k n0; rw [gr13_0 a k, ih10, if_neg (by omega)]), (by show ∀ a j, 0 ≤ j → ¬ (a = v0 + 2 ∨ a = v0 + 3) → vA r13 a j = vA h a j; intro a j j0 n0; rw [gr13_1 a j j0 (by omega), if_neg (by omega), ah10]), (by show ∀ j, 0 ≤ j → j ≠ (vI h v0 4 - 1) → vA r13 (v0 + 2) j = vA h (v0 + 2) j; intro j j0 n0; rw [gr13_1 (v0 + 2) j j0 (by omega), if_neg (fun z => absurd z.2 (zz_3f337f9e66 n0 o6)), ah10 (v0 + 2) j]), (zz_ab4627200a o10)⟩
      · skip
        unfold f_Mod_more_41
        refine r_Mo_o T kv0 ?_
        refine c_Mod_fail (v0 := v0) (v1 := 2) T kv0 wM ?_
        intro yr2i12 hr2i12 Tr2i12 gr2i12_0 gr2i12_1 gr2i12_2
        dsimp only
        refine qk_some ?_
        have o13 : vI hr2i12 v0 6 = 2 := (by rw [gr2i12_1 v0 6, if_pos ⟨rfl, rfl⟩])
        have o14 := g_Mo_e2 T kv0 ((vI h v0 4) - 1)
        have o15 : vA hr2i12 (v0 + 2) ((vI h v0 4) - 1) = vA h (v0 + 2) ((vI h v0 4) - 1) := (by rw [gr2i12_2 (v0 + 2) ((vI h v0 4) - 1)])
        exact ⟨Tr2i12, (zz_cc46906757 gr1_0 cc1), (zz_e20a05e6c6 cc2), (zz_370aba5fef o13 o14 hcn_v1), (zz_6af81b6162 o14 gr1_0 cc7 cc1 hcn_v1), (by show ∀ a k, ¬ (a = v0 ∧ (k = 6)) → vI hr2i12 a k = vI h a k; intro a k n0; rw [gr2i12_1 a k, if_neg (by omega)]), (by show ∀ a j, 0 ≤ j → ¬ (a = v0 + 2 ∨ a = v0 + 3) → vA hr2i12 a j = vA h a j; intro a j j0 n0; rw [gr2i12_2 a j]), (by show ∀ j, 0 ≤ j → j ≠ (vI h v0 4 - 1) → vA hr2i12 (v0 + 2) j = vA h (v0 + 2) j; intro j j0 n0; rw [gr2i12_2 (v0 + 2) j]), (zz_3e869ad0b8 o15)⟩
  · skip
    refine r_Mo_o T kv0 ?_
    refine c_Mod_fail (v0 := v0) (v1 := 1) T kv0 wM ?_
    intro yr18 hr18 Tr18 gr18_0 gr18_1 gr18_2
    dsimp only
    refine qk_some ?_
    have o16 : vI hr18 v0 6 = 1 := (by rw [gr18_1 v0 6, if_pos ⟨rfl, rfl⟩])
    have o17 := g_Mo_e2 T kv0 ((vI h v0 4) - 1)
    have o18 : vA hr18 (v0 + 2) ((vI h v0 4) - 1) = vA h (v0 + 2) ((vI h v0 4) - 1) := (by rw [gr18_2 (v0 + 2) ((vI h v0 4) - 1)])
    exact ⟨Tr18, (zz_e63a05af3a o16), (zz_01500c2001 hcn_v1 hok_v1 gr1_0 cc1), (zz_5b4fa976a1 o17 hok_v1 gr1_0 cc1 hcn_v1), (zz_bedc734c9f hcn_v1 hok_v1 gr1_0 cc1 o17), (by show ∀ a k, ¬ (a = v0 ∧ (k = 6)) → vI hr18 a k = vI h a k; intro a k n0; rw [gr18_1 a k, if_neg (by omega)]), (by show ∀ a j, 0 ≤ j → ¬ (a = v0 + 2 ∨ a = v0 + 3) → vA hr18 a j = vA h a j; intro a j j0 n0; rw [gr18_2 a j]), (by show ∀ j, 0 ≤ j → j ≠ (vI h v0 4 - 1) → vA hr18 (v0 + 2) j = vA h (v0 + 2) j; intro j j0 n0; rw [gr18_2 (v0 + 2) j]), (zz_3e869ad0b8 o18)⟩
theorem c_Mod_more {L : q_L} {W : Nat → Prop} {h0 : z_H} {π : Nat → Nat → Option Nat} {N : Nat} {h : z_H} {v0 : Nat} {v1 : Int64} {β : Type} {f : Int32 × z_H → Option β} {Q : β → Prop} (T : q_U L W h0 π h) (kv0 : q_M L π v0) (wM : ∀ a, v0 ≤ a → a < v0 + 46 → W a) (hN : 100000 ≤ N) (H : ∀ y h', q_U L W h0 π h' → (q_okc v1 0 8 = 0 → vI h' v0 6 = 1) → (q_okc v1 0 8 ≠ 0 → vI h v0 4 = 0 → vI h' v0 6 = 2) → (q_okc v1 0 8 ≠ 0 → vI h v0 4 ≠ 0 → 24 < vA h (v0 + 2) (vI h v0 4 - 1) + q_cn v1 8 → vI h' v0 6 = 2) → (q_okc v1 0 8 ≠ 0 → vI h v0 4 ≠ 0 → vA h (v0 + 2) (vI h v0 4 - 1) + q_cn v1 8 ≤ 24 → vI h' v0 6 = 0 ∧ y = vA h (v0 + 2) (vI h v0 4 - 1) + q_cn v1 8 ∧ vA h' (v0 + 2) (vI h v0 4 - 1) = vA h (v0 + 2) (vI h v0 4 - 1) + q_cn v1 8) → (∀ a k, ¬ (a = v0 ∧ (k = 6)) → vI h' a k = vI h a k) → (∀ a j, 0 ≤ j → ¬ (a = v0 + 2 ∨ a = v0 + 3) → vA h' a j = vA h a j) → (∀ j, 0 ≤ j → j ≠ (vI h v0 4 - 1) → vA h' (v0 + 2) j = vA h (v0 + 2) j) → (vI h' v0 6 ≠ 0 → vI h v0 4 ≠ 0 → vA h' (v0 + 2) (vI h v0 4 - 1) = vA h (v0 + 2) (vI h v0 4 - 1)) → qk (f (y, h')) Q) : qk (z_b (f_Mod_more N v0 v1 h) f) Q := by
  refine qk_b (p_Mod_more T kv0 wM hN) ?_
  rintro ⟨y, hz⟩ ⟨Tz, g0, g1, g2, g3, g4, g5, g6, g7⟩
  exact H y hz Tz g0 g1 g2 g3 g4 g5 g6 g7
