theorem zz_cbaea01729 {a1 a2 a3 a4 : Int32} (h0 : a1 = 1) : ((a2 = 0) ∨ (a3 = 0)) → ((a1 = 1) ∧ (a4 = a4)) := by lia
theorem zz_4bdc763951 {a1 a2 a3 a4 a5 a6 : Int32} (h0 : (0 ≤ a1) ∧ (a1 ≤ 8)) (h1 : (a2 = 0) ∨ (a2 = 1)) (h2 : a3 = (if a2 = 1 then a1 else -1)) (h3 : a3 < 0) : (a2 ≠ 0) → ((a4 ≠ 0) → ((a5 = 12) → ((a6 = 2) ∧ (a5 = a5)))) := by split at h2 <;> lia
theorem zz_b095d21424 {a1 a2 a3 a4 a5 a6 a7 a8 a9 : Int32} (h0 : (0 ≤ a1) ∧ (a1 ≤ 8)) (h1 : (a2 = 0) ∨ (a2 = 1)) (h2 : a3 = (if a2 = 1 then a1 else -1)) (h3 : a3 < 0) (h4 : (0 ≤ a4) ∧ (a4 ≤ 12)) (h5 : (0 ≤ a5) ∧ (a5 ≤ 8)) : (a2 ≠ 0) → ((a6 ≠ 0) → ((a4 ≠ 12) → ((a7 = 0) ∧ ((a8 = a4 + 1) ∧ ((a4 = a4 + 1) ∧ (a9 = a1 + a5)))))) := by split at h2 <;> (simp only [Int32.le_iff_toInt_le, Int32.lt_iff_toInt_lt, ← Int32.toInt_inj, ne_eq] at *; have b0 := Int32.le_toInt a4; have c0 := Int32.toInt_lt a4; have b1 := Int32.le_toInt a1; have c1 := Int32.toInt_lt a1; have b2 := Int32.le_toInt a5; have c2 := Int32.toInt_lt a5; have l0 : (0 : Int32).toInt = 0 := (by decide); have l1 : (8 : Int32).toInt = 8 := (by decide); have l2 : (1 : Int32).toInt = 1 := (by decide); have l3 : (-1 : Int32).toInt = -1 := (by decide); have l4 : (12 : Int32).toInt = 12 := (by decide); have s0 : (a4 + 1).toInt = a4.toInt + 1 := q_tA (by decide) (by omega) (by omega); have s1 : (a1 + a5).toInt = a1.toInt + a5.toInt := q_tA rfl (by omega) (by omega); omega)
theorem zz_cf129bd9f5 {a1 a2 a3 a4 a5 a6 a7 a8 : Int32} (h0 : a1 = (if a2 = 1 then a3 else -1)) (h1 : a4 = (if a5 = 1 then a6 else -1)) (h2 : ¬ (a1 < 0)) (h3 : 0 ≤ a4) : ((a2 = 0) ∨ (a5 = 0)) → ((a7 = 1) ∧ (a8 = a8)) := by split at h0 <;> split at h1 <;> lia
theorem zz_a683b64704 {a1 a2 a3 a4 : Int32} (h0 : a1 = 2) : (a2 ≠ 0) → ((a3 ≠ 0) → ((a4 = 12) → ((a1 = 2) ∧ (a4 = a4)))) := by lia
theorem zz_d14eff3c95 {a1 a2 a3 a4 a5 a6 a7 a8 : Int32} (h0 : a1 = 12) (h1 : (0 ≤ a1) ∧ (a1 ≤ 12)) (h2 : (0 ≤ a2) ∧ (a2 ≤ 8)) (h3 : (0 ≤ a3) ∧ (a3 ≤ 8)) : (a4 ≠ 0) → ((a5 ≠ 0) → ((a1 ≠ 12) → ((a6 = 0) ∧ ((a7 = a1 + 1) ∧ ((a1 = a1 + 1) ∧ (a8 = a2 + a3)))))) := by simp only [Int32.le_iff_toInt_le, Int32.lt_iff_toInt_lt, ← Int32.toInt_inj, ne_eq] at *; have b0 := Int32.le_toInt a1; have c0 := Int32.toInt_lt a1; have b1 := Int32.le_toInt a2; have c1 := Int32.toInt_lt a2; have b2 := Int32.le_toInt a3; have c2 := Int32.toInt_lt a3; have l0 : (12 : Int32).toInt = 12 := (by decide); have l1 : (0 : Int32).toInt = 0 := (by decide); have l2 : (8 : Int32).toInt = 8 := (by decide); have l3 : (1 : Int32).toInt = 1 := (by decide); have s0 : (a1 + 1).toInt = a1.toInt + 1 := q_tA (by decide) (by omega) (by omega); have s1 : (a2 + a3).toInt = a2.toInt + a3.toInt := q_tA rfl (by omega) (by omega); omega
theorem zz_edcc8d0621 {a1 : Int32} (h0 : (0 ≤ a1) ∧ (a1 ≤ 12)) (h1 : ¬ (a1 = 12)) : a1 < 12 := by simp only [Int32.le_iff_toInt_le, Int32.lt_iff_toInt_lt, ← Int32.toInt_inj, ne_eq] at *; have l0 : (0 : Int32).toInt = 0 := (by decide); have l1 : (12 : Int32).toInt = 12 := (by decide); omega
theorem zz_f9f45e75b0 {a1 a2 : Int32} (h0 : a1 = 0) (h1 : (0 ≤ a2) ∧ (a2 ≤ 8)) : a1 + a2 ≤ 24 := by simp only [Int32.le_iff_toInt_le, Int32.lt_iff_toInt_lt, ← Int32.toInt_inj, ne_eq] at *; have b0 := Int32.le_toInt a1; have c0 := Int32.toInt_lt a1; have b1 := Int32.le_toInt a2; have c1 := Int32.toInt_lt a2; have l0 : (0 : Int32).toInt = 0 := (by decide); have l1 : (8 : Int32).toInt = 8 := (by decide); have l2 : (24 : Int32).toInt = 24 := (by decide); have s0 : (a1 + a2).toInt = a1.toInt + a2.toInt := q_tA rfl (by omega) (by omega); omega
theorem zz_3fddf64cb6 {a1 a2 a3 a4 : Int32} (h0 : a1 = a2 + a3) (h1 : a2 = 0) (h2 : (0 ≤ a3) ∧ (a3 ≤ 8)) (h3 : (0 ≤ a4) ∧ (a4 ≤ 8)) : a1 + a4 ≤ 24 := by simp only [Int32.le_iff_toInt_le, Int32.lt_iff_toInt_lt, ← Int32.toInt_inj, ne_eq] at *; have b0 := Int32.le_toInt a2; have c0 := Int32.toInt_lt a2; have b1 := Int32.le_toInt a3; have c1 := Int32.toInt_lt a3; have b2 := Int32.le_toInt a1; have c2 := Int32.toInt_lt a1; have b3 := Int32.le_toInt a4; have c3 := Int32.toInt_lt a4; have l0 : (0 : Int32).toInt = 0 := (by decide); have l1 : (8 : Int32).toInt = 8 := (by decide); have l2 : (24 : Int32).toInt = 24 := (by decide); have s0 : (a2 + a3).toInt = a2.toInt + a3.toInt := q_tA rfl (by omega) (by omega); have s1 : (a1 + a4).toInt = a1.toInt + a4.toInt := q_tA rfl (by omega) (by omega); omega
theorem zz_d59a27247f {a1 : Int32} (h0 : (0 ≤ a1) ∧ (a1 ≤ 12)) (h1 : ¬ (a1 = 12)) : a1 + 1 ≤ 12 := by simp only [Int32.le_iff_toInt_le, Int32.lt_iff_toInt_lt, ← Int32.toInt_inj, ne_eq] at *; have b0 := Int32.le_toInt a1; have c0 := Int32.toInt_lt a1; have l0 : (0 : Int32).toInt = 0 := (by decide); have l1 : (12 : Int32).toInt = 12 := (by decide); have l2 : (1 : Int32).toInt = 1 := (by decide); have s0 : (a1 + 1).toInt = a1.toInt + 1 := q_tA (by decide) (by omega) (by omega); omega
theorem zz_61584bf74b {a1 a2 a3 a4 a5 a6 a7 a8 : Int32} (h0 : a1 = (if a2 = 1 then a3 else -1)) (h1 : a4 = (if a5 = 1 then a6 else -1)) (h2 : ¬ (a1 < 0)) (h3 : 0 ≤ a4) (h4 : (0 ≤ a7) ∧ (a7 ≤ 12)) : ((a2 = 0) ∨ (a5 = 0)) → ((a8 = 1) ∧ (a7 + 1 = a7)) := by split at h0 <;> split at h1 <;> (simp only [Int32.le_iff_toInt_le, Int32.lt_iff_toInt_lt, ← Int32.toInt_inj, ne_eq] at *; have b0 := Int32.le_toInt a7; have c0 := Int32.toInt_lt a7; have l0 : (1 : Int32).toInt = 1 := (by decide); have l1 : (-1 : Int32).toInt = -1 := (by decide); have l2 : (0 : Int32).toInt = 0 := (by decide); have l3 : (12 : Int32).toInt = 12 := (by decide); have s0 : (a7 + 1).toInt = a7.toInt + 1 := q_tA (by decide) (by omega) (by omega); omega)
theorem zz_d749253c99 {a1 a2 a3 a4 : Int32} (h0 : a1 + 1 ≤ 12) (h1 : (0 ≤ a1) ∧ (a1 ≤ 12)) : (a2 ≠ 0) → ((a3 ≠ 0) → ((a1 = 12) → ((a4 = 2) ∧ (a1 + 1 = a1)))) := by simp only [Int32.le_iff_toInt_le, Int32.lt_iff_toInt_lt, ← Int32.toInt_inj, ne_eq] at *; have b0 := Int32.le_toInt a1; have c0 := Int32.toInt_lt a1; have l0 : (1 : Int32).toInt = 1 := (by decide); have l1 : (12 : Int32).toInt = 12 := (by decide); have l2 : (0 : Int32).toInt = 0 := (by decide); have l3 : (2 : Int32).toInt = 2 := (by decide); have s0 : (a1 + 1).toInt = a1.toInt + 1 := q_tA (by decide) (by omega) (by omega); omega
theorem zz_3169a1b472 {a1 a2 a3 a4 a5 a6 a7 a8 a9 : Int32} (h0 : a1 = 0) (h1 : a2 = a3 + a4) (h2 : a3 = a5 + a6) (h3 : a5 = 0) (h4 : (0 ≤ a6) ∧ (a6 ≤ 8)) (h5 : (0 ≤ a4) ∧ (a4 ≤ 8)) (h6 : (0 ≤ a7) ∧ (a7 ≤ 12)) : (a8 ≠ 0) → ((a9 ≠ 0) → ((a7 ≠ 12) → ((a1 = 0) ∧ ((a7 + 1 = a7 + 1) ∧ ((a7 + 1 = a7 + 1) ∧ (a2 = a6 + a4)))))) := by lia
theorem zz_7af7c7975c {a1 a2 a3 a4 a5 a6 : Int32} (h0 : (0 ≤ a1) ∧ (a1 ≤ 8)) (h1 : (a2 = 0) ∨ (a2 = 1)) (h2 : a3 = (if a2 = 1 then a1 else -1)) (h3 : ¬ (0 ≤ a3)) : (a4 ≠ 0) → ((a2 ≠ 0) → ((a5 = 12) → ((a6 = 2) ∧ (a5 = a5)))) := by split at h2 <;> lia
theorem zz_6d1bda1158 {a1 a2 a3 a4 a5 a6 a7 a8 a9 : Int32} (h0 : (0 ≤ a1) ∧ (a1 ≤ 8)) (h1 : (a2 = 0) ∨ (a2 = 1)) (h2 : a3 = (if a2 = 1 then a1 else -1)) (h3 : ¬ (0 ≤ a3)) (h4 : (0 ≤ a4) ∧ (a4 ≤ 12)) (h5 : (0 ≤ a5) ∧ (a5 ≤ 8)) : (a6 ≠ 0) → ((a2 ≠ 0) → ((a4 ≠ 12) → ((a7 = 0) ∧ ((a8 = a4 + 1) ∧ ((a4 = a4 + 1) ∧ (a9 = a5 + a1)))))) := by split at h2 <;> (simp only [Int32.le_iff_toInt_le, Int32.lt_iff_toInt_lt, ← Int32.toInt_inj, ne_eq] at *; have b0 := Int32.le_toInt a4; have c0 := Int32.toInt_lt a4; have b1 := Int32.le_toInt a5; have c1 := Int32.toInt_lt a5; have b2 := Int32.le_toInt a1; have c2 := Int32.toInt_lt a1; have l0 : (0 : Int32).toInt = 0 := (by decide); have l1 : (8 : Int32).toInt = 8 := (by decide); have l2 : (1 : Int32).toInt = 1 := (by decide); have l3 : (-1 : Int32).toInt = -1 := (by decide); have l4 : (12 : Int32).toInt = 12 := (by decide); have s0 : (a4 + 1).toInt = a4.toInt + 1 := q_tA (by decide) (by omega) (by omega); have s1 : (a5 + a1).toInt = a5.toInt + a1.toInt := q_tA rfl (by omega) (by omega); omega)
set_option maxHeartbeats 4000000 in
theorem p_Mod_line {L : q_L} {W : Nat → Prop} {h0 : z_H} {π : Nat → Nat → Option Nat} {N : Nat} {h : z_H} {v0 : Nat} {v1 : Int64} {v3 : Int64} (T : q_U L W h0 π h) (kv0 : q_M L π v0) (wM : ∀ a, v0 ≤ a → a < v0 + 46 → W a) (hN : 100000 ≤ N) : qk (f_Mod_line N v0 v1 v3 h) (fun r => q_U L W h0 π r.2 ∧ (q_okc v1 0 8 = 0 ∨ q_okc v3 0 8 = 0 → vI r.2 v0 6 = 1 ∧ vI r.2 v0 4 = vI h v0 4) ∧ (q_okc v1 0 8 ≠ 0 → q_okc v3 0 8 ≠ 0 → vI h v0 4 = 12 → vI r.2 v0 6 = 2 ∧ vI r.2 v0 4 = vI h v0 4) ∧ (q_okc v1 0 8 ≠ 0 → q_okc v3 0 8 ≠ 0 → vI h v0 4 ≠ 12 → vI r.2 v0 6 = 0 ∧ r.1 = vI h v0 4 + 1 ∧ vI r.2 v0 4 = vI h v0 4 + 1 ∧ vA r.2 (v0 + 2) (vI h v0 4) = q_cn v1 8 + q_cn v3 8) ∧ (∀ a k, ¬ (a = v0 ∧ (k = 4 ∨ k = 6)) → vI r.2 a k = vI h a k) ∧ (∀ a j, 0 ≤ j → ¬ (a = v0 + 2 ∨ a = v0 + 3) → vA r.2 a j = vA h a j) ∧ (∀ j, 0 ≤ j → j ≠ vI h v0 4 → vA r.2 (v0 + 2) j = vA h (v0 + 2) j)) := by
  have hcn_v1 : 0 ≤ q_cn v1 8 ∧ q_cn v1 8 ≤ 8 := q_cnr_8 v1
  have hok_v1 : q_okc v1 0 8 = 0 ∨ q_okc v1 0 8 = 1 := q_ok01_8 v1 0
  have hcn_v3 : 0 ≤ q_cn v3 8 ∧ q_cn v3 8 ≤ 8 := q_cnr_8 v3
  have hok_v3 : q_okc v3 0 8 = 0 ∨ q_okc v3 0 8 = 1 := q_ok01_8 v3 0
  unfold f_Mod_line
  refine c_Mod_measure (v0 := v1) (v2 := 0) T hN ?_
  intro yr1 gr1_0
  dsimp only
  refine qk_if (fun cc1 => ?_) (fun cc1 => ?_)
  · skip
    unfold f_Mod_line_16
    refine r_Mo_o T kv0 ?_
    refine c_Mod_fail (v0 := v0) (v1 := 1) T kv0 wM ?_
    intro yr2i2 hr2i2 Tr2i2 gr2i2_0 gr2i2_1 gr2i2_2
    dsimp only
    refine qk_some ?_
    have o3 : vI hr2i2 v0 6 = 1 := (by rw [gr2i2_1 v0 6, if_pos ⟨rfl, rfl⟩])
    have o4 := g_Mo_4 T kv0
    exact ⟨Tr2i2, (by show q_okc v1 0 8 = 0 ∨ q_okc v3 0 8 = 0 → vI hr2i2 v0 6 = 1 ∧ vI hr2i2 v0 4 = vI h v0 4; have qc1 : vI hr2i2 v0 4 = (vI h v0 4) := (by rw [gr2i2_1 v0 4, if_neg (fun z => absurd z.2 (by decide))]); rw [qc1]; exact zz_cbaea01729 o3), (by show q_okc v1 0 8 ≠ 0 → q_okc v3 0 8 ≠ 0 → vI h v0 4 = 12 → vI hr2i2 v0 6 = 2 ∧ vI hr2i2 v0 4 = vI h v0 4; have qc1 : vI hr2i2 v0 4 = (vI h v0 4) := (by rw [gr2i2_1 v0 4, if_neg (fun z => absurd z.2 (by decide))]); rw [qc1]; exact zz_4bdc763951 hcn_v1 hok_v1 gr1_0 cc1), (by show q_okc v1 0 8 ≠ 0 → q_okc v3 0 8 ≠ 0 → vI h v0 4 ≠ 12 → vI hr2i2 v0 6 = 0 ∧ yr2i2 = vI h v0 4 + 1 ∧ vI hr2i2 v0 4 = vI h v0 4 + 1 ∧ vA hr2i2 (v0 + 2) (vI h v0 4) = q_cn v1 8 + q_cn v3 8; have qc1 : vI hr2i2 v0 4 = (vI h v0 4) := (by rw [gr2i2_1 v0 4, if_neg (fun z => absurd z.2 (by decide))]); rw [qc1]; exact zz_b095d21424 hcn_v1 hok_v1 gr1_0 cc1 o4 hcn_v3), (by show ∀ a k, ¬ (a = v0 ∧ (k = 4 ∨ k = 6)) → vI hr2i2 a k = vI h a k; intro a k n0; rw [gr2i2_1 a k, if_neg (by omega)]), (by show ∀ a j, 0 ≤ j → ¬ (a = v0 + 2 ∨ a = v0 + 3) → vA hr2i2 a j = vA h a j; intro a j j0 n0; rw [gr2i2_2 a j]), (by show ∀ j, 0 ≤ j → j ≠ vI h v0 4 → vA hr2i2 (v0 + 2) j = vA h (v0 + 2) j; intro j j0 n0; rw [gr2i2_2 (v0 + 2) j])⟩
  · skip
    refine c_Mod_measure (v0 := v3) (v2 := 0) T hN ?_
    intro yr3 gr3_0
    dsimp only
    refine qk_if (fun cc5 => ?_) (fun cc5 => ?_)
    · skip
      refine r_Mo_4 T kv0 ?_
      intro x5 ex5 lx5 ux5
      subst ex5
      refine qk_if (fun cc6 => ?_) (fun cc6 => ?_)
      · skip
        refine r_Mo_o T kv0 ?_
        refine c_Mod_fail (v0 := v0) (v1 := 2) T kv0 wM ?_
        intro yr21 hr21 Tr21 gr21_0 gr21_1 gr21_2
        dsimp only
        refine qk_some ?_
        have o7 : vI hr21 v0 6 = 2 := (by rw [gr21_1 v0 6, if_pos ⟨rfl, rfl⟩])
        have o8 := g_Mo_4 T kv0
        exact ⟨Tr21, (by show q_okc v1 0 8 = 0 ∨ q_okc v3 0 8 = 0 → vI hr21 v0 6 = 1 ∧ vI hr21 v0 4 = vI h v0 4; have qc1 : vI hr21 v0 4 = (vI h v0 4) := (by rw [gr21_1 v0 4, if_neg (fun z => absurd z.2 (by decide))]); rw [qc1]; exact zz_cf129bd9f5 gr1_0 gr3_0 cc1 cc5), (by show q_okc v1 0 8 ≠ 0 → q_okc v3 0 8 ≠ 0 → vI h v0 4 = 12 → vI hr21 v0 6 = 2 ∧ vI hr21 v0 4 = vI h v0 4; have qc1 : vI hr21 v0 4 = (vI h v0 4) := (by rw [gr21_1 v0 4, if_neg (fun z => absurd z.2 (by decide))]); rw [qc1]; exact zz_a683b64704 o7), (by show q_okc v1 0 8 ≠ 0 → q_okc v3 0 8 ≠ 0 → vI h v0 4 ≠ 12 → vI hr21 v0 6 = 0 ∧ yr21 = vI h v0 4 + 1 ∧ vI hr21 v0 4 = vI h v0 4 + 1 ∧ vA hr21 (v0 + 2) (vI h v0 4) = q_cn v1 8 + q_cn v3 8; have qc1 : vI hr21 v0 4 = (vI h v0 4) := (by rw [gr21_1 v0 4, if_neg (fun z => absurd z.2 (by decide))]); rw [qc1]; exact zz_d14eff3c95 cc6 o8 hcn_v1 hcn_v3), (by show ∀ a k, ¬ (a = v0 ∧ (k = 4 ∨ k = 6)) → vI hr21 a k = vI h a k; intro a k n0; rw [gr21_1 a k, if_neg (by omega)]), (by show ∀ a j, 0 ≤ j → ¬ (a = v0 + 2 ∨ a = v0 + 3) → vA hr21 a j = vA h a j; intro a j j0 n0; rw [gr21_2 a j]), (by show ∀ j, 0 ≤ j → j ≠ vI h v0 4 → vA hr21 (v0 + 2) j = vA h (v0 + 2) j; intro j j0 n0; rw [gr21_2 (v0 + 2) j])⟩
      · skip
        refine w_Mo_6 T kv0 (wM _ (by omega) (by omega)) ?_
        intro h7 Th7 ih7 ah7
        refine r_Mo_1 Th7 kv0 ?_
        refine r_Mo_4 Th7 kv0 ?_
        intro x9 ex9 lx9 ux9
        have sx9 : (vI h v0 4) = x9 := (ex9.trans (by rw [ih7 v0 4, if_neg (fun z => absurd z.2 (by decide))])).symm
        subst sx9
        have o9 := g_Mo_4 T kv0
        refine w_Mo_e2 Th7 kv0 (wM _ (by omega) (by omega)) lx9 (zz_edcc8d0621 o9 cc6) (by show (0 : Int32) ≤ 0; decide) (by show (0 : Int32) ≤ 24; decide) ?_
        intro h10 Th10 ih10 ah10
        refine r_Mo_4 Th10 kv0 ?_
        intro x11 ex11 lx11 ux11
        have sx11 : (vI h v0 4) = x11 := (ex11.trans (by rw [ih10 v0 4, ih7 v0 4, if_neg (fun z => absurd z.2 (by decide))])).symm
        subst sx11
        refine r_Mo_o Th10 kv0 ?_
        have o10 : vA h10 (v0 + 2) (vI h v0 4) = 0 := (by rw [ah10 (v0 + 2) (vI h v0 4) lx11, if_pos ⟨rfl, rfl⟩])
        refine c_Mod_addTo (v0 := v0) (v1 := (vI h v0 4)) (v2 := v1) Th10 kv0 wM lx11 (zz_edcc8d0621 o9 cc6) (zz_f9f45e75b0 o10 hcn_v1) hN ?_
        intro r13 Tr13 gr13_0 gr13_1
        refine r_Mo_4 Tr13 kv0 ?_
        intro x14 ex14 lx14 ux14
        have sx14 : (vI h v0 4) = x14 := (ex14.trans (by rw [gr13_0 v0 4, ih10 v0 4, ih7 v0 4, if_neg (fun z => absurd z.2 (by decide))])).symm
        subst sx14
        refine r_Mo_o Tr13 kv0 ?_
        have o11 : vA r13 (v0 + 2) (vI h v0 4) = (vA h10 (v0 + 2) (vI h v0 4)) + (q_cn v1 8) := (by rw [gr13_1 (v0 + 2) (vI h v0 4) lx14 (by omega), if_pos ⟨rfl, rfl⟩])
        refine c_Mod_addTo (v0 := v0) (v1 := (vI h v0 4)) (v2 := v3) Tr13 kv0 wM lx14 (zz_edcc8d0621 o9 cc6) (zz_3fddf64cb6 o11 o10 hcn_v1 hcn_v3) hN ?_
        intro r16 Tr16 gr16_0 gr16_1
        refine r_Mo_4 Tr16 kv0 ?_
        intro x17 ex17 lx17 ux17
        have sx17 : (vI h v0 4) = x17 := (ex17.trans (by rw [gr16_0 v0 4, gr13_0 v0 4, ih10 v0 4, ih7 v0 4, if_neg (fun z => absurd z.2 (by decide))])).symm
        subst sx17
        refine w_Mo_4 Tr16 kv0 (wM _ (by omega) (by omega)) (zz_d95317ec03 o9) (zz_d59a27247f o9 cc6) ?_
        intro h18 Th18 ih18 ah18
        refine r_Mo_4 Th18 kv0 ?_
        intro x19 ex19 lx19 ux19
        have sx19 : (vI h v0 4) + 1 = x19 := (ex19.trans (by rw [ih18 v0 4, if_pos ⟨rfl, rfl⟩])).symm
        subst sx19
        refine qk_some ?_
        have o12 : vI h18 v0 6 = 0 := (by rw [ih18 v0 6, if_neg (fun z => absurd z.2 (by decide)), gr16_0 v0 6, gr13_0 v0 6, ih10 v0 6, ih7 v0 6, if_pos ⟨rfl, rfl⟩])
        have o13 : vA h18 (v0 + 2) (vI h v0 4) = (vA r13 (v0 + 2) (vI h v0 4)) + (q_cn v3 8) := (by rw [ah18 (v0 + 2) (vI h v0 4), gr16_1 (v0 + 2) (vI h v0 4) lx17 (by omega), if_pos ⟨rfl, rfl⟩])
        exact ⟨Th18, (by show q_okc v1 0 8 = 0 ∨ q_okc v3 0 8 = 0 → vI h18 v0 6 = 1 ∧ vI h18 v0 4 = vI h v0 4; have qc1 : vI h18 v0 4 = (vI h v0 4) + 1 := (by rw [ih18 v0 4, if_pos ⟨rfl, rfl⟩]); rw [qc1]; exact zz_61584bf74b gr1_0 gr3_0 cc1 cc5 o9), (by show q_okc v1 0 8 ≠ 0 → q_okc v3 0 8 ≠ 0 → vI h v0 4 = 12 → vI h18 v0 6 = 2 ∧ vI h18 v0 4 = vI h v0 4; have qc1 : vI h18 v0 4 = (vI h v0 4) + 1 := (by rw [ih18 v0 4, if_pos ⟨rfl, rfl⟩]); rw [qc1]; exact zz_d749253c99 ux19 o9), (by show q_okc v1 0 8 ≠ 0 → q_okc v3 0 8 ≠ 0 → vI h v0 4 ≠ 12 → vI h18 v0 6 = 0 ∧ ((vI h v0 4) + 1) = vI h v0 4 + 1 ∧ vI h18 v0 4 = vI h v0 4 + 1 ∧ vA h18 (v0 + 2) (vI h v0 4) = q_cn v1 8 + q_cn v3 8; have qc1 : vI h18 v0 4 = (vI h v0 4) + 1 := (by rw [ih18 v0 4, if_pos ⟨rfl, rfl⟩]); rw [qc1]; exact zz_3169a1b472 o12 o13 o11 o10 hcn_v1 hcn_v3 o9), (by show ∀ a k, ¬ (a = v0 ∧ (k = 4 ∨ k = 6)) → vI h18 a k = vI h a k; intro a k n0; rw [ih18, if_neg (by omega), gr16_0 a k, gr13_0 a k, ih10, ih7, if_neg (by omega)]), (by show ∀ a j, 0 ≤ j → ¬ (a = v0 + 2 ∨ a = v0 + 3) → vA h18 a j = vA h a j; intro a j j0 n0; rw [ah18, gr16_1 a j j0 (by omega), if_neg (by omega), gr13_1 a j j0 (by omega), if_neg (by omega), ah10 a j j0, if_neg (by omega), ah7]), (by show ∀ j, 0 ≤ j → j ≠ vI h v0 4 → vA h18 (v0 + 2) j = vA h (v0 + 2) j; intro j j0 n0; rw [ah18 (v0 + 2) j, gr16_1 (v0 + 2) j j0 (by omega), if_neg (fun z => absurd z.2 (zz_946771669d n0)), gr13_1 (v0 + 2) j j0 (by omega), if_neg (fun z => absurd z.2 (zz_946771669d n0)), ah10 (v0 + 2) j j0, if_neg (fun z => absurd z.2 (zz_946771669d n0)), ah7 (v0 + 2) j])⟩
    · skip
      unfold f_Mod_line_16
      refine r_Mo_o T kv0 ?_
      refine c_Mod_fail (v0 := v0) (v1 := 1) T kv0 wM ?_
      intro yr2i14 hr2i14 Tr2i14 gr2i14_0 gr2i14_1 gr2i14_2
      dsimp only
      refine qk_some ?_
      have o15 : vI hr2i14 v0 6 = 1 := (by rw [gr2i14_1 v0 6, if_pos ⟨rfl, rfl⟩])
      have o16 := g_Mo_4 T kv0
      exact ⟨Tr2i14, (by show q_okc v1 0 8 = 0 ∨ q_okc v3 0 8 = 0 → vI hr2i14 v0 6 = 1 ∧ vI hr2i14 v0 4 = vI h v0 4; have qc1 : vI hr2i14 v0 4 = (vI h v0 4) := (by rw [gr2i14_1 v0 4, if_neg (fun z => absurd z.2 (by decide))]); rw [qc1]; exact zz_cbaea01729 o15), (by show q_okc v1 0 8 ≠ 0 → q_okc v3 0 8 ≠ 0 → vI h v0 4 = 12 → vI hr2i14 v0 6 = 2 ∧ vI hr2i14 v0 4 = vI h v0 4; have qc1 : vI hr2i14 v0 4 = (vI h v0 4) := (by rw [gr2i14_1 v0 4, if_neg (fun z => absurd z.2 (by decide))]); rw [qc1]; exact zz_7af7c7975c hcn_v3 hok_v3 gr3_0 cc5), (by show q_okc v1 0 8 ≠ 0 → q_okc v3 0 8 ≠ 0 → vI h v0 4 ≠ 12 → vI hr2i14 v0 6 = 0 ∧ yr2i14 = vI h v0 4 + 1 ∧ vI hr2i14 v0 4 = vI h v0 4 + 1 ∧ vA hr2i14 (v0 + 2) (vI h v0 4) = q_cn v1 8 + q_cn v3 8; have qc1 : vI hr2i14 v0 4 = (vI h v0 4) := (by rw [gr2i14_1 v0 4, if_neg (fun z => absurd z.2 (by decide))]); rw [qc1]; exact zz_6d1bda1158 hcn_v3 hok_v3 gr3_0 cc5 o16 hcn_v1), (by show ∀ a k, ¬ (a = v0 ∧ (k = 4 ∨ k = 6)) → vI hr2i14 a k = vI h a k; intro a k n0; rw [gr2i14_1 a k, if_neg (by omega)]), (by show ∀ a j, 0 ≤ j → ¬ (a = v0 + 2 ∨ a = v0 + 3) → vA hr2i14 a j = vA h a j; intro a j j0 n0; rw [gr2i14_2 a j]), (by show ∀ j, 0 ≤ j → j ≠ vI h v0 4 → vA hr2i14 (v0 + 2) j = vA h (v0 + 2) j; intro j j0 n0; rw [gr2i14_2 (v0 + 2) j])⟩
theorem c_Mod_line {L : q_L} {W : Nat → Prop} {h0 : z_H} {π : Nat → Nat → Option Nat} {N : Nat} {h : z_H} {v0 : Nat} {v1 : Int64} {v3 : Int64} {β : Type} {f : Int32 × z_H → Option β} {Q : β → Prop} (T : q_U L W h0 π h) (kv0 : q_M L π v0) (wM : ∀ a, v0 ≤ a → a < v0 + 46 → W a) (hN : 100000 ≤ N) (H : ∀ y h', q_U L W h0 π h' → (q_okc v1 0 8 = 0 ∨ q_okc v3 0 8 = 0 → vI h' v0 6 = 1 ∧ vI h' v0 4 = vI h v0 4) → (q_okc v1 0 8 ≠ 0 → q_okc v3 0 8 ≠ 0 → vI h v0 4 = 12 → vI h' v0 6 = 2 ∧ vI h' v0 4 = vI h v0 4) → (q_okc v1 0 8 ≠ 0 → q_okc v3 0 8 ≠ 0 → vI h v0 4 ≠ 12 → vI h' v0 6 = 0 ∧ y = vI h v0 4 + 1 ∧ vI h' v0 4 = vI h v0 4 + 1 ∧ vA h' (v0 + 2) (vI h v0 4) = q_cn v1 8 + q_cn v3 8) → (∀ a k, ¬ (a = v0 ∧ (k = 4 ∨ k = 6)) → vI h' a k = vI h a k) → (∀ a j, 0 ≤ j → ¬ (a = v0 + 2 ∨ a = v0 + 3) → vA h' a j = vA h a j) → (∀ j, 0 ≤ j → j ≠ vI h v0 4 → vA h' (v0 + 2) j = vA h (v0 + 2) j) → qk (f (y, h')) Q) : qk (z_b (f_Mod_line N v0 v1 v3 h) f) Q := by
  refine qk_b (p_Mod_line T kv0 wM hN) ?_
  rintro ⟨y, hz⟩ ⟨Tz, g0, g1, g2, g3, g4, g5⟩
  exact H y hz Tz g0 g1 g2 g3 g4 g5
