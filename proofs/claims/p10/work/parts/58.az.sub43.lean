theorem zz_f3b8a7d9dc {a1 : Int32} (h0 : ¬ (60 < a1)) : a1 ≤ 60 := by simp only [Int32.le_iff_toInt_le, Int32.lt_iff_toInt_lt, ← Int32.toInt_inj, ne_eq] at *; have l0 : (60 : Int32).toInt = 60 := (by decide); omega
theorem zz_a5fc18b2b3 {a1 a2 : Int32} (h0 : (0 ≤ a1) ∧ (a1 ≤ 60)) (h1 : 0 ≤ a2) : ((0 ≤ a2) ∧ (a1 ≤ 64)) ∨ (a1 ≤ a2) := by simp only [Int32.le_iff_toInt_le, Int32.lt_iff_toInt_lt, ← Int32.toInt_inj, ne_eq] at *; have l0 : (0 : Int32).toInt = 0 := (by decide); have l1 : (60 : Int32).toInt = 60 := (by decide); have l2 : (64 : Int32).toInt = 64 := (by decide); omega
theorem zz_fea7952e9e {a1 : Int32} (h0 : a1 ≤ 61) : a1 ≤ 64 := by simp only [Int32.le_iff_toInt_le, Int32.lt_iff_toInt_lt, ← Int32.toInt_inj, ne_eq] at *; have l0 : (61 : Int32).toInt = 61 := (by decide); have l1 : (64 : Int32).toInt = 64 := (by decide); omega
theorem zz_2c9995bf07 {a1 a2 : Int32} (h0 : a1 < a2) : ((0 ≤ a2) ∧ (a1 ≤ 64)) ∨ (a1 ≤ a2) := by simp only [Int32.le_iff_toInt_le, Int32.lt_iff_toInt_lt, ← Int32.toInt_inj, ne_eq] at *; have l0 : (0 : Int32).toInt = 0 := (by decide); have l1 : (64 : Int32).toInt = 64 := (by decide); omega
theorem zz_98b8d47b41 {a1 a2 : Int32} (h0 : a1 = a2) (h1 : (0 ≤ a2) ∧ (a2 ≤ 259)) : 0 ≤ a1 := by simp only [Int32.le_iff_toInt_le, Int32.lt_iff_toInt_lt, ← Int32.toInt_inj, ne_eq] at *; have l0 : (0 : Int32).toInt = 0 := (by decide); have l1 : (259 : Int32).toInt = 259 := (by decide); omega
theorem zz_0207a730fe {a1 a2 a3 a4 a5 : Int32} (h0 : a1 ≤ 61) (h1 : a2 ≤ (if a3 = 0 then 62 else a1)) (h2 : a4 ≤ a2 + 1) (h3 : a5 = 0) (h4 : ¬ (a3 = 0)) (h5 : -100000 ≤ a2) (h6 : a2 ≤ 100000) : a4 ≤ (if a5 = 0 then 62 else a1) := by split at h1 <;> split <;> (simp only [Int32.le_iff_toInt_le, Int32.lt_iff_toInt_lt, ← Int32.toInt_inj, ne_eq] at *; have b0 := Int32.le_toInt a2; have c0 := Int32.toInt_lt a2; have l0 : (61 : Int32).toInt = 61 := (by decide); have l1 : (0 : Int32).toInt = 0 := (by decide); have l2 : (62 : Int32).toInt = 62 := (by decide); have l3 : (1 : Int32).toInt = 1 := (by decide); have l4 : (-100000 : Int32).toInt = -100000 := (by decide); have l5 : (100000 : Int32).toInt = 100000 := (by decide); have s0 : (a2 + 1).toInt = a2.toInt + 1 := q_tA (by decide) (by omega) (by omega); omega)
theorem zz_5e659a2bf9 {a1 a2 : Int32} (h0 : a1 < a2) (h1 : a2 = a1) (h2 : (0 ≤ a1) ∧ (a1 ≤ 60)) : 0 ≤ a1 + 1 := by simp only [Int32.le_iff_toInt_le, Int32.lt_iff_toInt_lt, ← Int32.toInt_inj, ne_eq] at *; have b0 := Int32.le_toInt a1; have c0 := Int32.toInt_lt a1; have l0 : (0 : Int32).toInt = 0 := (by decide); have l1 : (60 : Int32).toInt = 60 := (by decide); have l2 : (1 : Int32).toInt = 1 := (by decide); have s0 : (a1 + 1).toInt = a1.toInt + 1 := q_tA (by decide) (by omega) (by omega); omega
theorem zz_fe8d3e9321 {a1 a2 : Int32} (h0 : a1 < a2) (h1 : a2 = a1) (h2 : (0 ≤ a1) ∧ (a1 ≤ 60)) : a1 + 1 ≤ 61 := by simp only [Int32.le_iff_toInt_le, Int32.lt_iff_toInt_lt, ← Int32.toInt_inj, ne_eq] at *; have b0 := Int32.le_toInt a1; have c0 := Int32.toInt_lt a1; have l0 : (0 : Int32).toInt = 0 := (by decide); have l1 : (60 : Int32).toInt = 60 := (by decide); have l2 : (1 : Int32).toInt = 1 := (by decide); have l3 : (61 : Int32).toInt = 61 := (by decide); have s0 : (a1 + 1).toInt = a1.toInt + 1 := q_tA (by decide) (by omega) (by omega); omega
theorem zz_93aaceaf19 {a1 a2 a3 : Int32} (h0 : a1 < a2) (h1 : a2 = a1) (h2 : (0 ≤ a1) ∧ (a1 ≤ 60)) : a3 ≤ (if (0 : Int32) = 0 then 62 else a1 + 1) := by split <;> lia
theorem zz_d0f1e87c68 {a1 a2 : Int32} (h0 : a1 < a2) (h1 : a2 = a1) : a1 < 64 := by simp only [Int32.le_iff_toInt_le, Int32.lt_iff_toInt_lt, ← Int32.toInt_inj, ne_eq] at *; have l0 : (64 : Int32).toInt = 64 := (by decide); omega
theorem zz_6ba27f6fbe {a1 a2 : Int32} (h0 : (0 ≤ a1) ∧ (a1 ≤ 60)) (h1 : a1 < a2) : 0 ≤ a2 := by simp only [Int32.le_iff_toInt_le, Int32.lt_iff_toInt_lt, ← Int32.toInt_inj, ne_eq] at *; have l0 : (0 : Int32).toInt = 0 := (by decide); have l1 : (60 : Int32).toInt = 60 := (by decide); omega
theorem zz_45321cf0b2 {a1 : Int32} (h0 : (-1 ≤ a1) ∧ (a1 ≤ 60)) : a1 ≤ 61 := by simp only [Int32.le_iff_toInt_le, Int32.lt_iff_toInt_lt, ← Int32.toInt_inj, ne_eq] at *; have l0 : (-1 : Int32).toInt = -1 := (by decide); have l1 : (60 : Int32).toInt = 60 := (by decide); have l2 : (61 : Int32).toInt = 61 := (by decide); omega
theorem zz_8c4a80b93e {a1 a2 a3 a4 a5 a6 a7 a8 : Int32} (h0 : (-1 ≤ a1) ∧ (a1 ≤ 60)) (h1 : a2 ≤ (if a3 = 0 then 62 else a4)) (h2 : a5 ≤ a2 + 1) (h3 : (a6 ≠ 0) → ((a4 ≤ a7) ∧ ((a7 ≤ a1) ∧ (a1 ≤ a8)))) (h4 : ¬ (a3 = 0)) (h5 : ¬ (a6 = 0)) (h6 : -100000 ≤ a2) (h7 : a2 ≤ 100000) : a5 ≤ (if (0 : Int32) = 0 then 62 else a1) := by split at h1 <;> split <;> lia
theorem zz_fa2e28328a {a1 a2 a3 a4 : Int32} (h0 : a1 < a2) (h1 : a2 = a1) (h2 : (0 ≤ a1) ∧ (a1 ≤ 60)) : a3 ≤ (if a4 = 0 then 62 else a1 + 1) := by split <;> (simp only [Int32.le_iff_toInt_le, Int32.lt_iff_toInt_lt, ← Int32.toInt_inj, ne_eq] at *; have b0 := Int32.le_toInt a1; have c0 := Int32.toInt_lt a1; have l0 : (0 : Int32).toInt = 0 := (by decide); have l1 : (60 : Int32).toInt = 60 := (by decide); have l2 : (62 : Int32).toInt = 62 := (by decide); have l3 : (1 : Int32).toInt = 1 := (by decide); have s0 : (a1 + 1).toInt = a1.toInt + 1 := q_tA (by decide) (by omega) (by omega); omega)
theorem zz_bd303b1c25 {a1 a2 a3 a4 a5 a6 a7 a8 : Int32} (h0 : a1 ≤ (if a2 = 0 then 62 else a3)) (h1 : a4 ≤ a1 + 1) (h2 : (a5 ≠ 0) → ((a3 ≤ a6) ∧ ((a6 ≤ a7) ∧ (a7 ≤ a8)))) (h3 : ¬ (a5 = 0)) (h4 : a6 < a7) (h5 : ¬ (a2 = 0)) (h6 : -100000 ≤ a1) (h7 : a1 ≤ 100000) : a4 ≤ (if a5 = 0 then 62 else a7) := by split at h0 <;> split <;> (simp only [Int32.le_iff_toInt_le, Int32.lt_iff_toInt_lt, ← Int32.toInt_inj, ne_eq] at *; have b0 := Int32.le_toInt a1; have c0 := Int32.toInt_lt a1; have l0 : (0 : Int32).toInt = 0 := (by decide); have l1 : (62 : Int32).toInt = 62 := (by decide); have l2 : (1 : Int32).toInt = 1 := (by decide); have l3 : (-100000 : Int32).toInt = -100000 := (by decide); have l4 : (100000 : Int32).toInt = 100000 := (by decide); have s0 : (a1 + 1).toInt = a1.toInt + 1 := q_tA (by decide) (by omega) (by omega); omega)
theorem zz_f4aca22df7 {a1 a2 : Int32} (h0 : ¬ (a1 < a2)) : ((0 ≤ a1) ∧ (a2 ≤ 64)) ∨ (a2 ≤ a1) := by simp only [Int32.le_iff_toInt_le, Int32.lt_iff_toInt_lt, ← Int32.toInt_inj, ne_eq] at *; have l0 : (0 : Int32).toInt = 0 := (by decide); have l1 : (64 : Int32).toInt = 64 := (by decide); omega
theorem zz_baade19237 {a1 : Int32} (h0 : (0 ≤ a1) ∧ (a1 ≤ 60)) : 0 ≤ a1 + 1 := by simp only [Int32.le_iff_toInt_le, Int32.lt_iff_toInt_lt, ← Int32.toInt_inj, ne_eq] at *; have b0 := Int32.le_toInt a1; have c0 := Int32.toInt_lt a1; have l0 : (0 : Int32).toInt = 0 := (by decide); have l1 : (60 : Int32).toInt = 60 := (by decide); have l2 : (1 : Int32).toInt = 1 := (by decide); have s0 : (a1 + 1).toInt = a1.toInt + 1 := q_tA (by decide) (by omega) (by omega); omega
theorem zz_5b264b3c6e {a1 : Int32} (h0 : (0 ≤ a1) ∧ (a1 ≤ 60)) : a1 + 1 ≤ 61 := by simp only [Int32.le_iff_toInt_le, Int32.lt_iff_toInt_lt, ← Int32.toInt_inj, ne_eq] at *; have b0 := Int32.le_toInt a1; have c0 := Int32.toInt_lt a1; have l0 : (0 : Int32).toInt = 0 := (by decide); have l1 : (60 : Int32).toInt = 60 := (by decide); have l2 : (1 : Int32).toInt = 1 := (by decide); have l3 : (61 : Int32).toInt = 61 := (by decide); have s0 : (a1 + 1).toInt = a1.toInt + 1 := q_tA (by decide) (by omega) (by omega); omega
theorem zz_9a39a3dcbf {a1 a2 a3 a4 a5 a6 a7 a8 : Int32} (h0 : a1 ≤ (if a2 = 0 then 62 else a3)) (h1 : a4 ≤ a1 + 1) (h2 : (a5 ≠ 0) → ((a3 ≤ a6) ∧ ((a6 ≤ a7) ∧ (a7 ≤ a8)))) (h3 : ¬ (a5 = 0)) (h4 : ¬ (a2 = 0)) (h5 : -100000 ≤ a1) (h6 : a1 ≤ 100000) (h7 : (0 ≤ a6) ∧ (a6 ≤ 60)) : a4 ≤ (if a5 = 0 then 62 else a6 + 1) := by split at h0 <;> split <;> (simp only [Int32.le_iff_toInt_le, Int32.lt_iff_toInt_lt, ← Int32.toInt_inj, ne_eq] at *; have b0 := Int32.le_toInt a1; have c0 := Int32.toInt_lt a1; have b1 := Int32.le_toInt a6; have c1 := Int32.toInt_lt a6; have l0 : (0 : Int32).toInt = 0 := (by decide); have l1 : (62 : Int32).toInt = 62 := (by decide); have l2 : (1 : Int32).toInt = 1 := (by decide); have l3 : (-100000 : Int32).toInt = -100000 := (by decide); have l4 : (100000 : Int32).toInt = 100000 := (by decide); have l5 : (60 : Int32).toInt = 60 := (by decide); have s0 : (a1 + 1).toInt = a1.toInt + 1 := q_tA (by decide) (by omega) (by omega); have s1 : (a6 + 1).toInt = a6.toInt + 1 := q_tA (by decide) (by omega) (by omega); omega)
theorem zz_4df39e1e3c {a1 : Int32} (h0 : (0 ≤ a1) ∧ (a1 ≤ 60)) : a1 < 64 := by simp only [Int32.le_iff_toInt_le, Int32.lt_iff_toInt_lt, ← Int32.toInt_inj, ne_eq] at *; have l0 : (0 : Int32).toInt = 0 := (by decide); have l1 : (60 : Int32).toInt = 60 := (by decide); have l2 : (64 : Int32).toInt = 64 := (by decide); omega
theorem zz_8f3cb51f6b {a1 a2 a3 a4 a5 : Int32} (h0 : (a1 ≠ 0) → ((a2 ≤ a3) ∧ ((a3 ≤ a4) ∧ (a4 ≤ a5)))) (h1 : (0 ≤ a3) ∧ (a3 ≤ 60)) (h2 : ¬ (a1 = 0)) : 0 ≤ a4 := by simp only [Int32.le_iff_toInt_le, Int32.lt_iff_toInt_lt, ← Int32.toInt_inj, ne_eq] at *; have l0 : (0 : Int32).toInt = 0 := (by decide); have l1 : (60 : Int32).toInt = 60 := (by decide); omega
theorem zz_502dafd128 {a1 a2 a3 a4 a5 a6 : Int32} (h0 : (a1 ≠ 0) → ((a2 ≤ a3) ∧ ((a3 ≤ a4) ∧ (a4 ≤ a5)))) (h1 : ¬ (a1 = 0)) (h2 : ¬ (a3 < a4)) (h3 : ¬ (a4 = a3)) : a6 ≤ (if a1 = 0 then 62 else a4) := by split <;> (simp only [Int32.le_iff_toInt_le, Int32.lt_iff_toInt_lt, ← Int32.toInt_inj, ne_eq] at *; have l0 : (0 : Int32).toInt = 0 := (by decide); have l1 : (62 : Int32).toInt = 62 := (by decide); omega)
theorem zz_90afad5304 {a1 a2 a3 a4 a5 : Int32} (h0 : a1 ≤ (if a2 = 0 then 62 else a3)) (h1 : a4 ≤ a1 + 1) (h2 : a3 ≤ 61) (h3 : ¬ (a2 = 0)) (h4 : -100000 ≤ a1) (h5 : a1 ≤ 100000) (h6 : (0 ≤ a5) ∧ (a5 ≤ 60)) : a4 ≤ (if (0 : Int32) = 0 then 62 else a5 + 1) := by split at h0 <;> split <;> lia
theorem zz_b7eb91075e {a1 a2 a3 a4 a5 a6 : Int32} (h0 : a1 ≤ (if a2 = 0 then 62 else a3)) (h1 : a4 ≤ a1 + 1) (h2 : (0 ≤ a5) ∧ (a5 ≤ 60)) (h3 : ¬ (a2 = 0)) (h4 : ¬ (a5 < a3)) (h5 : -100000 ≤ a1) (h6 : a1 ≤ 100000) (h7 : (0 ≤ a6) ∧ (a6 ≤ 60)) : a4 ≤ (if (0 : Int32) = 0 then 62 else a6 + 1) := by split at h0 <;> split <;> lia
theorem zz_f82b965209 {a1 a2 a3 a4 a5 a6 : Int32} (h0 : (a1 ≠ 0) → ((a2 ≤ a3) ∧ ((a3 ≤ a4) ∧ (a4 ≤ a5)))) (h1 : ¬ (a3 < a4)) (h2 : ¬ (a4 = a3)) (h3 : ¬ (a1 = 0)) : a6 ≤ (if (0 : Int32) = 0 then 62 else a4) := by split <;> lia
set_option maxHeartbeats 4000000 in
theorem p_Mod_substituted_43_n {L : q_L} {W : Nat → Prop} {h0 : z_H} {π : Nat → Nat → Option Nat} {N : Nat} {lo : Nat → Int32} (hqn : q_Q lo 63) : ∀ (n : Nat) (v0 : Nat) (v1 : Int32) (v2 : Int32) (v3 : Int32) (v4 : Int32) (v5 : Int32) (v6 : Int32) (v7 : Int32) (h : z_H), q_U L W h0 π h → q_M L π v0 → (∀ a, v0 ≤ a → a < v0 + 46 → W a) → (0 ≤ v1) → (v1 < 80) → (q_PM h v0 (vA h (v0 + 9) v1)) → (0 ≤ vA h (v0 + 9) v1) → (0 ≤ v2) → (v2 ≤ 61) → (100000 ≤ N) → (lo n ≤ (if v7 = 0 then 62 else v2)) → qk (f_Mod_substituted_43 N  n v0 v1 v2 v3 v4 v5 v6 v7 h) (fun r => q_U L W h0 π r.2 ∧ (∀ a k, ¬ (a = v0 ∧ (k = 6 ∨ k = 76 ∨ k = 69 ∨ k = 67 ∨ k = 54 ∨ k = 55 ∨ k = 56 ∨ k = 57 ∨ k = 65 ∨ k = 73 ∨ k = 74)) → vI r.2 a k = vI h a k) ∧ (∀ a j, 0 ≤ j → ¬ (a = v0 + 36 ∨ a = v0 + 37 ∨ a = v0 + 38 ∨ a = v0 + 41 ∨ a = v0 + 39 ∨ a = v0 + 43) → vA r.2 a j = vA h a j)) := by
  intro n
  induction n with
  | zero => intro v0 v1 v2 v3 v4 v5 v6 v7 h T kv0 wM s0 s1 PM qz p0 p1 hN hms; have hz := hqn.1; exact absurd hms (by grind)
  | succ n ih =>
    intro v0 v1 v2 v3 v4 v5 v6 v7 h T kv0 wM s0 s1 PM qz p0 p1 hN hms
    obtain ⟨hq1, hq2, hq3⟩ := hqn.2 n
    rw [f_Mod_substituted_43]
    refine qk_if (fun cc1 => ?_) (fun cc1 => ?_)
    · skip
      unfold f_Mod_substituted_224
      refine qk_if (fun cc3 => ?_) (fun cc3 => ?_)
      · skip
        refine qk_some ?_
        exact ⟨T, (by clear ih; show ∀ a k, ¬ (a = v0 ∧ (k = 6 ∨ k = 76 ∨ k = 69 ∨ k = 67 ∨ k = 54 ∨ k = 55 ∨ k = 56 ∨ k = 57 ∨ k = 65 ∨ k = 73 ∨ k = 74)) → vI h a k = vI h a k; intro a k n0; rfl), (by clear ih; show ∀ a j, 0 ≤ j → ¬ (a = v0 + 36 ∨ a = v0 + 37 ∨ a = v0 + 38 ∨ a = v0 + 41 ∨ a = v0 + 39 ∨ a = v0 + 43) → vA h a j = vA h a j; intro a j j0 n0; rfl)⟩
      · skip
        refine r_Mo_54 T kv0 ?_
        intro x2i2 ex2i2 lx2i2 ux2i2
        subst ex2i2
        refine qk_if (fun cc4 => ?_) (fun cc4 => ?_)
        · skip
          unfold f_Mod_substituted_248
          refine r_Mo_67 T kv0 ?_
          intro x1i5 ex1i5 lx1i5 ux1i5
          subst ex1i5
          refine qk_if (fun cc6 => ?_) (fun cc6 => ?_)
          · skip
            unfold f_Mod_substituted_283
            refine r_Mo_o T kv0 ?_
            refine c_Mod_full (v0 := v0) T kv0 wM ?_
            intro yr2i7 hr2i7 Tr2i7 gr2i7_0 gr2i7_1 gr2i7_2 gr2i7_3
            dsimp only
            refine qk_zB (by clear ih; first | with_reducible assumption | grind | lia) ?_
            refine qk_some ?_
            exact ⟨Tr2i7, (by clear ih; show ∀ a k, ¬ (a = v0 ∧ (k = 6 ∨ k = 76 ∨ k = 69 ∨ k = 67 ∨ k = 54 ∨ k = 55 ∨ k = 56 ∨ k = 57 ∨ k = 65 ∨ k = 73 ∨ k = 74)) → vI hr2i7 a k = vI h a k; intro a k n0; rw [gr2i7_1 a k (by omega)]), (by clear ih; show ∀ a j, 0 ≤ j → ¬ (a = v0 + 36 ∨ a = v0 + 37 ∨ a = v0 + 38 ∨ a = v0 + 41 ∨ a = v0 + 39 ∨ a = v0 + 43) → vA hr2i7 a j = vA h a j; intro a j j0 n0; rw [gr2i7_2 a j])⟩
          · skip
            refine r_Mo_23 T kv0 ?_
            refine r_Mo_e18 T kv0 s0 s1 ?_
            intro x4i5 ex4i5
            subst ex4i5
            refine qk_if (fun cc8 => ?_) (fun cc8 => ?_)
            · skip
              refine qk_mono (p_Mod_substituted_291 (v0 := v0) (v1 := v1) (v5 := v5) (v8 := 0) T kv0 wM s0 s1 (by show (0 : Int32) ≤ 0; decide) (by show (0 : Int32) ≤ 60; decide) (zz_f3b8a7d9dc cc6) hN) ?_
              rintro ⟨y, hz⟩ ⟨Tz, g0, g1⟩
              try dsimp only at *
              exact ⟨Tz, (by clear ih; show ∀ a k, ¬ (a = v0 ∧ (k = 6 ∨ k = 76 ∨ k = 69 ∨ k = 67 ∨ k = 54 ∨ k = 55 ∨ k = 56 ∨ k = 57 ∨ k = 65 ∨ k = 73 ∨ k = 74)) → vI hz a k = vI h a k; intro a k n0; rw [g0 a k (by omega)]), (by clear ih; show ∀ a j, 0 ≤ j → ¬ (a = v0 + 36 ∨ a = v0 + 37 ∨ a = v0 + 38 ∨ a = v0 + 41 ∨ a = v0 + 39 ∨ a = v0 + 43) → vA hz a j = vA h a j; intro a j j0 n0; rw [g1 a j j0 (by omega)])⟩
            · skip
              refine r_Mo_69 T kv0 ?_
              intro x6i5 ex6i5 lx6i5 ux6i5
              subst ex6i5
              refine r_Mo_67 T kv0 ?_
              intro x7i5 ex7i5 lx7i5 ux7i5
              subst ex7i5
              refine qk_if (fun cc10 => ?_) (fun cc10 => ?_)
              · skip
                refine qk_mono (p_Mod_substituted_291 (v0 := v0) (v1 := v1) (v5 := v5) (v8 := 0) T kv0 wM s0 s1 (by show (0 : Int32) ≤ 0; decide) (by show (0 : Int32) ≤ 60; decide) (zz_f3b8a7d9dc cc6) hN) ?_
                rintro ⟨y, hz⟩ ⟨Tz, g0, g1⟩
                try dsimp only at *
                exact ⟨Tz, (by clear ih; show ∀ a k, ¬ (a = v0 ∧ (k = 6 ∨ k = 76 ∨ k = 69 ∨ k = 67 ∨ k = 54 ∨ k = 55 ∨ k = 56 ∨ k = 57 ∨ k = 65 ∨ k = 73 ∨ k = 74)) → vI hz a k = vI h a k; intro a k n0; rw [g0 a k (by omega)]), (by clear ih; show ∀ a j, 0 ≤ j → ¬ (a = v0 + 36 ∨ a = v0 + 37 ∨ a = v0 + 38 ∨ a = v0 + 41 ∨ a = v0 + 39 ∨ a = v0 + 43) → vA hz a j = vA h a j; intro a j j0 n0; rw [g1 a j j0 (by omega)])⟩
              · skip
                unfold f_Mod_substituted_283
                refine r_Mo_o T kv0 ?_
                refine c_Mod_full (v0 := v0) T kv0 wM ?_
                intro yr2i12 hr2i12 Tr2i12 gr2i12_0 gr2i12_1 gr2i12_2 gr2i12_3
                dsimp only
                refine qk_zB (by clear ih; first | with_reducible assumption | grind | lia) ?_
                refine qk_some ?_
                exact ⟨Tr2i12, (by clear ih; show ∀ a k, ¬ (a = v0 ∧ (k = 6 ∨ k = 76 ∨ k = 69 ∨ k = 67 ∨ k = 54 ∨ k = 55 ∨ k = 56 ∨ k = 57 ∨ k = 65 ∨ k = 73 ∨ k = 74)) → vI hr2i12 a k = vI h a k; intro a k n0; rw [gr2i12_1 a k (by omega)]), (by clear ih; show ∀ a j, 0 ≤ j → ¬ (a = v0 + 36 ∨ a = v0 + 37 ∨ a = v0 + 38 ∨ a = v0 + 41 ∨ a = v0 + 39 ∨ a = v0 + 43) → vA hr2i12 a j = vA h a j; intro a j j0 n0; rw [gr2i12_2 a j])⟩
        · skip
          refine r_Mo_54 T kv0 ?_
          intro x4i2 ex4i2 lx4i2 ux4i2
          subst ex4i2
          refine r_Mo_o T kv0 ?_
          have o13 := g_Mo_54 T kv0
          refine c_Mod_copyOf (v0 := v0) (v1 := v2) (v2 := (vI h v0 54)) T kv0 wM (zz_a5fc18b2b3 o13 p0) (zz_ae34f80434 p0) (zz_fea7952e9e p1) hN ?_
          intro r6i2 Tr6i2 gr6i2_0 gr6i2_1
          unfold f_Mod_substituted_248
          refine r_Mo_67 Tr6i2 kv0 ?_
          intro x1i14 ex1i14 lx1i14 ux1i14
          subst ex1i14
          refine qk_if (fun cc15 => ?_) (fun cc15 => ?_)
          · skip
            unfold f_Mod_substituted_283
            refine r_Mo_o Tr6i2 kv0 ?_
            refine c_Mod_full (v0 := v0) Tr6i2 kv0 wM ?_
            intro yr2i16 hr2i16 Tr2i16 gr2i16_0 gr2i16_1 gr2i16_2 gr2i16_3
            dsimp only
            refine qk_zB (by clear ih; first | with_reducible assumption | grind | lia) ?_
            refine qk_some ?_
            exact ⟨Tr2i16, (by clear ih; show ∀ a k, ¬ (a = v0 ∧ (k = 6 ∨ k = 76 ∨ k = 69 ∨ k = 67 ∨ k = 54 ∨ k = 55 ∨ k = 56 ∨ k = 57 ∨ k = 65 ∨ k = 73 ∨ k = 74)) → vI hr2i16 a k = vI h a k; intro a k n0; rw [gr2i16_1 a k (by omega), gr6i2_0 a k (by omega)]), (by clear ih; show ∀ a j, 0 ≤ j → ¬ (a = v0 + 36 ∨ a = v0 + 37 ∨ a = v0 + 38 ∨ a = v0 + 41 ∨ a = v0 + 39 ∨ a = v0 + 43) → vA hr2i16 a j = vA h a j; intro a j j0 n0; rw [gr2i16_2 a j, gr6i2_1 a j j0 (by omega)])⟩
          · skip
            refine r_Mo_23 Tr6i2 kv0 ?_
            refine r_Mo_e18 Tr6i2 kv0 s0 s1 ?_
            intro x4i14 ex4i14
            have sx4i14 : (vA h (v0 + 18) v1) = x4i14 := (ex4i14.trans (by rw [gr6i2_1 (v0 + 18) v1 s0 (by omega)])).symm
            subst sx4i14
            refine qk_if (fun cc17 => ?_) (fun cc17 => ?_)
            · skip
              refine qk_mono (p_Mod_substituted_291 (v0 := v0) (v1 := v1) (v5 := v5) (v8 := 0) Tr6i2 kv0 wM s0 s1 (by show (0 : Int32) ≤ 0; decide) (by show (0 : Int32) ≤ 60; decide) (zz_f3b8a7d9dc cc15) hN) ?_
              rintro ⟨y, hz⟩ ⟨Tz, g0, g1⟩
              try dsimp only at *
              exact ⟨Tz, (by clear ih; show ∀ a k, ¬ (a = v0 ∧ (k = 6 ∨ k = 76 ∨ k = 69 ∨ k = 67 ∨ k = 54 ∨ k = 55 ∨ k = 56 ∨ k = 57 ∨ k = 65 ∨ k = 73 ∨ k = 74)) → vI hz a k = vI h a k; intro a k n0; rw [g0 a k (by omega), gr6i2_0 a k (by omega)]), (by clear ih; show ∀ a j, 0 ≤ j → ¬ (a = v0 + 36 ∨ a = v0 + 37 ∨ a = v0 + 38 ∨ a = v0 + 41 ∨ a = v0 + 39 ∨ a = v0 + 43) → vA hz a j = vA h a j; intro a j j0 n0; rw [g1 a j j0 (by omega), gr6i2_1 a j j0 (by omega)])⟩
            · skip
              refine r_Mo_69 Tr6i2 kv0 ?_
              intro x6i14 ex6i14 lx6i14 ux6i14
              have sx6i14 : (vI h v0 69) = x6i14 := (ex6i14.trans (by rw [gr6i2_0 v0 69 (by omega)])).symm
              subst sx6i14
              refine r_Mo_67 Tr6i2 kv0 ?_
              intro x7i14 ex7i14 lx7i14 ux7i14
              subst ex7i14
              refine qk_if (fun cc19 => ?_) (fun cc19 => ?_)
              · skip
                refine qk_mono (p_Mod_substituted_291 (v0 := v0) (v1 := v1) (v5 := v5) (v8 := 0) Tr6i2 kv0 wM s0 s1 (by show (0 : Int32) ≤ 0; decide) (by show (0 : Int32) ≤ 60; decide) (zz_f3b8a7d9dc cc15) hN) ?_
                rintro ⟨y, hz⟩ ⟨Tz, g0, g1⟩
                try dsimp only at *
                exact ⟨Tz, (by clear ih; show ∀ a k, ¬ (a = v0 ∧ (k = 6 ∨ k = 76 ∨ k = 69 ∨ k = 67 ∨ k = 54 ∨ k = 55 ∨ k = 56 ∨ k = 57 ∨ k = 65 ∨ k = 73 ∨ k = 74)) → vI hz a k = vI h a k; intro a k n0; rw [g0 a k (by omega), gr6i2_0 a k (by omega)]), (by clear ih; show ∀ a j, 0 ≤ j → ¬ (a = v0 + 36 ∨ a = v0 + 37 ∨ a = v0 + 38 ∨ a = v0 + 41 ∨ a = v0 + 39 ∨ a = v0 + 43) → vA hz a j = vA h a j; intro a j j0 n0; rw [g1 a j j0 (by omega), gr6i2_1 a j j0 (by omega)])⟩
              · skip
                unfold f_Mod_substituted_283
                refine r_Mo_o Tr6i2 kv0 ?_
                refine c_Mod_full (v0 := v0) Tr6i2 kv0 wM ?_
                intro yr2i21 hr2i21 Tr2i21 gr2i21_0 gr2i21_1 gr2i21_2 gr2i21_3
                dsimp only
                refine qk_zB (by clear ih; first | with_reducible assumption | grind | lia) ?_
                refine qk_some ?_
                exact ⟨Tr2i21, (by clear ih; show ∀ a k, ¬ (a = v0 ∧ (k = 6 ∨ k = 76 ∨ k = 69 ∨ k = 67 ∨ k = 54 ∨ k = 55 ∨ k = 56 ∨ k = 57 ∨ k = 65 ∨ k = 73 ∨ k = 74)) → vI hr2i21 a k = vI h a k; intro a k n0; rw [gr2i21_1 a k (by omega), gr6i2_0 a k (by omega)]), (by clear ih; show ∀ a j, 0 ≤ j → ¬ (a = v0 + 36 ∨ a = v0 + 37 ∨ a = v0 + 38 ∨ a = v0 + 41 ∨ a = v0 + 39 ∨ a = v0 + 43) → vA hr2i21 a j = vA h a j; intro a j j0 n0; rw [gr2i21_2 a j, gr6i2_1 a j j0 (by omega)])⟩
    · skip
      refine r_Mo_54 T kv0 ?_
      intro x2 ex2 lx2 ux2
      subst ex2
      refine qk_if (fun cc22 => ?_) (fun cc22 => ?_)
      · skip
        unfold f_Mod_substituted_224
        refine qk_if (fun cc24 => ?_) (fun cc24 => ?_)
        · skip
          refine qk_some ?_
          exact ⟨T, (by clear ih; show ∀ a k, ¬ (a = v0 ∧ (k = 6 ∨ k = 76 ∨ k = 69 ∨ k = 67 ∨ k = 54 ∨ k = 55 ∨ k = 56 ∨ k = 57 ∨ k = 65 ∨ k = 73 ∨ k = 74)) → vI h a k = vI h a k; intro a k n0; rfl), (by clear ih; show ∀ a j, 0 ≤ j → ¬ (a = v0 + 36 ∨ a = v0 + 37 ∨ a = v0 + 38 ∨ a = v0 + 41 ∨ a = v0 + 39 ∨ a = v0 + 43) → vA h a j = vA h a j; intro a j j0 n0; rfl)⟩
        · skip
          refine r_Mo_54 T kv0 ?_
          intro x2i23 ex2i23 lx2i23 ux2i23
          subst ex2i23
          refine qk_if (fun cc25 => ?_) (fun cc25 => ?_)
          · skip
            unfold f_Mod_substituted_248
            refine r_Mo_67 T kv0 ?_
            intro x1i26 ex1i26 lx1i26 ux1i26
            subst ex1i26
            refine qk_if (fun cc27 => ?_) (fun cc27 => ?_)
            · skip
              unfold f_Mod_substituted_283
              refine r_Mo_o T kv0 ?_
              refine c_Mod_full (v0 := v0) T kv0 wM ?_
              intro yr2i28 hr2i28 Tr2i28 gr2i28_0 gr2i28_1 gr2i28_2 gr2i28_3
              dsimp only
              refine qk_zB (by clear ih; first | with_reducible assumption | grind | lia) ?_
              refine qk_some ?_
              exact ⟨Tr2i28, (by clear ih; show ∀ a k, ¬ (a = v0 ∧ (k = 6 ∨ k = 76 ∨ k = 69 ∨ k = 67 ∨ k = 54 ∨ k = 55 ∨ k = 56 ∨ k = 57 ∨ k = 65 ∨ k = 73 ∨ k = 74)) → vI hr2i28 a k = vI h a k; intro a k n0; rw [gr2i28_1 a k (by omega)]), (by clear ih; show ∀ a j, 0 ≤ j → ¬ (a = v0 + 36 ∨ a = v0 + 37 ∨ a = v0 + 38 ∨ a = v0 + 41 ∨ a = v0 + 39 ∨ a = v0 + 43) → vA hr2i28 a j = vA h a j; intro a j j0 n0; rw [gr2i28_2 a j])⟩
            · skip
              refine r_Mo_23 T kv0 ?_
              refine r_Mo_e18 T kv0 s0 s1 ?_
              intro x4i26 ex4i26
              subst ex4i26
              refine qk_if (fun cc29 => ?_) (fun cc29 => ?_)
              · skip
                refine qk_mono (p_Mod_substituted_291 (v0 := v0) (v1 := v1) (v5 := v5) (v8 := 0) T kv0 wM s0 s1 (by show (0 : Int32) ≤ 0; decide) (by show (0 : Int32) ≤ 60; decide) (zz_f3b8a7d9dc cc27) hN) ?_
                rintro ⟨y, hz⟩ ⟨Tz, g0, g1⟩
                try dsimp only at *
                exact ⟨Tz, (by clear ih; show ∀ a k, ¬ (a = v0 ∧ (k = 6 ∨ k = 76 ∨ k = 69 ∨ k = 67 ∨ k = 54 ∨ k = 55 ∨ k = 56 ∨ k = 57 ∨ k = 65 ∨ k = 73 ∨ k = 74)) → vI hz a k = vI h a k; intro a k n0; rw [g0 a k (by omega)]), (by clear ih; show ∀ a j, 0 ≤ j → ¬ (a = v0 + 36 ∨ a = v0 + 37 ∨ a = v0 + 38 ∨ a = v0 + 41 ∨ a = v0 + 39 ∨ a = v0 + 43) → vA hz a j = vA h a j; intro a j j0 n0; rw [g1 a j j0 (by omega)])⟩
              · skip
                refine r_Mo_69 T kv0 ?_
                intro x6i26 ex6i26 lx6i26 ux6i26
                subst ex6i26
                refine r_Mo_67 T kv0 ?_
                intro x7i26 ex7i26 lx7i26 ux7i26
                subst ex7i26
                refine qk_if (fun cc31 => ?_) (fun cc31 => ?_)
                · skip
                  refine qk_mono (p_Mod_substituted_291 (v0 := v0) (v1 := v1) (v5 := v5) (v8 := 0) T kv0 wM s0 s1 (by show (0 : Int32) ≤ 0; decide) (by show (0 : Int32) ≤ 60; decide) (zz_f3b8a7d9dc cc27) hN) ?_
                  rintro ⟨y, hz⟩ ⟨Tz, g0, g1⟩
                  try dsimp only at *
                  exact ⟨Tz, (by clear ih; show ∀ a k, ¬ (a = v0 ∧ (k = 6 ∨ k = 76 ∨ k = 69 ∨ k = 67 ∨ k = 54 ∨ k = 55 ∨ k = 56 ∨ k = 57 ∨ k = 65 ∨ k = 73 ∨ k = 74)) → vI hz a k = vI h a k; intro a k n0; rw [g0 a k (by omega)]), (by clear ih; show ∀ a j, 0 ≤ j → ¬ (a = v0 + 36 ∨ a = v0 + 37 ∨ a = v0 + 38 ∨ a = v0 + 41 ∨ a = v0 + 39 ∨ a = v0 + 43) → vA hz a j = vA h a j; intro a j j0 n0; rw [g1 a j j0 (by omega)])⟩
                · skip
                  unfold f_Mod_substituted_283
                  refine r_Mo_o T kv0 ?_
                  refine c_Mod_full (v0 := v0) T kv0 wM ?_
                  intro yr2i33 hr2i33 Tr2i33 gr2i33_0 gr2i33_1 gr2i33_2 gr2i33_3
                  dsimp only
                  refine qk_zB (by clear ih; first | with_reducible assumption | grind | lia) ?_
                  refine qk_some ?_
                  exact ⟨Tr2i33, (by clear ih; show ∀ a k, ¬ (a = v0 ∧ (k = 6 ∨ k = 76 ∨ k = 69 ∨ k = 67 ∨ k = 54 ∨ k = 55 ∨ k = 56 ∨ k = 57 ∨ k = 65 ∨ k = 73 ∨ k = 74)) → vI hr2i33 a k = vI h a k; intro a k n0; rw [gr2i33_1 a k (by omega)]), (by clear ih; show ∀ a j, 0 ≤ j → ¬ (a = v0 + 36 ∨ a = v0 + 37 ∨ a = v0 + 38 ∨ a = v0 + 41 ∨ a = v0 + 39 ∨ a = v0 + 43) → vA hr2i33 a j = vA h a j; intro a j j0 n0; rw [gr2i33_2 a j])⟩
          · skip
            refine r_Mo_54 T kv0 ?_
            intro x4i23 ex4i23 lx4i23 ux4i23
            subst ex4i23
            refine r_Mo_o T kv0 ?_
            refine c_Mod_copyOf (v0 := v0) (v1 := v2) (v2 := (vI h v0 54)) T kv0 wM (zz_2c9995bf07 cc22) (zz_ae34f80434 p0) (zz_fea7952e9e p1) hN ?_
            intro r6i23 Tr6i23 gr6i23_0 gr6i23_1
            unfold f_Mod_substituted_248
            refine r_Mo_67 Tr6i23 kv0 ?_
            intro x1i34 ex1i34 lx1i34 ux1i34
            subst ex1i34
            refine qk_if (fun cc35 => ?_) (fun cc35 => ?_)
            · skip
              unfold f_Mod_substituted_283
              refine r_Mo_o Tr6i23 kv0 ?_
              refine c_Mod_full (v0 := v0) Tr6i23 kv0 wM ?_
              intro yr2i36 hr2i36 Tr2i36 gr2i36_0 gr2i36_1 gr2i36_2 gr2i36_3
              dsimp only
              refine qk_zB (by clear ih; first | with_reducible assumption | grind | lia) ?_
              refine qk_some ?_
              exact ⟨Tr2i36, (by clear ih; show ∀ a k, ¬ (a = v0 ∧ (k = 6 ∨ k = 76 ∨ k = 69 ∨ k = 67 ∨ k = 54 ∨ k = 55 ∨ k = 56 ∨ k = 57 ∨ k = 65 ∨ k = 73 ∨ k = 74)) → vI hr2i36 a k = vI h a k; intro a k n0; rw [gr2i36_1 a k (by omega), gr6i23_0 a k (by omega)]), (by clear ih; show ∀ a j, 0 ≤ j → ¬ (a = v0 + 36 ∨ a = v0 + 37 ∨ a = v0 + 38 ∨ a = v0 + 41 ∨ a = v0 + 39 ∨ a = v0 + 43) → vA hr2i36 a j = vA h a j; intro a j j0 n0; rw [gr2i36_2 a j, gr6i23_1 a j j0 (by omega)])⟩
            · skip
              refine r_Mo_23 Tr6i23 kv0 ?_
              refine r_Mo_e18 Tr6i23 kv0 s0 s1 ?_
              intro x4i34 ex4i34
              have sx4i34 : (vA h (v0 + 18) v1) = x4i34 := (ex4i34.trans (by rw [gr6i23_1 (v0 + 18) v1 s0 (by omega)])).symm
              subst sx4i34
              refine qk_if (fun cc37 => ?_) (fun cc37 => ?_)
              · skip
                refine qk_mono (p_Mod_substituted_291 (v0 := v0) (v1 := v1) (v5 := v5) (v8 := 0) Tr6i23 kv0 wM s0 s1 (by show (0 : Int32) ≤ 0; decide) (by show (0 : Int32) ≤ 60; decide) (zz_f3b8a7d9dc cc35) hN) ?_
                rintro ⟨y, hz⟩ ⟨Tz, g0, g1⟩
                try dsimp only at *
                exact ⟨Tz, (by clear ih; show ∀ a k, ¬ (a = v0 ∧ (k = 6 ∨ k = 76 ∨ k = 69 ∨ k = 67 ∨ k = 54 ∨ k = 55 ∨ k = 56 ∨ k = 57 ∨ k = 65 ∨ k = 73 ∨ k = 74)) → vI hz a k = vI h a k; intro a k n0; rw [g0 a k (by omega), gr6i23_0 a k (by omega)]), (by clear ih; show ∀ a j, 0 ≤ j → ¬ (a = v0 + 36 ∨ a = v0 + 37 ∨ a = v0 + 38 ∨ a = v0 + 41 ∨ a = v0 + 39 ∨ a = v0 + 43) → vA hz a j = vA h a j; intro a j j0 n0; rw [g1 a j j0 (by omega), gr6i23_1 a j j0 (by omega)])⟩
              · skip
                refine r_Mo_69 Tr6i23 kv0 ?_
                intro x6i34 ex6i34 lx6i34 ux6i34
                have sx6i34 : (vI h v0 69) = x6i34 := (ex6i34.trans (by rw [gr6i23_0 v0 69 (by omega)])).symm
                subst sx6i34
                refine r_Mo_67 Tr6i23 kv0 ?_
                intro x7i34 ex7i34 lx7i34 ux7i34
                subst ex7i34
                refine qk_if (fun cc39 => ?_) (fun cc39 => ?_)
                · skip
                  refine qk_mono (p_Mod_substituted_291 (v0 := v0) (v1 := v1) (v5 := v5) (v8 := 0) Tr6i23 kv0 wM s0 s1 (by show (0 : Int32) ≤ 0; decide) (by show (0 : Int32) ≤ 60; decide) (zz_f3b8a7d9dc cc35) hN) ?_
                  rintro ⟨y, hz⟩ ⟨Tz, g0, g1⟩
                  try dsimp only at *
                  exact ⟨Tz, (by clear ih; show ∀ a k, ¬ (a = v0 ∧ (k = 6 ∨ k = 76 ∨ k = 69 ∨ k = 67 ∨ k = 54 ∨ k = 55 ∨ k = 56 ∨ k = 57 ∨ k = 65 ∨ k = 73 ∨ k = 74)) → vI hz a k = vI h a k; intro a k n0; rw [g0 a k (by omega), gr6i23_0 a k (by omega)]), (by clear ih; show ∀ a j, 0 ≤ j → ¬ (a = v0 + 36 ∨ a = v0 + 37 ∨ a = v0 + 38 ∨ a = v0 + 41 ∨ a = v0 + 39 ∨ a = v0 + 43) → vA hz a j = vA h a j; intro a j j0 n0; rw [g1 a j j0 (by omega), gr6i23_1 a j j0 (by omega)])⟩
                · skip
                  unfold f_Mod_substituted_283
                  refine r_Mo_o Tr6i23 kv0 ?_
                  refine c_Mod_full (v0 := v0) Tr6i23 kv0 wM ?_
                  intro yr2i41 hr2i41 Tr2i41 gr2i41_0 gr2i41_1 gr2i41_2 gr2i41_3
                  dsimp only
                  refine qk_zB (by clear ih; first | with_reducible assumption | grind | lia) ?_
                  refine qk_some ?_
                  exact ⟨Tr2i41, (by clear ih; show ∀ a k, ¬ (a = v0 ∧ (k = 6 ∨ k = 76 ∨ k = 69 ∨ k = 67 ∨ k = 54 ∨ k = 55 ∨ k = 56 ∨ k = 57 ∨ k = 65 ∨ k = 73 ∨ k = 74)) → vI hr2i41 a k = vI h a k; intro a k n0; rw [gr2i41_1 a k (by omega), gr6i23_0 a k (by omega)]), (by clear ih; show ∀ a j, 0 ≤ j → ¬ (a = v0 + 36 ∨ a = v0 + 37 ∨ a = v0 + 38 ∨ a = v0 + 41 ∨ a = v0 + 39 ∨ a = v0 + 43) → vA hr2i41 a j = vA h a j; intro a j j0 n0; rw [gr2i41_2 a j, gr6i23_1 a j j0 (by omega)])⟩
      · skip
        refine r_Mo_14 T kv0 ?_
        refine r_Mo_e9 T kv0 s0 s1 ?_
        intro x5 ex5 lx5 ux5
        subst ex5
        refine r_Mo_o T kv0 ?_
        have o42 := g_Mo_e9 T kv0 v1
        refine c_Mod_find (v0 := v0) (v1 := (vA h (v0 + 9) v1)) (v2 := v2) T kv0 wM (by clear ih; exact PM) lx5 (zz_5ff11b7469 o42) p0 p1 hN ?_
        intro yr7 hr7 Tr7 gr7_0 gr7_1 gr7_2 gr7_3 gr7_4
        dsimp only
        refine qk_bs ?_
        refine qk_if (fun cc43 => ?_) (fun cc43 => ?_)
        · skip
          have o44 : vA hr7 (v0 + 9) v1 = vA h (v0 + 9) v1 := (by rw [gr7_2 (v0 + 9) v1 s0 (by omega)])
          refine qk_mono (ih (v0) (v1) (v2) (v3) (v4) (v5) (v6) ((yr7)) hr7 Tr7 kv0 wM s0 s1 (by clear ih; rw [gr7_2 (v0 + 9) v1 s0 (by omega)]; exact q_PM_run PM qz (fun a j j0 na => by rw [gr7_2 a j j0 (by omega)])) (zz_98b8d47b41 o44 o42) p0 p1 hN (zz_0207a730fe p1 hms hq1 cc43 cc1 hq2 hq3)) ?_
          rintro ⟨y, hz⟩ ⟨Tz, g0, g1⟩
          try dsimp only at *
          exact ⟨Tz, (by clear ih; show ∀ a k, ¬ (a = v0 ∧ (k = 6 ∨ k = 76 ∨ k = 69 ∨ k = 67 ∨ k = 54 ∨ k = 55 ∨ k = 56 ∨ k = 57 ∨ k = 65 ∨ k = 73 ∨ k = 74)) → vI hz a k = vI h a k; intro a k n0; rw [g0 a k (by omega), gr7_1 a k (by omega)]), (by clear ih; show ∀ a j, 0 ≤ j → ¬ (a = v0 + 36 ∨ a = v0 + 37 ∨ a = v0 + 38 ∨ a = v0 + 41 ∨ a = v0 + 39 ∨ a = v0 + 43) → vA hz a j = vA h a j; intro a j j0 n0; rw [g1 a j j0 (by omega), gr7_2 a j j0 (by omega)])⟩
        · skip
          refine r_Mo_56 Tr7 kv0 ?_
          intro x10 ex10 lx10 ux10
          subst ex10
          refine r_Mo_57 Tr7 kv0 ?_
          intro x11 ex11 lx11 ux11
          subst ex11
          refine r_Mo_o Tr7 kv0 ?_
          have o46 := g_Mo_56 Tr7 kv0
          refine c_Mod_copyOf (v0 := v0) (v1 := v2) (v2 := (vI hr7 v0 56)) Tr7 kv0 wM (zz_a5fc18b2b3 o46 p0) (zz_ae34f80434 p0) (zz_fea7952e9e p1) hN ?_
          intro r13 Tr13 gr13_0 gr13_1
          refine qk_if (fun cc47 => ?_) (fun cc47 => ?_)
          · skip
            unfold f_Mod_substituted_114
            refine qk_if (fun cc49 => absurd cc49 (by decide)) (fun _ => ?_)
            refine qk_bs ?_
            unfold f_Mod_substituted_124
            refine qk_if (fun cc51 => absurd cc51 (by decide)) (fun _ => ?_)
            refine qk_if (fun cc52 => ?_) (fun cc52 => ?_)
            · skip
              unfold f_Mod_substituted_152
              refine r_Mo_o Tr13 kv0 ?_
              refine c_Mod_addReplacement (v0 := v0) (v1 := v1) Tr13 kv0 wM s0 s1 (by clear ih; exact q_GS_eq (gr7_4 (zz_36c4603e00 cc43)) (fun j j0 => by rw [gr13_1 (v0 + 37) j j0 (by omega)]) (fun j j0 => by rw [gr13_1 (v0 + 38) j j0 (by omega)]) (by rw [gr13_0 v0 54 (by omega)])) hN ?_
              intro r2i53 Tr2i53 gr2i53_0 gr2i53_1
              refine qk_bs ?_
              refine r_Mo_22 Tr2i53 kv0 ?_
              refine r_Mo_e17 Tr2i53 kv0 s0 s1 ?_
              intro x5i53 ex5i53
              have sx5i53 : (vA h (v0 + 17) v1) = x5i53 := (ex5i53.trans (by rw [gr2i53_1 (v0 + 17) v1 s0 (by omega), gr13_1 (v0 + 17) v1 s0 (by omega), gr7_2 (v0 + 17) v1 s0 (by omega)])).symm
              subst sx5i53
              refine qk_if (fun cc54 => ?_) (fun cc54 => ?_)
              · skip
                unfold f_Mod_substituted_183
                refine qk_if (fun cc56 => ?_) (fun cc56 => ?_)
                · skip
                  refine r_Mo_54 Tr2i53 kv0 ?_
                  intro x2i55 ex2i55 lx2i55 ux2i55
                  have sx2i55 : (vI h v0 54) = x2i55 := (ex2i55.trans (by rw [gr2i53_0 v0 54 (by omega), gr13_0 v0 54 (by omega), gr7_1 v0 54 (by omega)])).symm
                  subst sx2i55
                  refine qk_if (fun cc57 => ?_) (fun cc57 => ?_)
                  · skip
                    unfold f_Mod_substituted_216
                    refine qk_bs ?_
                    have o59 : vA r2i53 (v0 + 9) v1 = vA h (v0 + 9) v1 := (by rw [gr2i53_1 (v0 + 9) v1 s0 (by omega), gr13_1 (v0 + 9) v1 s0 (by omega), gr7_2 (v0 + 9) v1 s0 (by omega)])
                    refine qk_mono (ih (v0) (v1) (((vI hr7 v0 56) + 1)) ((vI hr7 v0 57)) ((v4 + 1)) ((v5 + 1)) (v6) (0) r2i53 Tr2i53 kv0 wM s0 s1 (by clear ih; rw [gr2i53_1 (v0 + 9) v1 s0 (by omega), gr13_1 (v0 + 9) v1 s0 (by omega), gr7_2 (v0 + 9) v1 s0 (by omega)]; exact q_PM_run PM qz (fun a j j0 na => by rw [gr2i53_1 a j j0 (by omega), gr13_1 a j j0 (by omega), gr7_2 a j j0 (by omega)])) (zz_98b8d47b41 o59 o42) (zz_5e659a2bf9 cc47 cc56 o46) (zz_fe8d3e9321 cc47 cc56 o46) hN (zz_93aaceaf19 cc47 cc56 o46)) ?_
                    rintro ⟨y, hz⟩ ⟨Tz, g0, g1⟩
                    try dsimp only at *
                    exact ⟨Tz, (by clear ih; show ∀ a k, ¬ (a = v0 ∧ (k = 6 ∨ k = 76 ∨ k = 69 ∨ k = 67 ∨ k = 54 ∨ k = 55 ∨ k = 56 ∨ k = 57 ∨ k = 65 ∨ k = 73 ∨ k = 74)) → vI hz a k = vI h a k; intro a k n0; rw [g0 a k (by omega), gr2i53_0 a k (by omega), gr13_0 a k (by omega), gr7_1 a k (by omega)]), (by clear ih; show ∀ a j, 0 ≤ j → ¬ (a = v0 + 36 ∨ a = v0 + 37 ∨ a = v0 + 38 ∨ a = v0 + 41 ∨ a = v0 + 39 ∨ a = v0 + 43) → vA hz a j = vA h a j; intro a j j0 n0; rw [g1 a j j0 (by omega), gr2i53_1 a j j0 (by omega), gr13_1 a j j0 (by omega), gr7_2 a j j0 (by omega)])⟩
                  · skip
                    refine r_Mo_51 Tr2i53 kv0 ?_
                    refine r_Mo_e36 Tr2i53 kv0 lx10 (zz_d0f1e87c68 cc47 cc56) ?_
                    intro x5i55 ex5i55
                    have sx5i55 : (vA h (v0 + 36) (vI hr7 v0 56)) = x5i55 := (ex5i55.trans (by rw [gr2i53_1 (v0 + 36) (vI hr7 v0 56) lx10 (by omega), gr13_1 (v0 + 36) (vI hr7 v0 56) lx10 (by omega), gr7_2 (v0 + 36) (vI hr7 v0 56) lx10 (by omega)])).symm
                    subst sx5i55
                    refine r_Mo_o Tr2i53 kv0 ?_
                    refine c_Mod_add (v0 := v0) (v1 := (vA h (v0 + 36) (vI hr7 v0 56))) Tr2i53 kv0 wM ?_
                    intro r7i55 Tr7i55 gr7i55_0 gr7i55_1
                    unfold f_Mod_substituted_216
                    refine qk_bs ?_
                    have o62 : vA r7i55 (v0 + 9) v1 = vA h (v0 + 9) v1 := (by rw [gr7i55_1 (v0 + 9) v1 s0 (by omega), gr2i53_1 (v0 + 9) v1 s0 (by omega), gr13_1 (v0 + 9) v1 s0 (by omega), gr7_2 (v0 + 9) v1 s0 (by omega)])
                    refine qk_mono (ih (v0) (v1) (((vI hr7 v0 56) + 1)) ((vI hr7 v0 57)) ((v4 + 1)) ((v5 + 1)) (v6) (0) r7i55 Tr7i55 kv0 wM s0 s1 (by clear ih; rw [gr7i55_1 (v0 + 9) v1 s0 (by omega), gr2i53_1 (v0 + 9) v1 s0 (by omega), gr13_1 (v0 + 9) v1 s0 (by omega), gr7_2 (v0 + 9) v1 s0 (by omega)]; exact q_PM_run PM qz (fun a j j0 na => by rw [gr7i55_1 a j j0 (by omega), gr2i53_1 a j j0 (by omega), gr13_1 a j j0 (by omega), gr7_2 a j j0 (by omega)])) (zz_98b8d47b41 o62 o42) (zz_5e659a2bf9 cc47 cc56 o46) (zz_fe8d3e9321 cc47 cc56 o46) hN (zz_93aaceaf19 cc47 cc56 o46)) ?_
                    rintro ⟨y, hz⟩ ⟨Tz, g0, g1⟩
                    try dsimp only at *
                    exact ⟨Tz, (by clear ih; show ∀ a k, ¬ (a = v0 ∧ (k = 6 ∨ k = 76 ∨ k = 69 ∨ k = 67 ∨ k = 54 ∨ k = 55 ∨ k = 56 ∨ k = 57 ∨ k = 65 ∨ k = 73 ∨ k = 74)) → vI hz a k = vI h a k; intro a k n0; rw [g0 a k (by omega), gr7i55_0 a k (by omega), gr2i53_0 a k (by omega), gr13_0 a k (by omega), gr7_1 a k (by omega)]), (by clear ih; show ∀ a j, 0 ≤ j → ¬ (a = v0 + 36 ∨ a = v0 + 37 ∨ a = v0 + 38 ∨ a = v0 + 41 ∨ a = v0 + 39 ∨ a = v0 + 43) → vA hz a j = vA h a j; intro a j j0 n0; rw [g1 a j j0 (by omega), gr7i55_1 a j j0 (by omega), gr2i53_1 a j j0 (by omega), gr13_1 a j j0 (by omega), gr7_2 a j j0 (by omega)])⟩
                · skip
                  have o64 : vA r2i53 (v0 + 9) v1 = vA h (v0 + 9) v1 := (by rw [gr2i53_1 (v0 + 9) v1 s0 (by omega), gr13_1 (v0 + 9) v1 s0 (by omega), gr7_2 (v0 + 9) v1 s0 (by omega)])
                  have o65 := g_Mo_57 Tr7 kv0
                  refine qk_mono (ih (v0) (v1) ((vI hr7 v0 57)) ((vI hr7 v0 57)) ((v4 + 1)) ((v5 + 1)) (v6) (0) r2i53 Tr2i53 kv0 wM s0 s1 (by clear ih; rw [gr2i53_1 (v0 + 9) v1 s0 (by omega), gr13_1 (v0 + 9) v1 s0 (by omega), gr7_2 (v0 + 9) v1 s0 (by omega)]; exact q_PM_run PM qz (fun a j j0 na => by rw [gr2i53_1 a j j0 (by omega), gr13_1 a j j0 (by omega), gr7_2 a j j0 (by omega)])) (zz_98b8d47b41 o64 o42) (zz_6ba27f6fbe o46 cc47) (zz_45321cf0b2 o65) hN (zz_8c4a80b93e o65 hms hq1 gr7_3 cc1 cc43 hq2 hq3)) ?_
                  rintro ⟨y, hz⟩ ⟨Tz, g0, g1⟩
                  try dsimp only at *
                  exact ⟨Tz, (by clear ih; show ∀ a k, ¬ (a = v0 ∧ (k = 6 ∨ k = 76 ∨ k = 69 ∨ k = 67 ∨ k = 54 ∨ k = 55 ∨ k = 56 ∨ k = 57 ∨ k = 65 ∨ k = 73 ∨ k = 74)) → vI hz a k = vI h a k; intro a k n0; rw [g0 a k (by omega), gr2i53_0 a k (by omega), gr13_0 a k (by omega), gr7_1 a k (by omega)]), (by clear ih; show ∀ a j, 0 ≤ j → ¬ (a = v0 + 36 ∨ a = v0 + 37 ∨ a = v0 + 38 ∨ a = v0 + 41 ∨ a = v0 + 39 ∨ a = v0 + 43) → vA hz a j = vA h a j; intro a j j0 n0; rw [g1 a j j0 (by omega), gr2i53_1 a j j0 (by omega), gr13_1 a j j0 (by omega), gr7_2 a j j0 (by omega)])⟩
              · skip
                unfold f_Mod_substituted_183
                refine qk_if (fun cc68 => ?_) (fun cc68 => ?_)
                · skip
                  refine r_Mo_54 Tr2i53 kv0 ?_
                  intro x2i67 ex2i67 lx2i67 ux2i67
                  have sx2i67 : (vI h v0 54) = x2i67 := (ex2i67.trans (by rw [gr2i53_0 v0 54 (by omega), gr13_0 v0 54 (by omega), gr7_1 v0 54 (by omega)])).symm
                  subst sx2i67
                  refine qk_if (fun cc69 => ?_) (fun cc69 => ?_)
                  · skip
                    unfold f_Mod_substituted_216
                    refine qk_bs ?_
                    have o71 : vA r2i53 (v0 + 9) v1 = vA h (v0 + 9) v1 := (by rw [gr2i53_1 (v0 + 9) v1 s0 (by omega), gr13_1 (v0 + 9) v1 s0 (by omega), gr7_2 (v0 + 9) v1 s0 (by omega)])
                    refine qk_mono (ih (v0) (v1) (((vI hr7 v0 56) + 1)) ((vI hr7 v0 57)) ((v4 + 1)) ((v5 + 1)) (v6) ((yr7)) r2i53 Tr2i53 kv0 wM s0 s1 (by clear ih; rw [gr2i53_1 (v0 + 9) v1 s0 (by omega), gr13_1 (v0 + 9) v1 s0 (by omega), gr7_2 (v0 + 9) v1 s0 (by omega)]; exact q_PM_run PM qz (fun a j j0 na => by rw [gr2i53_1 a j j0 (by omega), gr13_1 a j j0 (by omega), gr7_2 a j j0 (by omega)])) (zz_98b8d47b41 o71 o42) (zz_5e659a2bf9 cc47 cc68 o46) (zz_fe8d3e9321 cc47 cc68 o46) hN (zz_fa2e28328a cc47 cc68 o46)) ?_
                    rintro ⟨y, hz⟩ ⟨Tz, g0, g1⟩
                    try dsimp only at *
                    exact ⟨Tz, (by clear ih; show ∀ a k, ¬ (a = v0 ∧ (k = 6 ∨ k = 76 ∨ k = 69 ∨ k = 67 ∨ k = 54 ∨ k = 55 ∨ k = 56 ∨ k = 57 ∨ k = 65 ∨ k = 73 ∨ k = 74)) → vI hz a k = vI h a k; intro a k n0; rw [g0 a k (by omega), gr2i53_0 a k (by omega), gr13_0 a k (by omega), gr7_1 a k (by omega)]), (by clear ih; show ∀ a j, 0 ≤ j → ¬ (a = v0 + 36 ∨ a = v0 + 37 ∨ a = v0 + 38 ∨ a = v0 + 41 ∨ a = v0 + 39 ∨ a = v0 + 43) → vA hz a j = vA h a j; intro a j j0 n0; rw [g1 a j j0 (by omega), gr2i53_1 a j j0 (by omega), gr13_1 a j j0 (by omega), gr7_2 a j j0 (by omega)])⟩
                  · skip
                    refine r_Mo_51 Tr2i53 kv0 ?_
                    refine r_Mo_e36 Tr2i53 kv0 lx10 (zz_d0f1e87c68 cc47 cc68) ?_
                    intro x5i67 ex5i67
                    have sx5i67 : (vA h (v0 + 36) (vI hr7 v0 56)) = x5i67 := (ex5i67.trans (by rw [gr2i53_1 (v0 + 36) (vI hr7 v0 56) lx10 (by omega), gr13_1 (v0 + 36) (vI hr7 v0 56) lx10 (by omega), gr7_2 (v0 + 36) (vI hr7 v0 56) lx10 (by omega)])).symm
                    subst sx5i67
                    refine r_Mo_o Tr2i53 kv0 ?_
                    refine c_Mod_add (v0 := v0) (v1 := (vA h (v0 + 36) (vI hr7 v0 56))) Tr2i53 kv0 wM ?_
                    intro r7i67 Tr7i67 gr7i67_0 gr7i67_1
                    unfold f_Mod_substituted_216
                    refine qk_bs ?_
                    have o74 : vA r7i67 (v0 + 9) v1 = vA h (v0 + 9) v1 := (by rw [gr7i67_1 (v0 + 9) v1 s0 (by omega), gr2i53_1 (v0 + 9) v1 s0 (by omega), gr13_1 (v0 + 9) v1 s0 (by omega), gr7_2 (v0 + 9) v1 s0 (by omega)])
                    refine qk_mono (ih (v0) (v1) (((vI hr7 v0 56) + 1)) ((vI hr7 v0 57)) ((v4 + 1)) ((v5 + 1)) (v6) ((yr7)) r7i67 Tr7i67 kv0 wM s0 s1 (by clear ih; rw [gr7i67_1 (v0 + 9) v1 s0 (by omega), gr2i53_1 (v0 + 9) v1 s0 (by omega), gr13_1 (v0 + 9) v1 s0 (by omega), gr7_2 (v0 + 9) v1 s0 (by omega)]; exact q_PM_run PM qz (fun a j j0 na => by rw [gr7i67_1 a j j0 (by omega), gr2i53_1 a j j0 (by omega), gr13_1 a j j0 (by omega), gr7_2 a j j0 (by omega)])) (zz_98b8d47b41 o74 o42) (zz_5e659a2bf9 cc47 cc68 o46) (zz_fe8d3e9321 cc47 cc68 o46) hN (zz_fa2e28328a cc47 cc68 o46)) ?_
                    rintro ⟨y, hz⟩ ⟨Tz, g0, g1⟩
                    try dsimp only at *
                    exact ⟨Tz, (by clear ih; show ∀ a k, ¬ (a = v0 ∧ (k = 6 ∨ k = 76 ∨ k = 69 ∨ k = 67 ∨ k = 54 ∨ k = 55 ∨ k = 56 ∨ k = 57 ∨ k = 65 ∨ k = 73 ∨ k = 74)) → vI hz a k = vI h a k; intro a k n0; rw [g0 a k (by omega), gr7i67_0 a k (by omega), gr2i53_0 a k (by omega), gr13_0 a k (by omega), gr7_1 a k (by omega)]), (by clear ih; show ∀ a j, 0 ≤ j → ¬ (a = v0 + 36 ∨ a = v0 + 37 ∨ a = v0 + 38 ∨ a = v0 + 41 ∨ a = v0 + 39 ∨ a = v0 + 43) → vA hz a j = vA h a j; intro a j j0 n0; rw [g1 a j j0 (by omega), gr7i67_1 a j j0 (by omega), gr2i53_1 a j j0 (by omega), gr13_1 a j j0 (by omega), gr7_2 a j j0 (by omega)])⟩
                · skip
                  have o76 : vA r2i53 (v0 + 9) v1 = vA h (v0 + 9) v1 := (by rw [gr2i53_1 (v0 + 9) v1 s0 (by omega), gr13_1 (v0 + 9) v1 s0 (by omega), gr7_2 (v0 + 9) v1 s0 (by omega)])
                  have o77 := g_Mo_57 Tr7 kv0
                  refine qk_mono (ih (v0) (v1) ((vI hr7 v0 57)) ((vI hr7 v0 57)) ((v4 + 1)) ((v5 + 1)) (v6) ((yr7)) r2i53 Tr2i53 kv0 wM s0 s1 (by clear ih; rw [gr2i53_1 (v0 + 9) v1 s0 (by omega), gr13_1 (v0 + 9) v1 s0 (by omega), gr7_2 (v0 + 9) v1 s0 (by omega)]; exact q_PM_run PM qz (fun a j j0 na => by rw [gr2i53_1 a j j0 (by omega), gr13_1 a j j0 (by omega), gr7_2 a j j0 (by omega)])) (zz_98b8d47b41 o76 o42) (zz_6ba27f6fbe o46 cc47) (zz_45321cf0b2 o77) hN (zz_bd303b1c25 hms hq1 gr7_3 cc43 cc47 cc1 hq2 hq3)) ?_
                  rintro ⟨y, hz⟩ ⟨Tz, g0, g1⟩
                  try dsimp only at *
                  exact ⟨Tz, (by clear ih; show ∀ a k, ¬ (a = v0 ∧ (k = 6 ∨ k = 76 ∨ k = 69 ∨ k = 67 ∨ k = 54 ∨ k = 55 ∨ k = 56 ∨ k = 57 ∨ k = 65 ∨ k = 73 ∨ k = 74)) → vI hz a k = vI h a k; intro a k n0; rw [g0 a k (by omega), gr2i53_0 a k (by omega), gr13_0 a k (by omega), gr7_1 a k (by omega)]), (by clear ih; show ∀ a j, 0 ≤ j → ¬ (a = v0 + 36 ∨ a = v0 + 37 ∨ a = v0 + 38 ∨ a = v0 + 41 ∨ a = v0 + 39 ∨ a = v0 + 43) → vA hz a j = vA h a j; intro a j j0 n0; rw [g1 a j j0 (by omega), gr2i53_1 a j j0 (by omega), gr13_1 a j j0 (by omega), gr7_2 a j j0 (by omega)])⟩
            · skip
              refine qk_if (fun cc79 => ?_) (fun cc79 => ?_)
              · skip
                unfold f_Mod_substituted_175
                refine r_Mo_o Tr13 kv0 ?_
                have o81 := g_Mo_57 Tr7 kv0
                refine c_Mod_copyOf (v0 := v0) (v1 := (vI hr7 v0 56)) (v2 := (vI hr7 v0 57)) Tr13 kv0 wM (zz_bcd0b79e5a o46 o81) (zz_9112fa7b53 o46) (zz_4a6edf7fc9 o46) hN ?_
                intro r2i80 Tr2i80 gr2i80_0 gr2i80_1
                unfold f_Mod_substituted_183
                refine qk_if (fun cc83 => ?_) (fun cc83 => ?_)
                · skip
                  refine r_Mo_54 Tr2i80 kv0 ?_
                  intro x2i82 ex2i82 lx2i82 ux2i82
                  have sx2i82 : (vI h v0 54) = x2i82 := (ex2i82.trans (by rw [gr2i80_0 v0 54 (by omega), gr13_0 v0 54 (by omega), gr7_1 v0 54 (by omega)])).symm
                  subst sx2i82
                  refine qk_if (fun cc84 => ?_) (fun cc84 => ?_)
                  · skip
                    unfold f_Mod_substituted_216
                    refine qk_bs ?_
                    have o86 : vA r2i80 (v0 + 9) v1 = vA h (v0 + 9) v1 := (by rw [gr2i80_1 (v0 + 9) v1 s0 (by omega), gr13_1 (v0 + 9) v1 s0 (by omega), gr7_2 (v0 + 9) v1 s0 (by omega)])
                    refine qk_mono (ih (v0) (v1) (((vI hr7 v0 56) + 1)) ((vI hr7 v0 57)) ((v4 + 1)) (v5) (v6) ((yr7)) r2i80 Tr2i80 kv0 wM s0 s1 (by clear ih; rw [gr2i80_1 (v0 + 9) v1 s0 (by omega), gr13_1 (v0 + 9) v1 s0 (by omega), gr7_2 (v0 + 9) v1 s0 (by omega)]; exact q_PM_run PM qz (fun a j j0 na => by rw [gr2i80_1 a j j0 (by omega), gr13_1 a j j0 (by omega), gr7_2 a j j0 (by omega)])) (zz_98b8d47b41 o86 o42) (zz_5e659a2bf9 cc47 cc83 o46) (zz_fe8d3e9321 cc47 cc83 o46) hN (zz_fa2e28328a cc47 cc83 o46)) ?_
                    rintro ⟨y, hz⟩ ⟨Tz, g0, g1⟩
                    try dsimp only at *
                    exact ⟨Tz, (by clear ih; show ∀ a k, ¬ (a = v0 ∧ (k = 6 ∨ k = 76 ∨ k = 69 ∨ k = 67 ∨ k = 54 ∨ k = 55 ∨ k = 56 ∨ k = 57 ∨ k = 65 ∨ k = 73 ∨ k = 74)) → vI hz a k = vI h a k; intro a k n0; rw [g0 a k (by omega), gr2i80_0 a k (by omega), gr13_0 a k (by omega), gr7_1 a k (by omega)]), (by clear ih; show ∀ a j, 0 ≤ j → ¬ (a = v0 + 36 ∨ a = v0 + 37 ∨ a = v0 + 38 ∨ a = v0 + 41 ∨ a = v0 + 39 ∨ a = v0 + 43) → vA hz a j = vA h a j; intro a j j0 n0; rw [g1 a j j0 (by omega), gr2i80_1 a j j0 (by omega), gr13_1 a j j0 (by omega), gr7_2 a j j0 (by omega)])⟩
                  · skip
                    refine r_Mo_51 Tr2i80 kv0 ?_
                    refine r_Mo_e36 Tr2i80 kv0 lx10 (zz_d0f1e87c68 cc47 cc83) ?_
                    intro x5i82 ex5i82
                    have sx5i82 : (vA h (v0 + 36) (vI hr7 v0 56)) = x5i82 := (ex5i82.trans (by rw [gr2i80_1 (v0 + 36) (vI hr7 v0 56) lx10 (by omega), gr13_1 (v0 + 36) (vI hr7 v0 56) lx10 (by omega), gr7_2 (v0 + 36) (vI hr7 v0 56) lx10 (by omega)])).symm
                    subst sx5i82
                    refine r_Mo_o Tr2i80 kv0 ?_
                    refine c_Mod_add (v0 := v0) (v1 := (vA h (v0 + 36) (vI hr7 v0 56))) Tr2i80 kv0 wM ?_
                    intro r7i82 Tr7i82 gr7i82_0 gr7i82_1
                    unfold f_Mod_substituted_216
                    refine qk_bs ?_
                    have o89 : vA r7i82 (v0 + 9) v1 = vA h (v0 + 9) v1 := (by rw [gr7i82_1 (v0 + 9) v1 s0 (by omega), gr2i80_1 (v0 + 9) v1 s0 (by omega), gr13_1 (v0 + 9) v1 s0 (by omega), gr7_2 (v0 + 9) v1 s0 (by omega)])
                    refine qk_mono (ih (v0) (v1) (((vI hr7 v0 56) + 1)) ((vI hr7 v0 57)) ((v4 + 1)) (v5) (v6) ((yr7)) r7i82 Tr7i82 kv0 wM s0 s1 (by clear ih; rw [gr7i82_1 (v0 + 9) v1 s0 (by omega), gr2i80_1 (v0 + 9) v1 s0 (by omega), gr13_1 (v0 + 9) v1 s0 (by omega), gr7_2 (v0 + 9) v1 s0 (by omega)]; exact q_PM_run PM qz (fun a j j0 na => by rw [gr7i82_1 a j j0 (by omega), gr2i80_1 a j j0 (by omega), gr13_1 a j j0 (by omega), gr7_2 a j j0 (by omega)])) (zz_98b8d47b41 o89 o42) (zz_5e659a2bf9 cc47 cc83 o46) (zz_fe8d3e9321 cc47 cc83 o46) hN (zz_fa2e28328a cc47 cc83 o46)) ?_
                    rintro ⟨y, hz⟩ ⟨Tz, g0, g1⟩
                    try dsimp only at *
                    exact ⟨Tz, (by clear ih; show ∀ a k, ¬ (a = v0 ∧ (k = 6 ∨ k = 76 ∨ k = 69 ∨ k = 67 ∨ k = 54 ∨ k = 55 ∨ k = 56 ∨ k = 57 ∨ k = 65 ∨ k = 73 ∨ k = 74)) → vI hz a k = vI h a k; intro a k n0; rw [g0 a k (by omega), gr7i82_0 a k (by omega), gr2i80_0 a k (by omega), gr13_0 a k (by omega), gr7_1 a k (by omega)]), (by clear ih; show ∀ a j, 0 ≤ j → ¬ (a = v0 + 36 ∨ a = v0 + 37 ∨ a = v0 + 38 ∨ a = v0 + 41 ∨ a = v0 + 39 ∨ a = v0 + 43) → vA hz a j = vA h a j; intro a j j0 n0; rw [g1 a j j0 (by omega), gr7i82_1 a j j0 (by omega), gr2i80_1 a j j0 (by omega), gr13_1 a j j0 (by omega), gr7_2 a j j0 (by omega)])⟩
                · skip
                  have o91 : vA r2i80 (v0 + 9) v1 = vA h (v0 + 9) v1 := (by rw [gr2i80_1 (v0 + 9) v1 s0 (by omega), gr13_1 (v0 + 9) v1 s0 (by omega), gr7_2 (v0 + 9) v1 s0 (by omega)])
                  refine qk_mono (ih (v0) (v1) ((vI hr7 v0 57)) ((vI hr7 v0 57)) ((v4 + 1)) (v5) (v6) ((yr7)) r2i80 Tr2i80 kv0 wM s0 s1 (by clear ih; rw [gr2i80_1 (v0 + 9) v1 s0 (by omega), gr13_1 (v0 + 9) v1 s0 (by omega), gr7_2 (v0 + 9) v1 s0 (by omega)]; exact q_PM_run PM qz (fun a j j0 na => by rw [gr2i80_1 a j j0 (by omega), gr13_1 a j j0 (by omega), gr7_2 a j j0 (by omega)])) (zz_98b8d47b41 o91 o42) (zz_6ba27f6fbe o46 cc47) (zz_45321cf0b2 o81) hN (zz_bd303b1c25 hms hq1 gr7_3 cc43 cc47 cc1 hq2 hq3)) ?_
                  rintro ⟨y, hz⟩ ⟨Tz, g0, g1⟩
                  try dsimp only at *
                  exact ⟨Tz, (by clear ih; show ∀ a k, ¬ (a = v0 ∧ (k = 6 ∨ k = 76 ∨ k = 69 ∨ k = 67 ∨ k = 54 ∨ k = 55 ∨ k = 56 ∨ k = 57 ∨ k = 65 ∨ k = 73 ∨ k = 74)) → vI hz a k = vI h a k; intro a k n0; rw [g0 a k (by omega), gr2i80_0 a k (by omega), gr13_0 a k (by omega), gr7_1 a k (by omega)]), (by clear ih; show ∀ a j, 0 ≤ j → ¬ (a = v0 + 36 ∨ a = v0 + 37 ∨ a = v0 + 38 ∨ a = v0 + 41 ∨ a = v0 + 39 ∨ a = v0 + 43) → vA hz a j = vA h a j; intro a j j0 n0; rw [g1 a j j0 (by omega), gr2i80_1 a j j0 (by omega), gr13_1 a j j0 (by omega), gr7_2 a j j0 (by omega)])⟩
              · skip
                refine r_Mo_22 Tr13 kv0 ?_
                refine r_Mo_e17 Tr13 kv0 s0 s1 ?_
                intro x5i50 ex5i50
                have sx5i50 : (vA h (v0 + 17) v1) = x5i50 := (ex5i50.trans (by rw [gr13_1 (v0 + 17) v1 s0 (by omega), gr7_2 (v0 + 17) v1 s0 (by omega)])).symm
                subst sx5i50
                refine qk_if (fun cc93 => ?_) (fun cc93 => ?_)
                · skip
                  unfold f_Mod_substituted_175
                  refine r_Mo_o Tr13 kv0 ?_
                  have o95 := g_Mo_57 Tr7 kv0
                  refine c_Mod_copyOf (v0 := v0) (v1 := (vI hr7 v0 56)) (v2 := (vI hr7 v0 57)) Tr13 kv0 wM (zz_bcd0b79e5a o46 o95) (zz_9112fa7b53 o46) (zz_4a6edf7fc9 o46) hN ?_
                  intro r2i94 Tr2i94 gr2i94_0 gr2i94_1
                  unfold f_Mod_substituted_183
                  refine qk_if (fun cc97 => ?_) (fun cc97 => ?_)
                  · skip
                    refine r_Mo_54 Tr2i94 kv0 ?_
                    intro x2i96 ex2i96 lx2i96 ux2i96
                    have sx2i96 : (vI h v0 54) = x2i96 := (ex2i96.trans (by rw [gr2i94_0 v0 54 (by omega), gr13_0 v0 54 (by omega), gr7_1 v0 54 (by omega)])).symm
                    subst sx2i96
                    refine qk_if (fun cc98 => ?_) (fun cc98 => ?_)
                    · skip
                      unfold f_Mod_substituted_216
                      refine qk_bs ?_
                      have o100 : vA r2i94 (v0 + 9) v1 = vA h (v0 + 9) v1 := (by rw [gr2i94_1 (v0 + 9) v1 s0 (by omega), gr13_1 (v0 + 9) v1 s0 (by omega), gr7_2 (v0 + 9) v1 s0 (by omega)])
                      refine qk_mono (ih (v0) (v1) (((vI hr7 v0 56) + 1)) ((vI hr7 v0 57)) ((v4 + 1)) (v5) (v6) ((yr7)) r2i94 Tr2i94 kv0 wM s0 s1 (by clear ih; rw [gr2i94_1 (v0 + 9) v1 s0 (by omega), gr13_1 (v0 + 9) v1 s0 (by omega), gr7_2 (v0 + 9) v1 s0 (by omega)]; exact q_PM_run PM qz (fun a j j0 na => by rw [gr2i94_1 a j j0 (by omega), gr13_1 a j j0 (by omega), gr7_2 a j j0 (by omega)])) (zz_98b8d47b41 o100 o42) (zz_5e659a2bf9 cc47 cc97 o46) (zz_fe8d3e9321 cc47 cc97 o46) hN (zz_fa2e28328a cc47 cc97 o46)) ?_
                      rintro ⟨y, hz⟩ ⟨Tz, g0, g1⟩
                      try dsimp only at *
                      exact ⟨Tz, (by clear ih; show ∀ a k, ¬ (a = v0 ∧ (k = 6 ∨ k = 76 ∨ k = 69 ∨ k = 67 ∨ k = 54 ∨ k = 55 ∨ k = 56 ∨ k = 57 ∨ k = 65 ∨ k = 73 ∨ k = 74)) → vI hz a k = vI h a k; intro a k n0; rw [g0 a k (by omega), gr2i94_0 a k (by omega), gr13_0 a k (by omega), gr7_1 a k (by omega)]), (by clear ih; show ∀ a j, 0 ≤ j → ¬ (a = v0 + 36 ∨ a = v0 + 37 ∨ a = v0 + 38 ∨ a = v0 + 41 ∨ a = v0 + 39 ∨ a = v0 + 43) → vA hz a j = vA h a j; intro a j j0 n0; rw [g1 a j j0 (by omega), gr2i94_1 a j j0 (by omega), gr13_1 a j j0 (by omega), gr7_2 a j j0 (by omega)])⟩
                    · skip
                      refine r_Mo_51 Tr2i94 kv0 ?_
                      refine r_Mo_e36 Tr2i94 kv0 lx10 (zz_d0f1e87c68 cc47 cc97) ?_
                      intro x5i96 ex5i96
                      have sx5i96 : (vA h (v0 + 36) (vI hr7 v0 56)) = x5i96 := (ex5i96.trans (by rw [gr2i94_1 (v0 + 36) (vI hr7 v0 56) lx10 (by omega), gr13_1 (v0 + 36) (vI hr7 v0 56) lx10 (by omega), gr7_2 (v0 + 36) (vI hr7 v0 56) lx10 (by omega)])).symm
                      subst sx5i96
                      refine r_Mo_o Tr2i94 kv0 ?_
                      refine c_Mod_add (v0 := v0) (v1 := (vA h (v0 + 36) (vI hr7 v0 56))) Tr2i94 kv0 wM ?_
                      intro r7i96 Tr7i96 gr7i96_0 gr7i96_1
                      unfold f_Mod_substituted_216
                      refine qk_bs ?_
                      have o103 : vA r7i96 (v0 + 9) v1 = vA h (v0 + 9) v1 := (by rw [gr7i96_1 (v0 + 9) v1 s0 (by omega), gr2i94_1 (v0 + 9) v1 s0 (by omega), gr13_1 (v0 + 9) v1 s0 (by omega), gr7_2 (v0 + 9) v1 s0 (by omega)])
                      refine qk_mono (ih (v0) (v1) (((vI hr7 v0 56) + 1)) ((vI hr7 v0 57)) ((v4 + 1)) (v5) (v6) ((yr7)) r7i96 Tr7i96 kv0 wM s0 s1 (by clear ih; rw [gr7i96_1 (v0 + 9) v1 s0 (by omega), gr2i94_1 (v0 + 9) v1 s0 (by omega), gr13_1 (v0 + 9) v1 s0 (by omega), gr7_2 (v0 + 9) v1 s0 (by omega)]; exact q_PM_run PM qz (fun a j j0 na => by rw [gr7i96_1 a j j0 (by omega), gr2i94_1 a j j0 (by omega), gr13_1 a j j0 (by omega), gr7_2 a j j0 (by omega)])) (zz_98b8d47b41 o103 o42) (zz_5e659a2bf9 cc47 cc97 o46) (zz_fe8d3e9321 cc47 cc97 o46) hN (zz_fa2e28328a cc47 cc97 o46)) ?_
                      rintro ⟨y, hz⟩ ⟨Tz, g0, g1⟩
                      try dsimp only at *
                      exact ⟨Tz, (by clear ih; show ∀ a k, ¬ (a = v0 ∧ (k = 6 ∨ k = 76 ∨ k = 69 ∨ k = 67 ∨ k = 54 ∨ k = 55 ∨ k = 56 ∨ k = 57 ∨ k = 65 ∨ k = 73 ∨ k = 74)) → vI hz a k = vI h a k; intro a k n0; rw [g0 a k (by omega), gr7i96_0 a k (by omega), gr2i94_0 a k (by omega), gr13_0 a k (by omega), gr7_1 a k (by omega)]), (by clear ih; show ∀ a j, 0 ≤ j → ¬ (a = v0 + 36 ∨ a = v0 + 37 ∨ a = v0 + 38 ∨ a = v0 + 41 ∨ a = v0 + 39 ∨ a = v0 + 43) → vA hz a j = vA h a j; intro a j j0 n0; rw [g1 a j j0 (by omega), gr7i96_1 a j j0 (by omega), gr2i94_1 a j j0 (by omega), gr13_1 a j j0 (by omega), gr7_2 a j j0 (by omega)])⟩
                  · skip
                    have o105 : vA r2i94 (v0 + 9) v1 = vA h (v0 + 9) v1 := (by rw [gr2i94_1 (v0 + 9) v1 s0 (by omega), gr13_1 (v0 + 9) v1 s0 (by omega), gr7_2 (v0 + 9) v1 s0 (by omega)])
                    refine qk_mono (ih (v0) (v1) ((vI hr7 v0 57)) ((vI hr7 v0 57)) ((v4 + 1)) (v5) (v6) ((yr7)) r2i94 Tr2i94 kv0 wM s0 s1 (by clear ih; rw [gr2i94_1 (v0 + 9) v1 s0 (by omega), gr13_1 (v0 + 9) v1 s0 (by omega), gr7_2 (v0 + 9) v1 s0 (by omega)]; exact q_PM_run PM qz (fun a j j0 na => by rw [gr2i94_1 a j j0 (by omega), gr13_1 a j j0 (by omega), gr7_2 a j j0 (by omega)])) (zz_98b8d47b41 o105 o42) (zz_6ba27f6fbe o46 cc47) (zz_45321cf0b2 o95) hN (zz_bd303b1c25 hms hq1 gr7_3 cc43 cc47 cc1 hq2 hq3)) ?_
                    rintro ⟨y, hz⟩ ⟨Tz, g0, g1⟩
                    try dsimp only at *
                    exact ⟨Tz, (by clear ih; show ∀ a k, ¬ (a = v0 ∧ (k = 6 ∨ k = 76 ∨ k = 69 ∨ k = 67 ∨ k = 54 ∨ k = 55 ∨ k = 56 ∨ k = 57 ∨ k = 65 ∨ k = 73 ∨ k = 74)) → vI hz a k = vI h a k; intro a k n0; rw [g0 a k (by omega), gr2i94_0 a k (by omega), gr13_0 a k (by omega), gr7_1 a k (by omega)]), (by clear ih; show ∀ a j, 0 ≤ j → ¬ (a = v0 + 36 ∨ a = v0 + 37 ∨ a = v0 + 38 ∨ a = v0 + 41 ∨ a = v0 + 39 ∨ a = v0 + 43) → vA hz a j = vA h a j; intro a j j0 n0; rw [g1 a j j0 (by omega), gr2i94_1 a j j0 (by omega), gr13_1 a j j0 (by omega), gr7_2 a j j0 (by omega)])⟩
                · skip
                  unfold f_Mod_substituted_152
                  refine r_Mo_o Tr13 kv0 ?_
                  refine c_Mod_addReplacement (v0 := v0) (v1 := v1) Tr13 kv0 wM s0 s1 (by clear ih; exact q_GS_eq (gr7_4 (zz_36c4603e00 cc43)) (fun j j0 => by rw [gr13_1 (v0 + 37) j j0 (by omega)]) (fun j j0 => by rw [gr13_1 (v0 + 38) j j0 (by omega)]) (by rw [gr13_0 v0 54 (by omega)])) hN ?_
                  intro r2i107 Tr2i107 gr2i107_0 gr2i107_1
                  refine qk_bs ?_
                  refine r_Mo_22 Tr2i107 kv0 ?_
                  refine r_Mo_e17 Tr2i107 kv0 s0 s1 ?_
                  intro x5i107 ex5i107
                  have sx5i107 : (vA h (v0 + 17) v1) = x5i107 := (ex5i107.trans (by rw [gr2i107_1 (v0 + 17) v1 s0 (by omega), gr13_1 (v0 + 17) v1 s0 (by omega), gr7_2 (v0 + 17) v1 s0 (by omega)])).symm
                  subst sx5i107
                  refine qk_if (fun cc108 => ?_) (fun cc108 => ?_)
                  · skip
                    unfold f_Mod_substituted_183
                    refine qk_if (fun cc110 => ?_) (fun cc110 => ?_)
                    · skip
                      refine r_Mo_54 Tr2i107 kv0 ?_
                      intro x2i109 ex2i109 lx2i109 ux2i109
                      have sx2i109 : (vI h v0 54) = x2i109 := (ex2i109.trans (by rw [gr2i107_0 v0 54 (by omega), gr13_0 v0 54 (by omega), gr7_1 v0 54 (by omega)])).symm
                      subst sx2i109
                      refine qk_if (fun cc111 => ?_) (fun cc111 => ?_)
                      · skip
                        unfold f_Mod_substituted_216
                        refine qk_bs ?_
                        have o113 : vA r2i107 (v0 + 9) v1 = vA h (v0 + 9) v1 := (by rw [gr2i107_1 (v0 + 9) v1 s0 (by omega), gr13_1 (v0 + 9) v1 s0 (by omega), gr7_2 (v0 + 9) v1 s0 (by omega)])
                        refine qk_mono (ih (v0) (v1) (((vI hr7 v0 56) + 1)) ((vI hr7 v0 57)) ((v4 + 1)) ((v5 + 1)) (v6) (0) r2i107 Tr2i107 kv0 wM s0 s1 (by clear ih; rw [gr2i107_1 (v0 + 9) v1 s0 (by omega), gr13_1 (v0 + 9) v1 s0 (by omega), gr7_2 (v0 + 9) v1 s0 (by omega)]; exact q_PM_run PM qz (fun a j j0 na => by rw [gr2i107_1 a j j0 (by omega), gr13_1 a j j0 (by omega), gr7_2 a j j0 (by omega)])) (zz_98b8d47b41 o113 o42) (zz_5e659a2bf9 cc47 cc110 o46) (zz_fe8d3e9321 cc47 cc110 o46) hN (zz_93aaceaf19 cc47 cc110 o46)) ?_
                        rintro ⟨y, hz⟩ ⟨Tz, g0, g1⟩
                        try dsimp only at *
                        exact ⟨Tz, (by clear ih; show ∀ a k, ¬ (a = v0 ∧ (k = 6 ∨ k = 76 ∨ k = 69 ∨ k = 67 ∨ k = 54 ∨ k = 55 ∨ k = 56 ∨ k = 57 ∨ k = 65 ∨ k = 73 ∨ k = 74)) → vI hz a k = vI h a k; intro a k n0; rw [g0 a k (by omega), gr2i107_0 a k (by omega), gr13_0 a k (by omega), gr7_1 a k (by omega)]), (by clear ih; show ∀ a j, 0 ≤ j → ¬ (a = v0 + 36 ∨ a = v0 + 37 ∨ a = v0 + 38 ∨ a = v0 + 41 ∨ a = v0 + 39 ∨ a = v0 + 43) → vA hz a j = vA h a j; intro a j j0 n0; rw [g1 a j j0 (by omega), gr2i107_1 a j j0 (by omega), gr13_1 a j j0 (by omega), gr7_2 a j j0 (by omega)])⟩
                      · skip
                        refine r_Mo_51 Tr2i107 kv0 ?_
                        refine r_Mo_e36 Tr2i107 kv0 lx10 (zz_d0f1e87c68 cc47 cc110) ?_
                        intro x5i109 ex5i109
                        have sx5i109 : (vA h (v0 + 36) (vI hr7 v0 56)) = x5i109 := (ex5i109.trans (by rw [gr2i107_1 (v0 + 36) (vI hr7 v0 56) lx10 (by omega), gr13_1 (v0 + 36) (vI hr7 v0 56) lx10 (by omega), gr7_2 (v0 + 36) (vI hr7 v0 56) lx10 (by omega)])).symm
                        subst sx5i109
                        refine r_Mo_o Tr2i107 kv0 ?_
                        refine c_Mod_add (v0 := v0) (v1 := (vA h (v0 + 36) (vI hr7 v0 56))) Tr2i107 kv0 wM ?_
                        intro r7i109 Tr7i109 gr7i109_0 gr7i109_1
                        unfold f_Mod_substituted_216
                        refine qk_bs ?_
                        have o116 : vA r7i109 (v0 + 9) v1 = vA h (v0 + 9) v1 := (by rw [gr7i109_1 (v0 + 9) v1 s0 (by omega), gr2i107_1 (v0 + 9) v1 s0 (by omega), gr13_1 (v0 + 9) v1 s0 (by omega), gr7_2 (v0 + 9) v1 s0 (by omega)])
                        refine qk_mono (ih (v0) (v1) (((vI hr7 v0 56) + 1)) ((vI hr7 v0 57)) ((v4 + 1)) ((v5 + 1)) (v6) (0) r7i109 Tr7i109 kv0 wM s0 s1 (by clear ih; rw [gr7i109_1 (v0 + 9) v1 s0 (by omega), gr2i107_1 (v0 + 9) v1 s0 (by omega), gr13_1 (v0 + 9) v1 s0 (by omega), gr7_2 (v0 + 9) v1 s0 (by omega)]; exact q_PM_run PM qz (fun a j j0 na => by rw [gr7i109_1 a j j0 (by omega), gr2i107_1 a j j0 (by omega), gr13_1 a j j0 (by omega), gr7_2 a j j0 (by omega)])) (zz_98b8d47b41 o116 o42) (zz_5e659a2bf9 cc47 cc110 o46) (zz_fe8d3e9321 cc47 cc110 o46) hN (zz_93aaceaf19 cc47 cc110 o46)) ?_
                        rintro ⟨y, hz⟩ ⟨Tz, g0, g1⟩
                        try dsimp only at *
                        exact ⟨Tz, (by clear ih; show ∀ a k, ¬ (a = v0 ∧ (k = 6 ∨ k = 76 ∨ k = 69 ∨ k = 67 ∨ k = 54 ∨ k = 55 ∨ k = 56 ∨ k = 57 ∨ k = 65 ∨ k = 73 ∨ k = 74)) → vI hz a k = vI h a k; intro a k n0; rw [g0 a k (by omega), gr7i109_0 a k (by omega), gr2i107_0 a k (by omega), gr13_0 a k (by omega), gr7_1 a k (by omega)]), (by clear ih; show ∀ a j, 0 ≤ j → ¬ (a = v0 + 36 ∨ a = v0 + 37 ∨ a = v0 + 38 ∨ a = v0 + 41 ∨ a = v0 + 39 ∨ a = v0 + 43) → vA hz a j = vA h a j; intro a j j0 n0; rw [g1 a j j0 (by omega), gr7i109_1 a j j0 (by omega), gr2i107_1 a j j0 (by omega), gr13_1 a j j0 (by omega), gr7_2 a j j0 (by omega)])⟩
                    · skip
                      have o118 : vA r2i107 (v0 + 9) v1 = vA h (v0 + 9) v1 := (by rw [gr2i107_1 (v0 + 9) v1 s0 (by omega), gr13_1 (v0 + 9) v1 s0 (by omega), gr7_2 (v0 + 9) v1 s0 (by omega)])
                      have o119 := g_Mo_57 Tr7 kv0
                      refine qk_mono (ih (v0) (v1) ((vI hr7 v0 57)) ((vI hr7 v0 57)) ((v4 + 1)) ((v5 + 1)) (v6) (0) r2i107 Tr2i107 kv0 wM s0 s1 (by clear ih; rw [gr2i107_1 (v0 + 9) v1 s0 (by omega), gr13_1 (v0 + 9) v1 s0 (by omega), gr7_2 (v0 + 9) v1 s0 (by omega)]; exact q_PM_run PM qz (fun a j j0 na => by rw [gr2i107_1 a j j0 (by omega), gr13_1 a j j0 (by omega), gr7_2 a j j0 (by omega)])) (zz_98b8d47b41 o118 o42) (zz_6ba27f6fbe o46 cc47) (zz_45321cf0b2 o119) hN (zz_8c4a80b93e o119 hms hq1 gr7_3 cc1 cc43 hq2 hq3)) ?_
                      rintro ⟨y, hz⟩ ⟨Tz, g0, g1⟩
                      try dsimp only at *
                      exact ⟨Tz, (by clear ih; show ∀ a k, ¬ (a = v0 ∧ (k = 6 ∨ k = 76 ∨ k = 69 ∨ k = 67 ∨ k = 54 ∨ k = 55 ∨ k = 56 ∨ k = 57 ∨ k = 65 ∨ k = 73 ∨ k = 74)) → vI hz a k = vI h a k; intro a k n0; rw [g0 a k (by omega), gr2i107_0 a k (by omega), gr13_0 a k (by omega), gr7_1 a k (by omega)]), (by clear ih; show ∀ a j, 0 ≤ j → ¬ (a = v0 + 36 ∨ a = v0 + 37 ∨ a = v0 + 38 ∨ a = v0 + 41 ∨ a = v0 + 39 ∨ a = v0 + 43) → vA hz a j = vA h a j; intro a j j0 n0; rw [g1 a j j0 (by omega), gr2i107_1 a j j0 (by omega), gr13_1 a j j0 (by omega), gr7_2 a j j0 (by omega)])⟩
                  · skip
                    unfold f_Mod_substituted_183
                    refine qk_if (fun cc122 => ?_) (fun cc122 => ?_)
                    · skip
                      refine r_Mo_54 Tr2i107 kv0 ?_
                      intro x2i121 ex2i121 lx2i121 ux2i121
                      have sx2i121 : (vI h v0 54) = x2i121 := (ex2i121.trans (by rw [gr2i107_0 v0 54 (by omega), gr13_0 v0 54 (by omega), gr7_1 v0 54 (by omega)])).symm
                      subst sx2i121
                      refine qk_if (fun cc123 => ?_) (fun cc123 => ?_)
                      · skip
                        unfold f_Mod_substituted_216
                        refine qk_bs ?_
                        have o125 : vA r2i107 (v0 + 9) v1 = vA h (v0 + 9) v1 := (by rw [gr2i107_1 (v0 + 9) v1 s0 (by omega), gr13_1 (v0 + 9) v1 s0 (by omega), gr7_2 (v0 + 9) v1 s0 (by omega)])
                        refine qk_mono (ih (v0) (v1) (((vI hr7 v0 56) + 1)) ((vI hr7 v0 57)) ((v4 + 1)) ((v5 + 1)) (v6) ((yr7)) r2i107 Tr2i107 kv0 wM s0 s1 (by clear ih; rw [gr2i107_1 (v0 + 9) v1 s0 (by omega), gr13_1 (v0 + 9) v1 s0 (by omega), gr7_2 (v0 + 9) v1 s0 (by omega)]; exact q_PM_run PM qz (fun a j j0 na => by rw [gr2i107_1 a j j0 (by omega), gr13_1 a j j0 (by omega), gr7_2 a j j0 (by omega)])) (zz_98b8d47b41 o125 o42) (zz_5e659a2bf9 cc47 cc122 o46) (zz_fe8d3e9321 cc47 cc122 o46) hN (zz_fa2e28328a cc47 cc122 o46)) ?_
                        rintro ⟨y, hz⟩ ⟨Tz, g0, g1⟩
                        try dsimp only at *
                        exact ⟨Tz, (by clear ih; show ∀ a k, ¬ (a = v0 ∧ (k = 6 ∨ k = 76 ∨ k = 69 ∨ k = 67 ∨ k = 54 ∨ k = 55 ∨ k = 56 ∨ k = 57 ∨ k = 65 ∨ k = 73 ∨ k = 74)) → vI hz a k = vI h a k; intro a k n0; rw [g0 a k (by omega), gr2i107_0 a k (by omega), gr13_0 a k (by omega), gr7_1 a k (by omega)]), (by clear ih; show ∀ a j, 0 ≤ j → ¬ (a = v0 + 36 ∨ a = v0 + 37 ∨ a = v0 + 38 ∨ a = v0 + 41 ∨ a = v0 + 39 ∨ a = v0 + 43) → vA hz a j = vA h a j; intro a j j0 n0; rw [g1 a j j0 (by omega), gr2i107_1 a j j0 (by omega), gr13_1 a j j0 (by omega), gr7_2 a j j0 (by omega)])⟩
                      · skip
                        refine r_Mo_51 Tr2i107 kv0 ?_
                        refine r_Mo_e36 Tr2i107 kv0 lx10 (zz_d0f1e87c68 cc47 cc122) ?_
                        intro x5i121 ex5i121
                        have sx5i121 : (vA h (v0 + 36) (vI hr7 v0 56)) = x5i121 := (ex5i121.trans (by rw [gr2i107_1 (v0 + 36) (vI hr7 v0 56) lx10 (by omega), gr13_1 (v0 + 36) (vI hr7 v0 56) lx10 (by omega), gr7_2 (v0 + 36) (vI hr7 v0 56) lx10 (by omega)])).symm
                        subst sx5i121
                        refine r_Mo_o Tr2i107 kv0 ?_
                        refine c_Mod_add (v0 := v0) (v1 := (vA h (v0 + 36) (vI hr7 v0 56))) Tr2i107 kv0 wM ?_
                        intro r7i121 Tr7i121 gr7i121_0 gr7i121_1
                        unfold f_Mod_substituted_216
                        refine qk_bs ?_
                        have o128 : vA r7i121 (v0 + 9) v1 = vA h (v0 + 9) v1 := (by rw [gr7i121_1 (v0 + 9) v1 s0 (by omega), gr2i107_1 (v0 + 9) v1 s0 (by omega), gr13_1 (v0 + 9) v1 s0 (by omega), gr7_2 (v0 + 9) v1 s0 (by omega)])
                        refine qk_mono (ih (v0) (v1) (((vI hr7 v0 56) + 1)) ((vI hr7 v0 57)) ((v4 + 1)) ((v5 + 1)) (v6) ((yr7)) r7i121 Tr7i121 kv0 wM s0 s1 (by clear ih; rw [gr7i121_1 (v0 + 9) v1 s0 (by omega), gr2i107_1 (v0 + 9) v1 s0 (by omega), gr13_1 (v0 + 9) v1 s0 (by omega), gr7_2 (v0 + 9) v1 s0 (by omega)]; exact q_PM_run PM qz (fun a j j0 na => by rw [gr7i121_1 a j j0 (by omega), gr2i107_1 a j j0 (by omega), gr13_1 a j j0 (by omega), gr7_2 a j j0 (by omega)])) (zz_98b8d47b41 o128 o42) (zz_5e659a2bf9 cc47 cc122 o46) (zz_fe8d3e9321 cc47 cc122 o46) hN (zz_fa2e28328a cc47 cc122 o46)) ?_
                        rintro ⟨y, hz⟩ ⟨Tz, g0, g1⟩
                        try dsimp only at *
                        exact ⟨Tz, (by clear ih; show ∀ a k, ¬ (a = v0 ∧ (k = 6 ∨ k = 76 ∨ k = 69 ∨ k = 67 ∨ k = 54 ∨ k = 55 ∨ k = 56 ∨ k = 57 ∨ k = 65 ∨ k = 73 ∨ k = 74)) → vI hz a k = vI h a k; intro a k n0; rw [g0 a k (by omega), gr7i121_0 a k (by omega), gr2i107_0 a k (by omega), gr13_0 a k (by omega), gr7_1 a k (by omega)]), (by clear ih; show ∀ a j, 0 ≤ j → ¬ (a = v0 + 36 ∨ a = v0 + 37 ∨ a = v0 + 38 ∨ a = v0 + 41 ∨ a = v0 + 39 ∨ a = v0 + 43) → vA hz a j = vA h a j; intro a j j0 n0; rw [g1 a j j0 (by omega), gr7i121_1 a j j0 (by omega), gr2i107_1 a j j0 (by omega), gr13_1 a j j0 (by omega), gr7_2 a j j0 (by omega)])⟩
                    · skip
                      have o130 : vA r2i107 (v0 + 9) v1 = vA h (v0 + 9) v1 := (by rw [gr2i107_1 (v0 + 9) v1 s0 (by omega), gr13_1 (v0 + 9) v1 s0 (by omega), gr7_2 (v0 + 9) v1 s0 (by omega)])
                      have o131 := g_Mo_57 Tr7 kv0
                      refine qk_mono (ih (v0) (v1) ((vI hr7 v0 57)) ((vI hr7 v0 57)) ((v4 + 1)) ((v5 + 1)) (v6) ((yr7)) r2i107 Tr2i107 kv0 wM s0 s1 (by clear ih; rw [gr2i107_1 (v0 + 9) v1 s0 (by omega), gr13_1 (v0 + 9) v1 s0 (by omega), gr7_2 (v0 + 9) v1 s0 (by omega)]; exact q_PM_run PM qz (fun a j j0 na => by rw [gr2i107_1 a j j0 (by omega), gr13_1 a j j0 (by omega), gr7_2 a j j0 (by omega)])) (zz_98b8d47b41 o130 o42) (zz_6ba27f6fbe o46 cc47) (zz_45321cf0b2 o131) hN (zz_bd303b1c25 hms hq1 gr7_3 cc43 cc47 cc1 hq2 hq3)) ?_
                      rintro ⟨y, hz⟩ ⟨Tz, g0, g1⟩
                      try dsimp only at *
                      exact ⟨Tz, (by clear ih; show ∀ a k, ¬ (a = v0 ∧ (k = 6 ∨ k = 76 ∨ k = 69 ∨ k = 67 ∨ k = 54 ∨ k = 55 ∨ k = 56 ∨ k = 57 ∨ k = 65 ∨ k = 73 ∨ k = 74)) → vI hz a k = vI h a k; intro a k n0; rw [g0 a k (by omega), gr2i107_0 a k (by omega), gr13_0 a k (by omega), gr7_1 a k (by omega)]), (by clear ih; show ∀ a j, 0 ≤ j → ¬ (a = v0 + 36 ∨ a = v0 + 37 ∨ a = v0 + 38 ∨ a = v0 + 41 ∨ a = v0 + 39 ∨ a = v0 + 43) → vA hz a j = vA h a j; intro a j j0 n0; rw [g1 a j j0 (by omega), gr2i107_1 a j j0 (by omega), gr13_1 a j j0 (by omega), gr7_2 a j j0 (by omega)])⟩
          · skip
            refine qk_if (fun cc133 => ?_) (fun cc133 => ?_)
            · skip
              unfold f_Mod_substituted_114
              refine qk_if (fun _ => ?_) (fun cc135 => absurd (by decide) cc135)
              unfold f_Mod_substituted_124
              refine qk_if (fun _ => ?_) (fun cc137 => absurd (by decide) cc137)
              unfold f_Mod_substituted_175
              refine r_Mo_o Tr13 kv0 ?_
              refine c_Mod_copyOf (v0 := v0) (v1 := (vI hr7 v0 56)) (v2 := (vI hr7 v0 57)) Tr13 kv0 wM (zz_f4aca22df7 cc47) (zz_9112fa7b53 o46) (zz_4a6edf7fc9 o46) hN ?_
              intro r2i138 Tr2i138 gr2i138_0 gr2i138_1
              unfold f_Mod_substituted_183
              refine qk_if (fun cc140 => ?_) (fun cc140 => ?_)
              · skip
                refine r_Mo_54 Tr2i138 kv0 ?_
                intro x2i139 ex2i139 lx2i139 ux2i139
                have sx2i139 : (vI h v0 54) = x2i139 := (ex2i139.trans (by rw [gr2i138_0 v0 54 (by omega), gr13_0 v0 54 (by omega), gr7_1 v0 54 (by omega)])).symm
                subst sx2i139
                refine qk_if (fun cc141 => ?_) (fun cc141 => ?_)
                · skip
                  unfold f_Mod_substituted_216
                  refine qk_bs ?_
                  have o143 : vA r2i138 (v0 + 9) v1 = vA h (v0 + 9) v1 := (by rw [gr2i138_1 (v0 + 9) v1 s0 (by omega), gr13_1 (v0 + 9) v1 s0 (by omega), gr7_2 (v0 + 9) v1 s0 (by omega)])
                  refine qk_mono (ih (v0) (v1) (((vI hr7 v0 56) + 1)) ((vI hr7 v0 57)) (v4) (v5) (v6) ((yr7)) r2i138 Tr2i138 kv0 wM s0 s1 (by clear ih; rw [gr2i138_1 (v0 + 9) v1 s0 (by omega), gr13_1 (v0 + 9) v1 s0 (by omega), gr7_2 (v0 + 9) v1 s0 (by omega)]; exact q_PM_run PM qz (fun a j j0 na => by rw [gr2i138_1 a j j0 (by omega), gr13_1 a j j0 (by omega), gr7_2 a j j0 (by omega)])) (zz_98b8d47b41 o143 o42) (zz_baade19237 o46) (zz_5b264b3c6e o46) hN (zz_9a39a3dcbf hms hq1 gr7_3 cc43 cc1 hq2 hq3 o46)) ?_
                  rintro ⟨y, hz⟩ ⟨Tz, g0, g1⟩
                  try dsimp only at *
                  exact ⟨Tz, (by clear ih; show ∀ a k, ¬ (a = v0 ∧ (k = 6 ∨ k = 76 ∨ k = 69 ∨ k = 67 ∨ k = 54 ∨ k = 55 ∨ k = 56 ∨ k = 57 ∨ k = 65 ∨ k = 73 ∨ k = 74)) → vI hz a k = vI h a k; intro a k n0; rw [g0 a k (by omega), gr2i138_0 a k (by omega), gr13_0 a k (by omega), gr7_1 a k (by omega)]), (by clear ih; show ∀ a j, 0 ≤ j → ¬ (a = v0 + 36 ∨ a = v0 + 37 ∨ a = v0 + 38 ∨ a = v0 + 41 ∨ a = v0 + 39 ∨ a = v0 + 43) → vA hz a j = vA h a j; intro a j j0 n0; rw [g1 a j j0 (by omega), gr2i138_1 a j j0 (by omega), gr13_1 a j j0 (by omega), gr7_2 a j j0 (by omega)])⟩
                · skip
                  refine r_Mo_51 Tr2i138 kv0 ?_
                  refine r_Mo_e36 Tr2i138 kv0 lx10 (zz_4df39e1e3c o46) ?_
                  intro x5i139 ex5i139
                  have sx5i139 : (vA h (v0 + 36) (vI hr7 v0 56)) = x5i139 := (ex5i139.trans (by rw [gr2i138_1 (v0 + 36) (vI hr7 v0 56) lx10 (by omega), gr13_1 (v0 + 36) (vI hr7 v0 56) lx10 (by omega), gr7_2 (v0 + 36) (vI hr7 v0 56) lx10 (by omega)])).symm
                  subst sx5i139
                  refine r_Mo_o Tr2i138 kv0 ?_
                  refine c_Mod_add (v0 := v0) (v1 := (vA h (v0 + 36) (vI hr7 v0 56))) Tr2i138 kv0 wM ?_
                  intro r7i139 Tr7i139 gr7i139_0 gr7i139_1
                  unfold f_Mod_substituted_216
                  refine qk_bs ?_
                  have o146 : vA r7i139 (v0 + 9) v1 = vA h (v0 + 9) v1 := (by rw [gr7i139_1 (v0 + 9) v1 s0 (by omega), gr2i138_1 (v0 + 9) v1 s0 (by omega), gr13_1 (v0 + 9) v1 s0 (by omega), gr7_2 (v0 + 9) v1 s0 (by omega)])
                  refine qk_mono (ih (v0) (v1) (((vI hr7 v0 56) + 1)) ((vI hr7 v0 57)) (v4) (v5) (v6) ((yr7)) r7i139 Tr7i139 kv0 wM s0 s1 (by clear ih; rw [gr7i139_1 (v0 + 9) v1 s0 (by omega), gr2i138_1 (v0 + 9) v1 s0 (by omega), gr13_1 (v0 + 9) v1 s0 (by omega), gr7_2 (v0 + 9) v1 s0 (by omega)]; exact q_PM_run PM qz (fun a j j0 na => by rw [gr7i139_1 a j j0 (by omega), gr2i138_1 a j j0 (by omega), gr13_1 a j j0 (by omega), gr7_2 a j j0 (by omega)])) (zz_98b8d47b41 o146 o42) (zz_baade19237 o46) (zz_5b264b3c6e o46) hN (zz_9a39a3dcbf hms hq1 gr7_3 cc43 cc1 hq2 hq3 o46)) ?_
                  rintro ⟨y, hz⟩ ⟨Tz, g0, g1⟩
                  try dsimp only at *
                  exact ⟨Tz, (by clear ih; show ∀ a k, ¬ (a = v0 ∧ (k = 6 ∨ k = 76 ∨ k = 69 ∨ k = 67 ∨ k = 54 ∨ k = 55 ∨ k = 56 ∨ k = 57 ∨ k = 65 ∨ k = 73 ∨ k = 74)) → vI hz a k = vI h a k; intro a k n0; rw [g0 a k (by omega), gr7i139_0 a k (by omega), gr2i138_0 a k (by omega), gr13_0 a k (by omega), gr7_1 a k (by omega)]), (by clear ih; show ∀ a j, 0 ≤ j → ¬ (a = v0 + 36 ∨ a = v0 + 37 ∨ a = v0 + 38 ∨ a = v0 + 41 ∨ a = v0 + 39 ∨ a = v0 + 43) → vA hz a j = vA h a j; intro a j j0 n0; rw [g1 a j j0 (by omega), gr7i139_1 a j j0 (by omega), gr2i138_1 a j j0 (by omega), gr13_1 a j j0 (by omega), gr7_2 a j j0 (by omega)])⟩
              · skip
                have o148 : vA r2i138 (v0 + 9) v1 = vA h (v0 + 9) v1 := (by rw [gr2i138_1 (v0 + 9) v1 s0 (by omega), gr13_1 (v0 + 9) v1 s0 (by omega), gr7_2 (v0 + 9) v1 s0 (by omega)])
                have o149 := g_Mo_57 Tr7 kv0
                refine qk_mono (ih (v0) (v1) ((vI hr7 v0 57)) ((vI hr7 v0 57)) (v4) (v5) (v6) ((yr7)) r2i138 Tr2i138 kv0 wM s0 s1 (by clear ih; rw [gr2i138_1 (v0 + 9) v1 s0 (by omega), gr13_1 (v0 + 9) v1 s0 (by omega), gr7_2 (v0 + 9) v1 s0 (by omega)]; exact q_PM_run PM qz (fun a j j0 na => by rw [gr2i138_1 a j j0 (by omega), gr13_1 a j j0 (by omega), gr7_2 a j j0 (by omega)])) (zz_98b8d47b41 o148 o42) (zz_8f3cb51f6b gr7_3 o46 cc43) (zz_45321cf0b2 o149) hN (zz_502dafd128 gr7_3 cc43 cc47 cc140)) ?_
                rintro ⟨y, hz⟩ ⟨Tz, g0, g1⟩
                try dsimp only at *
                exact ⟨Tz, (by clear ih; show ∀ a k, ¬ (a = v0 ∧ (k = 6 ∨ k = 76 ∨ k = 69 ∨ k = 67 ∨ k = 54 ∨ k = 55 ∨ k = 56 ∨ k = 57 ∨ k = 65 ∨ k = 73 ∨ k = 74)) → vI hz a k = vI h a k; intro a k n0; rw [g0 a k (by omega), gr2i138_0 a k (by omega), gr13_0 a k (by omega), gr7_1 a k (by omega)]), (by clear ih; show ∀ a j, 0 ≤ j → ¬ (a = v0 + 36 ∨ a = v0 + 37 ∨ a = v0 + 38 ∨ a = v0 + 41 ∨ a = v0 + 39 ∨ a = v0 + 43) → vA hz a j = vA h a j; intro a j j0 n0; rw [g1 a j j0 (by omega), gr2i138_1 a j j0 (by omega), gr13_1 a j j0 (by omega), gr7_2 a j j0 (by omega)])⟩
            · skip
              unfold f_Mod_substituted_114
              refine qk_if (fun cc152 => absurd cc152 (by decide)) (fun _ => ?_)
              refine qk_bs ?_
              unfold f_Mod_substituted_124
              refine qk_if (fun cc154 => absurd cc154 (by decide)) (fun _ => ?_)
              refine qk_if (fun cc155 => ?_) (fun cc155 => ?_)
              · skip
                unfold f_Mod_substituted_152
                refine r_Mo_o Tr13 kv0 ?_
                refine c_Mod_addReplacement (v0 := v0) (v1 := v1) Tr13 kv0 wM s0 s1 (by clear ih; exact q_GS_eq (gr7_4 (zz_36c4603e00 cc43)) (fun j j0 => by rw [gr13_1 (v0 + 37) j j0 (by omega)]) (fun j j0 => by rw [gr13_1 (v0 + 38) j j0 (by omega)]) (by rw [gr13_0 v0 54 (by omega)])) hN ?_
                intro r2i156 Tr2i156 gr2i156_0 gr2i156_1
                refine qk_bs ?_
                refine r_Mo_22 Tr2i156 kv0 ?_
                refine r_Mo_e17 Tr2i156 kv0 s0 s1 ?_
                intro x5i156 ex5i156
                have sx5i156 : (vA h (v0 + 17) v1) = x5i156 := (ex5i156.trans (by rw [gr2i156_1 (v0 + 17) v1 s0 (by omega), gr13_1 (v0 + 17) v1 s0 (by omega), gr7_2 (v0 + 17) v1 s0 (by omega)])).symm
                subst sx5i156
                refine qk_if (fun cc157 => ?_) (fun cc157 => ?_)
                · skip
                  unfold f_Mod_substituted_183
                  refine qk_if (fun cc159 => ?_) (fun cc159 => ?_)
                  · skip
                    refine r_Mo_54 Tr2i156 kv0 ?_
                    intro x2i158 ex2i158 lx2i158 ux2i158
                    have sx2i158 : (vI h v0 54) = x2i158 := (ex2i158.trans (by rw [gr2i156_0 v0 54 (by omega), gr13_0 v0 54 (by omega), gr7_1 v0 54 (by omega)])).symm
                    subst sx2i158
                    refine qk_if (fun cc160 => ?_) (fun cc160 => ?_)
                    · skip
                      unfold f_Mod_substituted_216
                      refine qk_bs ?_
                      have o162 : vA r2i156 (v0 + 9) v1 = vA h (v0 + 9) v1 := (by rw [gr2i156_1 (v0 + 9) v1 s0 (by omega), gr13_1 (v0 + 9) v1 s0 (by omega), gr7_2 (v0 + 9) v1 s0 (by omega)])
                      refine qk_mono (ih (v0) (v1) (((vI hr7 v0 56) + 1)) ((vI hr7 v0 57)) ((v4 + 1)) ((v5 + 1)) (v6) (0) r2i156 Tr2i156 kv0 wM s0 s1 (by clear ih; rw [gr2i156_1 (v0 + 9) v1 s0 (by omega), gr13_1 (v0 + 9) v1 s0 (by omega), gr7_2 (v0 + 9) v1 s0 (by omega)]; exact q_PM_run PM qz (fun a j j0 na => by rw [gr2i156_1 a j j0 (by omega), gr13_1 a j j0 (by omega), gr7_2 a j j0 (by omega)])) (zz_98b8d47b41 o162 o42) (zz_baade19237 o46) (zz_5b264b3c6e o46) hN (zz_90afad5304 hms hq1 p1 cc1 hq2 hq3 o46)) ?_
                      rintro ⟨y, hz⟩ ⟨Tz, g0, g1⟩
                      try dsimp only at *
                      exact ⟨Tz, (by clear ih; show ∀ a k, ¬ (a = v0 ∧ (k = 6 ∨ k = 76 ∨ k = 69 ∨ k = 67 ∨ k = 54 ∨ k = 55 ∨ k = 56 ∨ k = 57 ∨ k = 65 ∨ k = 73 ∨ k = 74)) → vI hz a k = vI h a k; intro a k n0; rw [g0 a k (by omega), gr2i156_0 a k (by omega), gr13_0 a k (by omega), gr7_1 a k (by omega)]), (by clear ih; show ∀ a j, 0 ≤ j → ¬ (a = v0 + 36 ∨ a = v0 + 37 ∨ a = v0 + 38 ∨ a = v0 + 41 ∨ a = v0 + 39 ∨ a = v0 + 43) → vA hz a j = vA h a j; intro a j j0 n0; rw [g1 a j j0 (by omega), gr2i156_1 a j j0 (by omega), gr13_1 a j j0 (by omega), gr7_2 a j j0 (by omega)])⟩
                    · skip
                      refine r_Mo_51 Tr2i156 kv0 ?_
                      refine r_Mo_e36 Tr2i156 kv0 lx10 (zz_4df39e1e3c o46) ?_
                      intro x5i158 ex5i158
                      have sx5i158 : (vA h (v0 + 36) (vI hr7 v0 56)) = x5i158 := (ex5i158.trans (by rw [gr2i156_1 (v0 + 36) (vI hr7 v0 56) lx10 (by omega), gr13_1 (v0 + 36) (vI hr7 v0 56) lx10 (by omega), gr7_2 (v0 + 36) (vI hr7 v0 56) lx10 (by omega)])).symm
                      subst sx5i158
                      refine r_Mo_o Tr2i156 kv0 ?_
                      refine c_Mod_add (v0 := v0) (v1 := (vA h (v0 + 36) (vI hr7 v0 56))) Tr2i156 kv0 wM ?_
                      intro r7i158 Tr7i158 gr7i158_0 gr7i158_1
                      unfold f_Mod_substituted_216
                      refine qk_bs ?_
                      have o165 : vA r7i158 (v0 + 9) v1 = vA h (v0 + 9) v1 := (by rw [gr7i158_1 (v0 + 9) v1 s0 (by omega), gr2i156_1 (v0 + 9) v1 s0 (by omega), gr13_1 (v0 + 9) v1 s0 (by omega), gr7_2 (v0 + 9) v1 s0 (by omega)])
                      have o166 := g_Mo_54 T kv0
                      refine qk_mono (ih (v0) (v1) (((vI hr7 v0 56) + 1)) ((vI hr7 v0 57)) ((v4 + 1)) ((v5 + 1)) (v6) (0) r7i158 Tr7i158 kv0 wM s0 s1 (by clear ih; rw [gr7i158_1 (v0 + 9) v1 s0 (by omega), gr2i156_1 (v0 + 9) v1 s0 (by omega), gr13_1 (v0 + 9) v1 s0 (by omega), gr7_2 (v0 + 9) v1 s0 (by omega)]; exact q_PM_run PM qz (fun a j j0 na => by rw [gr7i158_1 a j j0 (by omega), gr2i156_1 a j j0 (by omega), gr13_1 a j j0 (by omega), gr7_2 a j j0 (by omega)])) (zz_98b8d47b41 o165 o42) (zz_baade19237 o46) (zz_5b264b3c6e o46) hN (zz_b7eb91075e hms hq1 o166 cc1 cc22 hq2 hq3 o46)) ?_
                      rintro ⟨y, hz⟩ ⟨Tz, g0, g1⟩
                      try dsimp only at *
                      exact ⟨Tz, (by clear ih; show ∀ a k, ¬ (a = v0 ∧ (k = 6 ∨ k = 76 ∨ k = 69 ∨ k = 67 ∨ k = 54 ∨ k = 55 ∨ k = 56 ∨ k = 57 ∨ k = 65 ∨ k = 73 ∨ k = 74)) → vI hz a k = vI h a k; intro a k n0; rw [g0 a k (by omega), gr7i158_0 a k (by omega), gr2i156_0 a k (by omega), gr13_0 a k (by omega), gr7_1 a k (by omega)]), (by clear ih; show ∀ a j, 0 ≤ j → ¬ (a = v0 + 36 ∨ a = v0 + 37 ∨ a = v0 + 38 ∨ a = v0 + 41 ∨ a = v0 + 39 ∨ a = v0 + 43) → vA hz a j = vA h a j; intro a j j0 n0; rw [g1 a j j0 (by omega), gr7i158_1 a j j0 (by omega), gr2i156_1 a j j0 (by omega), gr13_1 a j j0 (by omega), gr7_2 a j j0 (by omega)])⟩
                  · skip
                    have o168 : vA r2i156 (v0 + 9) v1 = vA h (v0 + 9) v1 := (by rw [gr2i156_1 (v0 + 9) v1 s0 (by omega), gr13_1 (v0 + 9) v1 s0 (by omega), gr7_2 (v0 + 9) v1 s0 (by omega)])
                    have o169 := g_Mo_57 Tr7 kv0
                    refine qk_mono (ih (v0) (v1) ((vI hr7 v0 57)) ((vI hr7 v0 57)) ((v4 + 1)) ((v5 + 1)) (v6) (0) r2i156 Tr2i156 kv0 wM s0 s1 (by clear ih; rw [gr2i156_1 (v0 + 9) v1 s0 (by omega), gr13_1 (v0 + 9) v1 s0 (by omega), gr7_2 (v0 + 9) v1 s0 (by omega)]; exact q_PM_run PM qz (fun a j j0 na => by rw [gr2i156_1 a j j0 (by omega), gr13_1 a j j0 (by omega), gr7_2 a j j0 (by omega)])) (zz_98b8d47b41 o168 o42) (zz_8f3cb51f6b gr7_3 o46 cc43) (zz_45321cf0b2 o169) hN (zz_f82b965209 gr7_3 cc47 cc159 cc43)) ?_
                    rintro ⟨y, hz⟩ ⟨Tz, g0, g1⟩
                    try dsimp only at *
                    exact ⟨Tz, (by clear ih; show ∀ a k, ¬ (a = v0 ∧ (k = 6 ∨ k = 76 ∨ k = 69 ∨ k = 67 ∨ k = 54 ∨ k = 55 ∨ k = 56 ∨ k = 57 ∨ k = 65 ∨ k = 73 ∨ k = 74)) → vI hz a k = vI h a k; intro a k n0; rw [g0 a k (by omega), gr2i156_0 a k (by omega), gr13_0 a k (by omega), gr7_1 a k (by omega)]), (by clear ih; show ∀ a j, 0 ≤ j → ¬ (a = v0 + 36 ∨ a = v0 + 37 ∨ a = v0 + 38 ∨ a = v0 + 41 ∨ a = v0 + 39 ∨ a = v0 + 43) → vA hz a j = vA h a j; intro a j j0 n0; rw [g1 a j j0 (by omega), gr2i156_1 a j j0 (by omega), gr13_1 a j j0 (by omega), gr7_2 a j j0 (by omega)])⟩
                · skip
                  unfold f_Mod_substituted_183
                  refine qk_if (fun cc172 => ?_) (fun cc172 => ?_)
                  · skip
                    refine r_Mo_54 Tr2i156 kv0 ?_
                    intro x2i171 ex2i171 lx2i171 ux2i171
                    have sx2i171 : (vI h v0 54) = x2i171 := (ex2i171.trans (by rw [gr2i156_0 v0 54 (by omega), gr13_0 v0 54 (by omega), gr7_1 v0 54 (by omega)])).symm
                    subst sx2i171
                    refine qk_if (fun cc173 => ?_) (fun cc173 => ?_)
                    · skip
                      unfold f_Mod_substituted_216
                      refine qk_bs ?_
                      have o175 : vA r2i156 (v0 + 9) v1 = vA h (v0 + 9) v1 := (by rw [gr2i156_1 (v0 + 9) v1 s0 (by omega), gr13_1 (v0 + 9) v1 s0 (by omega), gr7_2 (v0 + 9) v1 s0 (by omega)])
                      refine qk_mono (ih (v0) (v1) (((vI hr7 v0 56) + 1)) ((vI hr7 v0 57)) ((v4 + 1)) ((v5 + 1)) (v6) ((yr7)) r2i156 Tr2i156 kv0 wM s0 s1 (by clear ih; rw [gr2i156_1 (v0 + 9) v1 s0 (by omega), gr13_1 (v0 + 9) v1 s0 (by omega), gr7_2 (v0 + 9) v1 s0 (by omega)]; exact q_PM_run PM qz (fun a j j0 na => by rw [gr2i156_1 a j j0 (by omega), gr13_1 a j j0 (by omega), gr7_2 a j j0 (by omega)])) (zz_98b8d47b41 o175 o42) (zz_baade19237 o46) (zz_5b264b3c6e o46) hN (zz_9a39a3dcbf hms hq1 gr7_3 cc43 cc1 hq2 hq3 o46)) ?_
                      rintro ⟨y, hz⟩ ⟨Tz, g0, g1⟩
                      try dsimp only at *
                      exact ⟨Tz, (by clear ih; show ∀ a k, ¬ (a = v0 ∧ (k = 6 ∨ k = 76 ∨ k = 69 ∨ k = 67 ∨ k = 54 ∨ k = 55 ∨ k = 56 ∨ k = 57 ∨ k = 65 ∨ k = 73 ∨ k = 74)) → vI hz a k = vI h a k; intro a k n0; rw [g0 a k (by omega), gr2i156_0 a k (by omega), gr13_0 a k (by omega), gr7_1 a k (by omega)]), (by clear ih; show ∀ a j, 0 ≤ j → ¬ (a = v0 + 36 ∨ a = v0 + 37 ∨ a = v0 + 38 ∨ a = v0 + 41 ∨ a = v0 + 39 ∨ a = v0 + 43) → vA hz a j = vA h a j; intro a j j0 n0; rw [g1 a j j0 (by omega), gr2i156_1 a j j0 (by omega), gr13_1 a j j0 (by omega), gr7_2 a j j0 (by omega)])⟩
                    · skip
                      refine r_Mo_51 Tr2i156 kv0 ?_
                      refine r_Mo_e36 Tr2i156 kv0 lx10 (zz_4df39e1e3c o46) ?_
                      intro x5i171 ex5i171
                      have sx5i171 : (vA h (v0 + 36) (vI hr7 v0 56)) = x5i171 := (ex5i171.trans (by rw [gr2i156_1 (v0 + 36) (vI hr7 v0 56) lx10 (by omega), gr13_1 (v0 + 36) (vI hr7 v0 56) lx10 (by omega), gr7_2 (v0 + 36) (vI hr7 v0 56) lx10 (by omega)])).symm
                      subst sx5i171
                      refine r_Mo_o Tr2i156 kv0 ?_
                      refine c_Mod_add (v0 := v0) (v1 := (vA h (v0 + 36) (vI hr7 v0 56))) Tr2i156 kv0 wM ?_
                      intro r7i171 Tr7i171 gr7i171_0 gr7i171_1
                      unfold f_Mod_substituted_216
                      refine qk_bs ?_
                      have o178 : vA r7i171 (v0 + 9) v1 = vA h (v0 + 9) v1 := (by rw [gr7i171_1 (v0 + 9) v1 s0 (by omega), gr2i156_1 (v0 + 9) v1 s0 (by omega), gr13_1 (v0 + 9) v1 s0 (by omega), gr7_2 (v0 + 9) v1 s0 (by omega)])
                      refine qk_mono (ih (v0) (v1) (((vI hr7 v0 56) + 1)) ((vI hr7 v0 57)) ((v4 + 1)) ((v5 + 1)) (v6) ((yr7)) r7i171 Tr7i171 kv0 wM s0 s1 (by clear ih; rw [gr7i171_1 (v0 + 9) v1 s0 (by omega), gr2i156_1 (v0 + 9) v1 s0 (by omega), gr13_1 (v0 + 9) v1 s0 (by omega), gr7_2 (v0 + 9) v1 s0 (by omega)]; exact q_PM_run PM qz (fun a j j0 na => by rw [gr7i171_1 a j j0 (by omega), gr2i156_1 a j j0 (by omega), gr13_1 a j j0 (by omega), gr7_2 a j j0 (by omega)])) (zz_98b8d47b41 o178 o42) (zz_baade19237 o46) (zz_5b264b3c6e o46) hN (zz_9a39a3dcbf hms hq1 gr7_3 cc43 cc1 hq2 hq3 o46)) ?_
                      rintro ⟨y, hz⟩ ⟨Tz, g0, g1⟩
                      try dsimp only at *
                      exact ⟨Tz, (by clear ih; show ∀ a k, ¬ (a = v0 ∧ (k = 6 ∨ k = 76 ∨ k = 69 ∨ k = 67 ∨ k = 54 ∨ k = 55 ∨ k = 56 ∨ k = 57 ∨ k = 65 ∨ k = 73 ∨ k = 74)) → vI hz a k = vI h a k; intro a k n0; rw [g0 a k (by omega), gr7i171_0 a k (by omega), gr2i156_0 a k (by omega), gr13_0 a k (by omega), gr7_1 a k (by omega)]), (by clear ih; show ∀ a j, 0 ≤ j → ¬ (a = v0 + 36 ∨ a = v0 + 37 ∨ a = v0 + 38 ∨ a = v0 + 41 ∨ a = v0 + 39 ∨ a = v0 + 43) → vA hz a j = vA h a j; intro a j j0 n0; rw [g1 a j j0 (by omega), gr7i171_1 a j j0 (by omega), gr2i156_1 a j j0 (by omega), gr13_1 a j j0 (by omega), gr7_2 a j j0 (by omega)])⟩
                  · skip
                    have o180 : vA r2i156 (v0 + 9) v1 = vA h (v0 + 9) v1 := (by rw [gr2i156_1 (v0 + 9) v1 s0 (by omega), gr13_1 (v0 + 9) v1 s0 (by omega), gr7_2 (v0 + 9) v1 s0 (by omega)])
                    have o181 := g_Mo_57 Tr7 kv0
                    refine qk_mono (ih (v0) (v1) ((vI hr7 v0 57)) ((vI hr7 v0 57)) ((v4 + 1)) ((v5 + 1)) (v6) ((yr7)) r2i156 Tr2i156 kv0 wM s0 s1 (by clear ih; rw [gr2i156_1 (v0 + 9) v1 s0 (by omega), gr13_1 (v0 + 9) v1 s0 (by omega), gr7_2 (v0 + 9) v1 s0 (by omega)]; exact q_PM_run PM qz (fun a j j0 na => by rw [gr2i156_1 a j j0 (by omega), gr13_1 a j j0 (by omega), gr7_2 a j j0 (by omega)])) (zz_98b8d47b41 o180 o42) (zz_8f3cb51f6b gr7_3 o46 cc43) (zz_45321cf0b2 o181) hN (zz_502dafd128 gr7_3 cc43 cc47 cc172)) ?_
                    rintro ⟨y, hz⟩ ⟨Tz, g0, g1⟩
                    try dsimp only at *
                    exact ⟨Tz, (by clear ih; show ∀ a k, ¬ (a = v0 ∧ (k = 6 ∨ k = 76 ∨ k = 69 ∨ k = 67 ∨ k = 54 ∨ k = 55 ∨ k = 56 ∨ k = 57 ∨ k = 65 ∨ k = 73 ∨ k = 74)) → vI hz a k = vI h a k; intro a k n0; rw [g0 a k (by omega), gr2i156_0 a k (by omega), gr13_0 a k (by omega), gr7_1 a k (by omega)]), (by clear ih; show ∀ a j, 0 ≤ j → ¬ (a = v0 + 36 ∨ a = v0 + 37 ∨ a = v0 + 38 ∨ a = v0 + 41 ∨ a = v0 + 39 ∨ a = v0 + 43) → vA hz a j = vA h a j; intro a j j0 n0; rw [g1 a j j0 (by omega), gr2i156_1 a j j0 (by omega), gr13_1 a j j0 (by omega), gr7_2 a j j0 (by omega)])⟩
              · skip
                refine qk_if (fun cc183 => ?_) (fun cc183 => ?_)
                · skip
                  unfold f_Mod_substituted_175
                  refine r_Mo_o Tr13 kv0 ?_
                  refine c_Mod_copyOf (v0 := v0) (v1 := (vI hr7 v0 56)) (v2 := (vI hr7 v0 57)) Tr13 kv0 wM (zz_f4aca22df7 cc47) (zz_9112fa7b53 o46) (zz_4a6edf7fc9 o46) hN ?_
                  intro r2i184 Tr2i184 gr2i184_0 gr2i184_1
                  unfold f_Mod_substituted_183
                  refine qk_if (fun cc186 => ?_) (fun cc186 => ?_)
                  · skip
                    refine r_Mo_54 Tr2i184 kv0 ?_
                    intro x2i185 ex2i185 lx2i185 ux2i185
                    have sx2i185 : (vI h v0 54) = x2i185 := (ex2i185.trans (by rw [gr2i184_0 v0 54 (by omega), gr13_0 v0 54 (by omega), gr7_1 v0 54 (by omega)])).symm
                    subst sx2i185
                    refine qk_if (fun cc187 => ?_) (fun cc187 => ?_)
                    · skip
                      unfold f_Mod_substituted_216
                      refine qk_bs ?_
                      have o189 : vA r2i184 (v0 + 9) v1 = vA h (v0 + 9) v1 := (by rw [gr2i184_1 (v0 + 9) v1 s0 (by omega), gr13_1 (v0 + 9) v1 s0 (by omega), gr7_2 (v0 + 9) v1 s0 (by omega)])
                      refine qk_mono (ih (v0) (v1) (((vI hr7 v0 56) + 1)) ((vI hr7 v0 57)) ((v4 + 1)) (v5) (v6) ((yr7)) r2i184 Tr2i184 kv0 wM s0 s1 (by clear ih; rw [gr2i184_1 (v0 + 9) v1 s0 (by omega), gr13_1 (v0 + 9) v1 s0 (by omega), gr7_2 (v0 + 9) v1 s0 (by omega)]; exact q_PM_run PM qz (fun a j j0 na => by rw [gr2i184_1 a j j0 (by omega), gr13_1 a j j0 (by omega), gr7_2 a j j0 (by omega)])) (zz_98b8d47b41 o189 o42) (zz_baade19237 o46) (zz_5b264b3c6e o46) hN (zz_9a39a3dcbf hms hq1 gr7_3 cc43 cc1 hq2 hq3 o46)) ?_
                      rintro ⟨y, hz⟩ ⟨Tz, g0, g1⟩
                      try dsimp only at *
                      exact ⟨Tz, (by clear ih; show ∀ a k, ¬ (a = v0 ∧ (k = 6 ∨ k = 76 ∨ k = 69 ∨ k = 67 ∨ k = 54 ∨ k = 55 ∨ k = 56 ∨ k = 57 ∨ k = 65 ∨ k = 73 ∨ k = 74)) → vI hz a k = vI h a k; intro a k n0; rw [g0 a k (by omega), gr2i184_0 a k (by omega), gr13_0 a k (by omega), gr7_1 a k (by omega)]), (by clear ih; show ∀ a j, 0 ≤ j → ¬ (a = v0 + 36 ∨ a = v0 + 37 ∨ a = v0 + 38 ∨ a = v0 + 41 ∨ a = v0 + 39 ∨ a = v0 + 43) → vA hz a j = vA h a j; intro a j j0 n0; rw [g1 a j j0 (by omega), gr2i184_1 a j j0 (by omega), gr13_1 a j j0 (by omega), gr7_2 a j j0 (by omega)])⟩
                    · skip
                      refine r_Mo_51 Tr2i184 kv0 ?_
                      refine r_Mo_e36 Tr2i184 kv0 lx10 (zz_4df39e1e3c o46) ?_
                      intro x5i185 ex5i185
                      have sx5i185 : (vA h (v0 + 36) (vI hr7 v0 56)) = x5i185 := (ex5i185.trans (by rw [gr2i184_1 (v0 + 36) (vI hr7 v0 56) lx10 (by omega), gr13_1 (v0 + 36) (vI hr7 v0 56) lx10 (by omega), gr7_2 (v0 + 36) (vI hr7 v0 56) lx10 (by omega)])).symm
                      subst sx5i185
                      refine r_Mo_o Tr2i184 kv0 ?_
                      refine c_Mod_add (v0 := v0) (v1 := (vA h (v0 + 36) (vI hr7 v0 56))) Tr2i184 kv0 wM ?_
                      intro r7i185 Tr7i185 gr7i185_0 gr7i185_1
                      unfold f_Mod_substituted_216
                      refine qk_bs ?_
                      have o192 : vA r7i185 (v0 + 9) v1 = vA h (v0 + 9) v1 := (by rw [gr7i185_1 (v0 + 9) v1 s0 (by omega), gr2i184_1 (v0 + 9) v1 s0 (by omega), gr13_1 (v0 + 9) v1 s0 (by omega), gr7_2 (v0 + 9) v1 s0 (by omega)])
                      refine qk_mono (ih (v0) (v1) (((vI hr7 v0 56) + 1)) ((vI hr7 v0 57)) ((v4 + 1)) (v5) (v6) ((yr7)) r7i185 Tr7i185 kv0 wM s0 s1 (by clear ih; rw [gr7i185_1 (v0 + 9) v1 s0 (by omega), gr2i184_1 (v0 + 9) v1 s0 (by omega), gr13_1 (v0 + 9) v1 s0 (by omega), gr7_2 (v0 + 9) v1 s0 (by omega)]; exact q_PM_run PM qz (fun a j j0 na => by rw [gr7i185_1 a j j0 (by omega), gr2i184_1 a j j0 (by omega), gr13_1 a j j0 (by omega), gr7_2 a j j0 (by omega)])) (zz_98b8d47b41 o192 o42) (zz_baade19237 o46) (zz_5b264b3c6e o46) hN (zz_9a39a3dcbf hms hq1 gr7_3 cc43 cc1 hq2 hq3 o46)) ?_
                      rintro ⟨y, hz⟩ ⟨Tz, g0, g1⟩
                      try dsimp only at *
                      exact ⟨Tz, (by clear ih; show ∀ a k, ¬ (a = v0 ∧ (k = 6 ∨ k = 76 ∨ k = 69 ∨ k = 67 ∨ k = 54 ∨ k = 55 ∨ k = 56 ∨ k = 57 ∨ k = 65 ∨ k = 73 ∨ k = 74)) → vI hz a k = vI h a k; intro a k n0; rw [g0 a k (by omega), gr7i185_0 a k (by omega), gr2i184_0 a k (by omega), gr13_0 a k (by omega), gr7_1 a k (by omega)]), (by clear ih; show ∀ a j, 0 ≤ j → ¬ (a = v0 + 36 ∨ a = v0 + 37 ∨ a = v0 + 38 ∨ a = v0 + 41 ∨ a = v0 + 39 ∨ a = v0 + 43) → vA hz a j = vA h a j; intro a j j0 n0; rw [g1 a j j0 (by omega), gr7i185_1 a j j0 (by omega), gr2i184_1 a j j0 (by omega), gr13_1 a j j0 (by omega), gr7_2 a j j0 (by omega)])⟩
                  · skip
                    have o194 : vA r2i184 (v0 + 9) v1 = vA h (v0 + 9) v1 := (by rw [gr2i184_1 (v0 + 9) v1 s0 (by omega), gr13_1 (v0 + 9) v1 s0 (by omega), gr7_2 (v0 + 9) v1 s0 (by omega)])
                    have o195 := g_Mo_57 Tr7 kv0
                    refine qk_mono (ih (v0) (v1) ((vI hr7 v0 57)) ((vI hr7 v0 57)) ((v4 + 1)) (v5) (v6) ((yr7)) r2i184 Tr2i184 kv0 wM s0 s1 (by clear ih; rw [gr2i184_1 (v0 + 9) v1 s0 (by omega), gr13_1 (v0 + 9) v1 s0 (by omega), gr7_2 (v0 + 9) v1 s0 (by omega)]; exact q_PM_run PM qz (fun a j j0 na => by rw [gr2i184_1 a j j0 (by omega), gr13_1 a j j0 (by omega), gr7_2 a j j0 (by omega)])) (zz_98b8d47b41 o194 o42) (zz_8f3cb51f6b gr7_3 o46 cc43) (zz_45321cf0b2 o195) hN (zz_502dafd128 gr7_3 cc43 cc47 cc186)) ?_
                    rintro ⟨y, hz⟩ ⟨Tz, g0, g1⟩
                    try dsimp only at *
                    exact ⟨Tz, (by clear ih; show ∀ a k, ¬ (a = v0 ∧ (k = 6 ∨ k = 76 ∨ k = 69 ∨ k = 67 ∨ k = 54 ∨ k = 55 ∨ k = 56 ∨ k = 57 ∨ k = 65 ∨ k = 73 ∨ k = 74)) → vI hz a k = vI h a k; intro a k n0; rw [g0 a k (by omega), gr2i184_0 a k (by omega), gr13_0 a k (by omega), gr7_1 a k (by omega)]), (by clear ih; show ∀ a j, 0 ≤ j → ¬ (a = v0 + 36 ∨ a = v0 + 37 ∨ a = v0 + 38 ∨ a = v0 + 41 ∨ a = v0 + 39 ∨ a = v0 + 43) → vA hz a j = vA h a j; intro a j j0 n0; rw [g1 a j j0 (by omega), gr2i184_1 a j j0 (by omega), gr13_1 a j j0 (by omega), gr7_2 a j j0 (by omega)])⟩
                · skip
                  refine r_Mo_22 Tr13 kv0 ?_
                  refine r_Mo_e17 Tr13 kv0 s0 s1 ?_
                  intro x5i153 ex5i153
                  have sx5i153 : (vA h (v0 + 17) v1) = x5i153 := (ex5i153.trans (by rw [gr13_1 (v0 + 17) v1 s0 (by omega), gr7_2 (v0 + 17) v1 s0 (by omega)])).symm
                  subst sx5i153
                  refine qk_if (fun cc197 => ?_) (fun cc197 => ?_)
                  · skip
                    unfold f_Mod_substituted_175
                    refine r_Mo_o Tr13 kv0 ?_
                    refine c_Mod_copyOf (v0 := v0) (v1 := (vI hr7 v0 56)) (v2 := (vI hr7 v0 57)) Tr13 kv0 wM (zz_f4aca22df7 cc47) (zz_9112fa7b53 o46) (zz_4a6edf7fc9 o46) hN ?_
                    intro r2i198 Tr2i198 gr2i198_0 gr2i198_1
                    unfold f_Mod_substituted_183
                    refine qk_if (fun cc200 => ?_) (fun cc200 => ?_)
                    · skip
                      refine r_Mo_54 Tr2i198 kv0 ?_
                      intro x2i199 ex2i199 lx2i199 ux2i199
                      have sx2i199 : (vI h v0 54) = x2i199 := (ex2i199.trans (by rw [gr2i198_0 v0 54 (by omega), gr13_0 v0 54 (by omega), gr7_1 v0 54 (by omega)])).symm
                      subst sx2i199
                      refine qk_if (fun cc201 => ?_) (fun cc201 => ?_)
                      · skip
                        unfold f_Mod_substituted_216
                        refine qk_bs ?_
                        have o203 : vA r2i198 (v0 + 9) v1 = vA h (v0 + 9) v1 := (by rw [gr2i198_1 (v0 + 9) v1 s0 (by omega), gr13_1 (v0 + 9) v1 s0 (by omega), gr7_2 (v0 + 9) v1 s0 (by omega)])
                        refine qk_mono (ih (v0) (v1) (((vI hr7 v0 56) + 1)) ((vI hr7 v0 57)) ((v4 + 1)) (v5) (v6) ((yr7)) r2i198 Tr2i198 kv0 wM s0 s1 (by clear ih; rw [gr2i198_1 (v0 + 9) v1 s0 (by omega), gr13_1 (v0 + 9) v1 s0 (by omega), gr7_2 (v0 + 9) v1 s0 (by omega)]; exact q_PM_run PM qz (fun a j j0 na => by rw [gr2i198_1 a j j0 (by omega), gr13_1 a j j0 (by omega), gr7_2 a j j0 (by omega)])) (zz_98b8d47b41 o203 o42) (zz_baade19237 o46) (zz_5b264b3c6e o46) hN (zz_9a39a3dcbf hms hq1 gr7_3 cc43 cc1 hq2 hq3 o46)) ?_
                        rintro ⟨y, hz⟩ ⟨Tz, g0, g1⟩
                        try dsimp only at *
                        exact ⟨Tz, (by clear ih; show ∀ a k, ¬ (a = v0 ∧ (k = 6 ∨ k = 76 ∨ k = 69 ∨ k = 67 ∨ k = 54 ∨ k = 55 ∨ k = 56 ∨ k = 57 ∨ k = 65 ∨ k = 73 ∨ k = 74)) → vI hz a k = vI h a k; intro a k n0; rw [g0 a k (by omega), gr2i198_0 a k (by omega), gr13_0 a k (by omega), gr7_1 a k (by omega)]), (by clear ih; show ∀ a j, 0 ≤ j → ¬ (a = v0 + 36 ∨ a = v0 + 37 ∨ a = v0 + 38 ∨ a = v0 + 41 ∨ a = v0 + 39 ∨ a = v0 + 43) → vA hz a j = vA h a j; intro a j j0 n0; rw [g1 a j j0 (by omega), gr2i198_1 a j j0 (by omega), gr13_1 a j j0 (by omega), gr7_2 a j j0 (by omega)])⟩
                      · skip
                        refine r_Mo_51 Tr2i198 kv0 ?_
                        refine r_Mo_e36 Tr2i198 kv0 lx10 (zz_4df39e1e3c o46) ?_
                        intro x5i199 ex5i199
                        have sx5i199 : (vA h (v0 + 36) (vI hr7 v0 56)) = x5i199 := (ex5i199.trans (by rw [gr2i198_1 (v0 + 36) (vI hr7 v0 56) lx10 (by omega), gr13_1 (v0 + 36) (vI hr7 v0 56) lx10 (by omega), gr7_2 (v0 + 36) (vI hr7 v0 56) lx10 (by omega)])).symm
                        subst sx5i199
                        refine r_Mo_o Tr2i198 kv0 ?_
                        refine c_Mod_add (v0 := v0) (v1 := (vA h (v0 + 36) (vI hr7 v0 56))) Tr2i198 kv0 wM ?_
                        intro r7i199 Tr7i199 gr7i199_0 gr7i199_1
                        unfold f_Mod_substituted_216
                        refine qk_bs ?_
                        have o206 : vA r7i199 (v0 + 9) v1 = vA h (v0 + 9) v1 := (by rw [gr7i199_1 (v0 + 9) v1 s0 (by omega), gr2i198_1 (v0 + 9) v1 s0 (by omega), gr13_1 (v0 + 9) v1 s0 (by omega), gr7_2 (v0 + 9) v1 s0 (by omega)])
                        refine qk_mono (ih (v0) (v1) (((vI hr7 v0 56) + 1)) ((vI hr7 v0 57)) ((v4 + 1)) (v5) (v6) ((yr7)) r7i199 Tr7i199 kv0 wM s0 s1 (by clear ih; rw [gr7i199_1 (v0 + 9) v1 s0 (by omega), gr2i198_1 (v0 + 9) v1 s0 (by omega), gr13_1 (v0 + 9) v1 s0 (by omega), gr7_2 (v0 + 9) v1 s0 (by omega)]; exact q_PM_run PM qz (fun a j j0 na => by rw [gr7i199_1 a j j0 (by omega), gr2i198_1 a j j0 (by omega), gr13_1 a j j0 (by omega), gr7_2 a j j0 (by omega)])) (zz_98b8d47b41 o206 o42) (zz_baade19237 o46) (zz_5b264b3c6e o46) hN (zz_9a39a3dcbf hms hq1 gr7_3 cc43 cc1 hq2 hq3 o46)) ?_
                        rintro ⟨y, hz⟩ ⟨Tz, g0, g1⟩
                        try dsimp only at *
                        exact ⟨Tz, (by clear ih; show ∀ a k, ¬ (a = v0 ∧ (k = 6 ∨ k = 76 ∨ k = 69 ∨ k = 67 ∨ k = 54 ∨ k = 55 ∨ k = 56 ∨ k = 57 ∨ k = 65 ∨ k = 73 ∨ k = 74)) → vI hz a k = vI h a k; intro a k n0; rw [g0 a k (by omega), gr7i199_0 a k (by omega), gr2i198_0 a k (by omega), gr13_0 a k (by omega), gr7_1 a k (by omega)]), (by clear ih; show ∀ a j, 0 ≤ j → ¬ (a = v0 + 36 ∨ a = v0 + 37 ∨ a = v0 + 38 ∨ a = v0 + 41 ∨ a = v0 + 39 ∨ a = v0 + 43) → vA hz a j = vA h a j; intro a j j0 n0; rw [g1 a j j0 (by omega), gr7i199_1 a j j0 (by omega), gr2i198_1 a j j0 (by omega), gr13_1 a j j0 (by omega), gr7_2 a j j0 (by omega)])⟩
                    · skip
                      have o208 : vA r2i198 (v0 + 9) v1 = vA h (v0 + 9) v1 := (by rw [gr2i198_1 (v0 + 9) v1 s0 (by omega), gr13_1 (v0 + 9) v1 s0 (by omega), gr7_2 (v0 + 9) v1 s0 (by omega)])
                      have o209 := g_Mo_57 Tr7 kv0
                      refine qk_mono (ih (v0) (v1) ((vI hr7 v0 57)) ((vI hr7 v0 57)) ((v4 + 1)) (v5) (v6) ((yr7)) r2i198 Tr2i198 kv0 wM s0 s1 (by clear ih; rw [gr2i198_1 (v0 + 9) v1 s0 (by omega), gr13_1 (v0 + 9) v1 s0 (by omega), gr7_2 (v0 + 9) v1 s0 (by omega)]; exact q_PM_run PM qz (fun a j j0 na => by rw [gr2i198_1 a j j0 (by omega), gr13_1 a j j0 (by omega), gr7_2 a j j0 (by omega)])) (zz_98b8d47b41 o208 o42) (zz_8f3cb51f6b gr7_3 o46 cc43) (zz_45321cf0b2 o209) hN (zz_502dafd128 gr7_3 cc43 cc47 cc200)) ?_
                      rintro ⟨y, hz⟩ ⟨Tz, g0, g1⟩
                      try dsimp only at *
                      exact ⟨Tz, (by clear ih; show ∀ a k, ¬ (a = v0 ∧ (k = 6 ∨ k = 76 ∨ k = 69 ∨ k = 67 ∨ k = 54 ∨ k = 55 ∨ k = 56 ∨ k = 57 ∨ k = 65 ∨ k = 73 ∨ k = 74)) → vI hz a k = vI h a k; intro a k n0; rw [g0 a k (by omega), gr2i198_0 a k (by omega), gr13_0 a k (by omega), gr7_1 a k (by omega)]), (by clear ih; show ∀ a j, 0 ≤ j → ¬ (a = v0 + 36 ∨ a = v0 + 37 ∨ a = v0 + 38 ∨ a = v0 + 41 ∨ a = v0 + 39 ∨ a = v0 + 43) → vA hz a j = vA h a j; intro a j j0 n0; rw [g1 a j j0 (by omega), gr2i198_1 a j j0 (by omega), gr13_1 a j j0 (by omega), gr7_2 a j j0 (by omega)])⟩
                  · skip
                    unfold f_Mod_substituted_152
                    refine r_Mo_o Tr13 kv0 ?_
                    refine c_Mod_addReplacement (v0 := v0) (v1 := v1) Tr13 kv0 wM s0 s1 (by clear ih; exact q_GS_eq (gr7_4 (zz_36c4603e00 cc43)) (fun j j0 => by rw [gr13_1 (v0 + 37) j j0 (by omega)]) (fun j j0 => by rw [gr13_1 (v0 + 38) j j0 (by omega)]) (by rw [gr13_0 v0 54 (by omega)])) hN ?_
                    intro r2i211 Tr2i211 gr2i211_0 gr2i211_1
                    refine qk_bs ?_
                    refine r_Mo_22 Tr2i211 kv0 ?_
                    refine r_Mo_e17 Tr2i211 kv0 s0 s1 ?_
                    intro x5i211 ex5i211
                    have sx5i211 : (vA h (v0 + 17) v1) = x5i211 := (ex5i211.trans (by rw [gr2i211_1 (v0 + 17) v1 s0 (by omega), gr13_1 (v0 + 17) v1 s0 (by omega), gr7_2 (v0 + 17) v1 s0 (by omega)])).symm
                    subst sx5i211
                    refine qk_if (fun cc212 => ?_) (fun cc212 => ?_)
                    · skip
                      unfold f_Mod_substituted_183
                      refine qk_if (fun cc214 => ?_) (fun cc214 => ?_)
                      · skip
                        refine r_Mo_54 Tr2i211 kv0 ?_
                        intro x2i213 ex2i213 lx2i213 ux2i213
                        have sx2i213 : (vI h v0 54) = x2i213 := (ex2i213.trans (by rw [gr2i211_0 v0 54 (by omega), gr13_0 v0 54 (by omega), gr7_1 v0 54 (by omega)])).symm
                        subst sx2i213
                        refine qk_if (fun cc215 => ?_) (fun cc215 => ?_)
                        · skip
                          unfold f_Mod_substituted_216
                          refine qk_bs ?_
                          have o217 : vA r2i211 (v0 + 9) v1 = vA h (v0 + 9) v1 := (by rw [gr2i211_1 (v0 + 9) v1 s0 (by omega), gr13_1 (v0 + 9) v1 s0 (by omega), gr7_2 (v0 + 9) v1 s0 (by omega)])
                          refine qk_mono (ih (v0) (v1) (((vI hr7 v0 56) + 1)) ((vI hr7 v0 57)) ((v4 + 1)) ((v5 + 1)) (v6) (0) r2i211 Tr2i211 kv0 wM s0 s1 (by clear ih; rw [gr2i211_1 (v0 + 9) v1 s0 (by omega), gr13_1 (v0 + 9) v1 s0 (by omega), gr7_2 (v0 + 9) v1 s0 (by omega)]; exact q_PM_run PM qz (fun a j j0 na => by rw [gr2i211_1 a j j0 (by omega), gr13_1 a j j0 (by omega), gr7_2 a j j0 (by omega)])) (zz_98b8d47b41 o217 o42) (zz_baade19237 o46) (zz_5b264b3c6e o46) hN (zz_90afad5304 hms hq1 p1 cc1 hq2 hq3 o46)) ?_
                          rintro ⟨y, hz⟩ ⟨Tz, g0, g1⟩
                          try dsimp only at *
                          exact ⟨Tz, (by clear ih; show ∀ a k, ¬ (a = v0 ∧ (k = 6 ∨ k = 76 ∨ k = 69 ∨ k = 67 ∨ k = 54 ∨ k = 55 ∨ k = 56 ∨ k = 57 ∨ k = 65 ∨ k = 73 ∨ k = 74)) → vI hz a k = vI h a k; intro a k n0; rw [g0 a k (by omega), gr2i211_0 a k (by omega), gr13_0 a k (by omega), gr7_1 a k (by omega)]), (by clear ih; show ∀ a j, 0 ≤ j → ¬ (a = v0 + 36 ∨ a = v0 + 37 ∨ a = v0 + 38 ∨ a = v0 + 41 ∨ a = v0 + 39 ∨ a = v0 + 43) → vA hz a j = vA h a j; intro a j j0 n0; rw [g1 a j j0 (by omega), gr2i211_1 a j j0 (by omega), gr13_1 a j j0 (by omega), gr7_2 a j j0 (by omega)])⟩
                        · skip
                          refine r_Mo_51 Tr2i211 kv0 ?_
                          refine r_Mo_e36 Tr2i211 kv0 lx10 (zz_4df39e1e3c o46) ?_
                          intro x5i213 ex5i213
                          have sx5i213 : (vA h (v0 + 36) (vI hr7 v0 56)) = x5i213 := (ex5i213.trans (by rw [gr2i211_1 (v0 + 36) (vI hr7 v0 56) lx10 (by omega), gr13_1 (v0 + 36) (vI hr7 v0 56) lx10 (by omega), gr7_2 (v0 + 36) (vI hr7 v0 56) lx10 (by omega)])).symm
                          subst sx5i213
                          refine r_Mo_o Tr2i211 kv0 ?_
                          refine c_Mod_add (v0 := v0) (v1 := (vA h (v0 + 36) (vI hr7 v0 56))) Tr2i211 kv0 wM ?_
                          intro r7i213 Tr7i213 gr7i213_0 gr7i213_1
                          unfold f_Mod_substituted_216
                          refine qk_bs ?_
                          have o220 : vA r7i213 (v0 + 9) v1 = vA h (v0 + 9) v1 := (by rw [gr7i213_1 (v0 + 9) v1 s0 (by omega), gr2i211_1 (v0 + 9) v1 s0 (by omega), gr13_1 (v0 + 9) v1 s0 (by omega), gr7_2 (v0 + 9) v1 s0 (by omega)])
                          have o221 := g_Mo_54 T kv0
                          refine qk_mono (ih (v0) (v1) (((vI hr7 v0 56) + 1)) ((vI hr7 v0 57)) ((v4 + 1)) ((v5 + 1)) (v6) (0) r7i213 Tr7i213 kv0 wM s0 s1 (by clear ih; rw [gr7i213_1 (v0 + 9) v1 s0 (by omega), gr2i211_1 (v0 + 9) v1 s0 (by omega), gr13_1 (v0 + 9) v1 s0 (by omega), gr7_2 (v0 + 9) v1 s0 (by omega)]; exact q_PM_run PM qz (fun a j j0 na => by rw [gr7i213_1 a j j0 (by omega), gr2i211_1 a j j0 (by omega), gr13_1 a j j0 (by omega), gr7_2 a j j0 (by omega)])) (zz_98b8d47b41 o220 o42) (zz_baade19237 o46) (zz_5b264b3c6e o46) hN (zz_b7eb91075e hms hq1 o221 cc1 cc22 hq2 hq3 o46)) ?_
                          rintro ⟨y, hz⟩ ⟨Tz, g0, g1⟩
                          try dsimp only at *
                          exact ⟨Tz, (by clear ih; show ∀ a k, ¬ (a = v0 ∧ (k = 6 ∨ k = 76 ∨ k = 69 ∨ k = 67 ∨ k = 54 ∨ k = 55 ∨ k = 56 ∨ k = 57 ∨ k = 65 ∨ k = 73 ∨ k = 74)) → vI hz a k = vI h a k; intro a k n0; rw [g0 a k (by omega), gr7i213_0 a k (by omega), gr2i211_0 a k (by omega), gr13_0 a k (by omega), gr7_1 a k (by omega)]), (by clear ih; show ∀ a j, 0 ≤ j → ¬ (a = v0 + 36 ∨ a = v0 + 37 ∨ a = v0 + 38 ∨ a = v0 + 41 ∨ a = v0 + 39 ∨ a = v0 + 43) → vA hz a j = vA h a j; intro a j j0 n0; rw [g1 a j j0 (by omega), gr7i213_1 a j j0 (by omega), gr2i211_1 a j j0 (by omega), gr13_1 a j j0 (by omega), gr7_2 a j j0 (by omega)])⟩
                      · skip
                        have o223 : vA r2i211 (v0 + 9) v1 = vA h (v0 + 9) v1 := (by rw [gr2i211_1 (v0 + 9) v1 s0 (by omega), gr13_1 (v0 + 9) v1 s0 (by omega), gr7_2 (v0 + 9) v1 s0 (by omega)])
                        have o224 := g_Mo_57 Tr7 kv0
                        refine qk_mono (ih (v0) (v1) ((vI hr7 v0 57)) ((vI hr7 v0 57)) ((v4 + 1)) ((v5 + 1)) (v6) (0) r2i211 Tr2i211 kv0 wM s0 s1 (by clear ih; rw [gr2i211_1 (v0 + 9) v1 s0 (by omega), gr13_1 (v0 + 9) v1 s0 (by omega), gr7_2 (v0 + 9) v1 s0 (by omega)]; exact q_PM_run PM qz (fun a j j0 na => by rw [gr2i211_1 a j j0 (by omega), gr13_1 a j j0 (by omega), gr7_2 a j j0 (by omega)])) (zz_98b8d47b41 o223 o42) (zz_8f3cb51f6b gr7_3 o46 cc43) (zz_45321cf0b2 o224) hN (zz_f82b965209 gr7_3 cc47 cc214 cc43)) ?_
                        rintro ⟨y, hz⟩ ⟨Tz, g0, g1⟩
                        try dsimp only at *
                        exact ⟨Tz, (by clear ih; show ∀ a k, ¬ (a = v0 ∧ (k = 6 ∨ k = 76 ∨ k = 69 ∨ k = 67 ∨ k = 54 ∨ k = 55 ∨ k = 56 ∨ k = 57 ∨ k = 65 ∨ k = 73 ∨ k = 74)) → vI hz a k = vI h a k; intro a k n0; rw [g0 a k (by omega), gr2i211_0 a k (by omega), gr13_0 a k (by omega), gr7_1 a k (by omega)]), (by clear ih; show ∀ a j, 0 ≤ j → ¬ (a = v0 + 36 ∨ a = v0 + 37 ∨ a = v0 + 38 ∨ a = v0 + 41 ∨ a = v0 + 39 ∨ a = v0 + 43) → vA hz a j = vA h a j; intro a j j0 n0; rw [g1 a j j0 (by omega), gr2i211_1 a j j0 (by omega), gr13_1 a j j0 (by omega), gr7_2 a j j0 (by omega)])⟩
                    · skip
                      unfold f_Mod_substituted_183
                      refine qk_if (fun cc227 => ?_) (fun cc227 => ?_)
                      · skip
                        refine r_Mo_54 Tr2i211 kv0 ?_
                        intro x2i226 ex2i226 lx2i226 ux2i226
                        have sx2i226 : (vI h v0 54) = x2i226 := (ex2i226.trans (by rw [gr2i211_0 v0 54 (by omega), gr13_0 v0 54 (by omega), gr7_1 v0 54 (by omega)])).symm
                        subst sx2i226
                        refine qk_if (fun cc228 => ?_) (fun cc228 => ?_)
                        · skip
                          unfold f_Mod_substituted_216
                          refine qk_bs ?_
                          have o230 : vA r2i211 (v0 + 9) v1 = vA h (v0 + 9) v1 := (by rw [gr2i211_1 (v0 + 9) v1 s0 (by omega), gr13_1 (v0 + 9) v1 s0 (by omega), gr7_2 (v0 + 9) v1 s0 (by omega)])
                          refine qk_mono (ih (v0) (v1) (((vI hr7 v0 56) + 1)) ((vI hr7 v0 57)) ((v4 + 1)) ((v5 + 1)) (v6) ((yr7)) r2i211 Tr2i211 kv0 wM s0 s1 (by clear ih; rw [gr2i211_1 (v0 + 9) v1 s0 (by omega), gr13_1 (v0 + 9) v1 s0 (by omega), gr7_2 (v0 + 9) v1 s0 (by omega)]; exact q_PM_run PM qz (fun a j j0 na => by rw [gr2i211_1 a j j0 (by omega), gr13_1 a j j0 (by omega), gr7_2 a j j0 (by omega)])) (zz_98b8d47b41 o230 o42) (zz_baade19237 o46) (zz_5b264b3c6e o46) hN (zz_9a39a3dcbf hms hq1 gr7_3 cc43 cc1 hq2 hq3 o46)) ?_
                          rintro ⟨y, hz⟩ ⟨Tz, g0, g1⟩
                          try dsimp only at *
                          exact ⟨Tz, (by clear ih; show ∀ a k, ¬ (a = v0 ∧ (k = 6 ∨ k = 76 ∨ k = 69 ∨ k = 67 ∨ k = 54 ∨ k = 55 ∨ k = 56 ∨ k = 57 ∨ k = 65 ∨ k = 73 ∨ k = 74)) → vI hz a k = vI h a k; intro a k n0; rw [g0 a k (by omega), gr2i211_0 a k (by omega), gr13_0 a k (by omega), gr7_1 a k (by omega)]), (by clear ih; show ∀ a j, 0 ≤ j → ¬ (a = v0 + 36 ∨ a = v0 + 37 ∨ a = v0 + 38 ∨ a = v0 + 41 ∨ a = v0 + 39 ∨ a = v0 + 43) → vA hz a j = vA h a j; intro a j j0 n0; rw [g1 a j j0 (by omega), gr2i211_1 a j j0 (by omega), gr13_1 a j j0 (by omega), gr7_2 a j j0 (by omega)])⟩
                        · skip
                          refine r_Mo_51 Tr2i211 kv0 ?_
                          refine r_Mo_e36 Tr2i211 kv0 lx10 (zz_4df39e1e3c o46) ?_
                          intro x5i226 ex5i226
                          have sx5i226 : (vA h (v0 + 36) (vI hr7 v0 56)) = x5i226 := (ex5i226.trans (by rw [gr2i211_1 (v0 + 36) (vI hr7 v0 56) lx10 (by omega), gr13_1 (v0 + 36) (vI hr7 v0 56) lx10 (by omega), gr7_2 (v0 + 36) (vI hr7 v0 56) lx10 (by omega)])).symm
                          subst sx5i226
                          refine r_Mo_o Tr2i211 kv0 ?_
                          refine c_Mod_add (v0 := v0) (v1 := (vA h (v0 + 36) (vI hr7 v0 56))) Tr2i211 kv0 wM ?_
                          intro r7i226 Tr7i226 gr7i226_0 gr7i226_1
                          unfold f_Mod_substituted_216
                          refine qk_bs ?_
                          have o233 : vA r7i226 (v0 + 9) v1 = vA h (v0 + 9) v1 := (by rw [gr7i226_1 (v0 + 9) v1 s0 (by omega), gr2i211_1 (v0 + 9) v1 s0 (by omega), gr13_1 (v0 + 9) v1 s0 (by omega), gr7_2 (v0 + 9) v1 s0 (by omega)])
                          refine qk_mono (ih (v0) (v1) (((vI hr7 v0 56) + 1)) ((vI hr7 v0 57)) ((v4 + 1)) ((v5 + 1)) (v6) ((yr7)) r7i226 Tr7i226 kv0 wM s0 s1 (by clear ih; rw [gr7i226_1 (v0 + 9) v1 s0 (by omega), gr2i211_1 (v0 + 9) v1 s0 (by omega), gr13_1 (v0 + 9) v1 s0 (by omega), gr7_2 (v0 + 9) v1 s0 (by omega)]; exact q_PM_run PM qz (fun a j j0 na => by rw [gr7i226_1 a j j0 (by omega), gr2i211_1 a j j0 (by omega), gr13_1 a j j0 (by omega), gr7_2 a j j0 (by omega)])) (zz_98b8d47b41 o233 o42) (zz_baade19237 o46) (zz_5b264b3c6e o46) hN (zz_9a39a3dcbf hms hq1 gr7_3 cc43 cc1 hq2 hq3 o46)) ?_
                          rintro ⟨y, hz⟩ ⟨Tz, g0, g1⟩
                          try dsimp only at *
                          exact ⟨Tz, (by clear ih; show ∀ a k, ¬ (a = v0 ∧ (k = 6 ∨ k = 76 ∨ k = 69 ∨ k = 67 ∨ k = 54 ∨ k = 55 ∨ k = 56 ∨ k = 57 ∨ k = 65 ∨ k = 73 ∨ k = 74)) → vI hz a k = vI h a k; intro a k n0; rw [g0 a k (by omega), gr7i226_0 a k (by omega), gr2i211_0 a k (by omega), gr13_0 a k (by omega), gr7_1 a k (by omega)]), (by clear ih; show ∀ a j, 0 ≤ j → ¬ (a = v0 + 36 ∨ a = v0 + 37 ∨ a = v0 + 38 ∨ a = v0 + 41 ∨ a = v0 + 39 ∨ a = v0 + 43) → vA hz a j = vA h a j; intro a j j0 n0; rw [g1 a j j0 (by omega), gr7i226_1 a j j0 (by omega), gr2i211_1 a j j0 (by omega), gr13_1 a j j0 (by omega), gr7_2 a j j0 (by omega)])⟩
                      · skip
                        have o235 : vA r2i211 (v0 + 9) v1 = vA h (v0 + 9) v1 := (by rw [gr2i211_1 (v0 + 9) v1 s0 (by omega), gr13_1 (v0 + 9) v1 s0 (by omega), gr7_2 (v0 + 9) v1 s0 (by omega)])
                        have o236 := g_Mo_57 Tr7 kv0
                        refine qk_mono (ih (v0) (v1) ((vI hr7 v0 57)) ((vI hr7 v0 57)) ((v4 + 1)) ((v5 + 1)) (v6) ((yr7)) r2i211 Tr2i211 kv0 wM s0 s1 (by clear ih; rw [gr2i211_1 (v0 + 9) v1 s0 (by omega), gr13_1 (v0 + 9) v1 s0 (by omega), gr7_2 (v0 + 9) v1 s0 (by omega)]; exact q_PM_run PM qz (fun a j j0 na => by rw [gr2i211_1 a j j0 (by omega), gr13_1 a j j0 (by omega), gr7_2 a j j0 (by omega)])) (zz_98b8d47b41 o235 o42) (zz_8f3cb51f6b gr7_3 o46 cc43) (zz_45321cf0b2 o236) hN (zz_502dafd128 gr7_3 cc43 cc47 cc227)) ?_
                        rintro ⟨y, hz⟩ ⟨Tz, g0, g1⟩
                        try dsimp only at *
                        exact ⟨Tz, (by clear ih; show ∀ a k, ¬ (a = v0 ∧ (k = 6 ∨ k = 76 ∨ k = 69 ∨ k = 67 ∨ k = 54 ∨ k = 55 ∨ k = 56 ∨ k = 57 ∨ k = 65 ∨ k = 73 ∨ k = 74)) → vI hz a k = vI h a k; intro a k n0; rw [g0 a k (by omega), gr2i211_0 a k (by omega), gr13_0 a k (by omega), gr7_1 a k (by omega)]), (by clear ih; show ∀ a j, 0 ≤ j → ¬ (a = v0 + 36 ∨ a = v0 + 37 ∨ a = v0 + 38 ∨ a = v0 + 41 ∨ a = v0 + 39 ∨ a = v0 + 43) → vA hz a j = vA h a j; intro a j j0 n0; rw [g1 a j j0 (by omega), gr2i211_1 a j j0 (by omega), gr13_1 a j j0 (by omega), gr7_2 a j j0 (by omega)])⟩
theorem p_Mod_substituted_43 {L : q_L} {W : Nat → Prop} {h0 : z_H} {π : Nat → Nat → Option Nat} {N : Nat} {h : z_H} {v0 : Nat} {v1 : Int32} {v2 : Int32} {v3 : Int32} {v4 : Int32} {v5 : Int32} {v6 : Int32} {v7 : Int32} (T : q_U L W h0 π h) (kv0 : q_M L π v0) (wM : ∀ a, v0 ≤ a → a < v0 + 46 → W a) (s0 : 0 ≤ v1) (s1 : v1 < 80) (PM : q_PM h v0 (vA h (v0 + 9) v1)) (qz : 0 ≤ vA h (v0 + 9) v1) (p0 : 0 ≤ v2) (p1 : v2 ≤ 61) (hN : 100000 ≤ N) : qk (f_Mod_substituted_43 N  N v0 v1 v2 v3 v4 v5 v6 v7 h) (fun r => q_U L W h0 π r.2 ∧ (∀ a k, ¬ (a = v0 ∧ (k = 6 ∨ k = 76 ∨ k = 69 ∨ k = 67 ∨ k = 54 ∨ k = 55 ∨ k = 56 ∨ k = 57 ∨ k = 65 ∨ k = 73 ∨ k = 74)) → vI r.2 a k = vI h a k) ∧ (∀ a j, 0 ≤ j → ¬ (a = v0 + 36 ∨ a = v0 + 37 ∨ a = v0 + 38 ∨ a = v0 + 41 ∨ a = v0 + 39 ∨ a = v0 + 43) → vA r.2 a j = vA h a j)) := by
  have hq := q_qnN hN
  refine p_Mod_substituted_43_n (q_lo (M := 63) (by decide) (by decide)) N v0 v1 v2 v3 v4 v5 v6 v7 h T kv0 wM s0 s1 PM qz p0 p1 hN ?_ 
  show 63 - q_n N ≤ _
  rw [hq]
  split <;> lia
