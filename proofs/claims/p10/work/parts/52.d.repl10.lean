theorem zz_5c2d5e4809 {a1 a2 a3 a4 : Int32} (h0 : a1 = (300 * a2) + a3) (h1 : (0 ≤ a2) ∧ (a2 ≤ 1)) (h2 : a3 = a4) (h3 : (0 ≤ a4) ∧ (a4 ≤ 299)) : 0 ≤ a1 := by simp only [Int32.le_iff_toInt_le, Int32.lt_iff_toInt_lt, ← Int32.toInt_inj, ne_eq] at *; have l0 : (300 : Int32).toInt = 300 := (by decide); have l1 : (0 : Int32).toInt = 0 := (by decide); have l2 : (1 : Int32).toInt = 1 := (by decide); have l3 : (299 : Int32).toInt = 299 := (by decide); have s0 : (300 * a2).toInt = 300 * a2.toInt := q_tM (by decide) (by omega) (by omega); have s1 : ((300 * a2) + a3).toInt = (300 * a2).toInt + a3.toInt := q_tA rfl (by omega) (by omega); omega
theorem zz_cfc7a49901 {a1 a2 a3 a4 : Int32} (h0 : a1 = (300 * a2) + a3) (h1 : (0 ≤ a2) ∧ (a2 ≤ 1)) (h2 : a3 = a4) (h3 : (0 ≤ a4) ∧ (a4 ≤ 299)) : a1 ≤ 600 := by simp only [Int32.le_iff_toInt_le, Int32.lt_iff_toInt_lt, ← Int32.toInt_inj, ne_eq] at *; have l0 : (300 : Int32).toInt = 300 := (by decide); have l1 : (0 : Int32).toInt = 0 := (by decide); have l2 : (1 : Int32).toInt = 1 := (by decide); have l3 : (299 : Int32).toInt = 299 := (by decide); have l4 : (600 : Int32).toInt = 600 := (by decide); have s0 : (300 * a2).toInt = 300 * a2.toInt := q_tM (by decide) (by omega) (by omega); have s1 : ((300 * a2) + a3).toInt = (300 * a2).toInt + a3.toInt := q_tA rfl (by omega) (by omega); omega
theorem zz_2a5cdb1247 {a1 a2 a3 a4 : Int32} (h0 : a1 = a2) (h1 : a3 = a4 + 1) (h2 : a2 ≤ a4) (h3 : (0 ≤ a4) ∧ (a4 ≤ 250)) : (a2 ≤ a1) ∧ (a1 ≤ a3) := by simp only [Int32.le_iff_toInt_le, Int32.lt_iff_toInt_lt, ← Int32.toInt_inj, ne_eq] at *; have l0 : (1 : Int32).toInt = 1 := (by decide); have l1 : (0 : Int32).toInt = 0 := (by decide); have l2 : (250 : Int32).toInt = 250 := (by decide); have s0 : (a4 + 1).toInt = a4.toInt + 1 := q_tA (by decide) (by omega) (by omega); omega
theorem zz_fa851e07c4 {a1 a2 a3 a4 a5 a6 : Int32} (h0 : a1 = a2) (h1 : a3 = a4) (h2 : a2 = (300 * a5) + a6) (h3 : a6 = a4) (h4 : (0 ≤ a5) ∧ (a5 ≤ 1)) (h5 : (0 ≤ a4) ∧ (a4 ≤ 299)) : a1 = (300 * a5) + a3 := by simp only [Int32.le_iff_toInt_le, Int32.lt_iff_toInt_lt, ← Int32.toInt_inj, ne_eq] at *; have l0 : (300 : Int32).toInt = 300 := (by decide); have l1 : (0 : Int32).toInt = 0 := (by decide); have l2 : (1 : Int32).toInt = 1 := (by decide); have l3 : (299 : Int32).toInt = 299 := (by decide); have s0 : (300 * a5).toInt = 300 * a5.toInt := q_tM (by decide) (by omega) (by omega); have s1 : ((300 * a5) + a6).toInt = (300 * a5).toInt + a6.toInt := q_tA rfl (by omega) (by omega); have s2 : ((300 * a5) + a3).toInt = (300 * a5).toInt + a3.toInt := q_tA rfl (by omega) (by omega); omega
theorem zz_3b376fc0b5 {a1 a2 a3 a4 : Int32} (h0 : a1 = a2) (h1 : a3 = a4) (h2 : a2 ≤ a4) : a1 ≤ a3 := by simp only [Int32.le_iff_toInt_le, Int32.lt_iff_toInt_lt, ← Int32.toInt_inj, ne_eq] at *; omega
theorem zz_ced763ca4e {a1 a2 a3 a4 : Int32} (h0 : a1 = a2) (h1 : (a3 < (300 * a4) + a2) ∨ ((300 * a4) + 300 ≤ a3)) (h2 : (0 ≤ a4) ∧ (a4 ≤ 1)) (h3 : (0 ≤ a2) ∧ (a2 ≤ 299)) : (a3 < (300 * a4) + a1) ∨ ((300 * a4) + 300 ≤ a3) := by simp only [Int32.le_iff_toInt_le, Int32.lt_iff_toInt_lt, ← Int32.toInt_inj, ne_eq] at *; have l0 : (300 : Int32).toInt = 300 := (by decide); have l1 : (0 : Int32).toInt = 0 := (by decide); have l2 : (1 : Int32).toInt = 1 := (by decide); have l3 : (299 : Int32).toInt = 299 := (by decide); have s0 : (300 * a4).toInt = 300 * a4.toInt := q_tM (by decide) (by omega) (by omega); have s1 : ((300 * a4) + a2).toInt = (300 * a4).toInt + a2.toInt := q_tA rfl (by omega) (by omega); have s2 : ((300 * a4) + 300).toInt = (300 * a4).toInt + 300 := q_tA (by decide) (by omega) (by omega); have s3 : ((300 * a4) + a1).toInt = (300 * a4).toInt + a1.toInt := q_tA rfl (by omega) (by omega); omega
theorem zz_3745968dd1 {a1 a2 a3 a4 : Int32} (h0 : (a1 ≤ a2) ∧ (a2 ≤ a3)) (h1 : a1 = a4) : (a4 ≤ a2) ∧ (a2 ≤ a3) := by simp only [Int32.le_iff_toInt_le, Int32.lt_iff_toInt_lt, ← Int32.toInt_inj, ne_eq] at *; omega
theorem zz_3e1d7f49dd {a1 a2 a3 : Int32} (h0 : a1 = (300 * a2) + a3) (h1 : (0 ≤ a2) ∧ (a2 ≤ 1)) (h2 : (0 ≤ a3) ∧ (a3 ≤ 299)) : a1 = (300 * a2) + a3 := by simp only [Int32.le_iff_toInt_le, Int32.lt_iff_toInt_lt, ← Int32.toInt_inj, ne_eq] at *; have l0 : (300 : Int32).toInt = 300 := (by decide); have l1 : (0 : Int32).toInt = 0 := (by decide); have l2 : (1 : Int32).toInt = 1 := (by decide); have l3 : (299 : Int32).toInt = 299 := (by decide); have s0 : (300 * a2).toInt = 300 * a2.toInt := q_tM (by decide) (by omega) (by omega); have s1 : ((300 * a2) + a3).toInt = (300 * a2).toInt + a3.toInt := q_tA rfl (by omega) (by omega); omega
theorem zz_b4b1647785 {a1 a2 : Int32} (h0 : a1 ≤ a2) (h1 : (0 ≤ a2) ∧ (a2 ≤ 250)) : a1 ≤ 260 := by simp only [Int32.le_iff_toInt_le, Int32.lt_iff_toInt_lt, ← Int32.toInt_inj, ne_eq] at *; have l0 : (0 : Int32).toInt = 0 := (by decide); have l1 : (250 : Int32).toInt = 250 := (by decide); have l2 : (260 : Int32).toInt = 260 := (by decide); omega
theorem zz_d197c3e214 {a1 a2 a3 a4 a5 a6 : Int32} (h0 : a1 = a2 + 1) (h1 : a3 = a4) (h2 : (a5 ≠ -1) → (a2 < a4)) (h3 : a5 = 38) (h4 : (0 ≤ a2) ∧ (a2 ≤ 250)) : (a6 = 0) → (a1 ≤ a3) := by simp only [Int32.le_iff_toInt_le, Int32.lt_iff_toInt_lt, ← Int32.toInt_inj, ne_eq] at *; have l0 : (1 : Int32).toInt = 1 := (by decide); have l1 : (-1 : Int32).toInt = -1 := (by decide); have l2 : (38 : Int32).toInt = 38 := (by decide); have l3 : (0 : Int32).toInt = 0 := (by decide); have l4 : (250 : Int32).toInt = 250 := (by decide); have s0 : (a2 + 1).toInt = a2.toInt + 1 := q_tA (by decide) (by omega) (by omega); omega
theorem zz_e0bdb35105 {a1 a2 a3 a4 : Int32} (h0 : a1 = a2 + 1) (h1 : a3 = a4 + 1) (h2 : a2 ≤ a4) (h3 : (0 ≤ a4) ∧ (a4 ≤ 250)) (h4 : (0 ≤ a2) ∧ (a2 ≤ 299)) : a1 ≤ a3 := by simp only [Int32.le_iff_toInt_le, Int32.lt_iff_toInt_lt, ← Int32.toInt_inj, ne_eq] at *; have l0 : (1 : Int32).toInt = 1 := (by decide); have l1 : (0 : Int32).toInt = 0 := (by decide); have l2 : (250 : Int32).toInt = 250 := (by decide); have l3 : (299 : Int32).toInt = 299 := (by decide); have s0 : (a2 + 1).toInt = a2.toInt + 1 := q_tA (by decide) (by omega) (by omega); have s1 : (a4 + 1).toInt = a4.toInt + 1 := q_tA (by decide) (by omega) (by omega); omega
theorem zz_8b276ad5c1 {a1 a2 a3 a4 : Int32} (h0 : a1 = a2 + 1) (h1 : (0 ≤ a3) ∧ (a3 ≤ 240)) (h2 : (a4 ≠ -1) → (a2 < a3)) (h3 : a4 = 38) (h4 : (0 ≤ a2) ∧ (a2 ≤ 250)) : a1 ≤ 242 := by simp only [Int32.le_iff_toInt_le, Int32.lt_iff_toInt_lt, ← Int32.toInt_inj, ne_eq] at *; have l0 : (1 : Int32).toInt = 1 := (by decide); have l1 : (0 : Int32).toInt = 0 := (by decide); have l2 : (240 : Int32).toInt = 240 := (by decide); have l3 : (-1 : Int32).toInt = -1 := (by decide); have l4 : (38 : Int32).toInt = 38 := (by decide); have l5 : (250 : Int32).toInt = 250 := (by decide); have l6 : (242 : Int32).toInt = 242 := (by decide); have s0 : (a2 + 1).toInt = a2.toInt + 1 := q_tA (by decide) (by omega) (by omega); omega
theorem zz_d5e09a6e7f {a1 a2 a3 a4 : Int32} (h0 : a1 = a2 + 1) (h1 : (a3 < (300 * a4) + a2) ∨ ((300 * a4) + 300 ≤ a3)) (h2 : (0 ≤ a4) ∧ (a4 ≤ 1)) (h3 : (0 ≤ a2) ∧ (a2 ≤ 299)) : (a3 < (300 * a4) + a1) ∨ ((300 * a4) + 300 ≤ a3) := by simp only [Int32.le_iff_toInt_le, Int32.lt_iff_toInt_lt, ← Int32.toInt_inj, ne_eq] at *; have l0 : (1 : Int32).toInt = 1 := (by decide); have l1 : (300 : Int32).toInt = 300 := (by decide); have l2 : (0 : Int32).toInt = 0 := (by decide); have l3 : (299 : Int32).toInt = 299 := (by decide); have s0 : (a2 + 1).toInt = a2.toInt + 1 := q_tA (by decide) (by omega) (by omega); have s1 : (300 * a4).toInt = 300 * a4.toInt := q_tM (by decide) (by omega) (by omega); have s2 : ((300 * a4) + a2).toInt = (300 * a4).toInt + a2.toInt := q_tA rfl (by omega) (by omega); have s3 : ((300 * a4) + 300).toInt = (300 * a4).toInt + 300 := q_tA (by decide) (by omega) (by omega); have s4 : ((300 * a4) + a1).toInt = (300 * a4).toInt + a1.toInt := q_tA rfl (by omega) (by omega); omega
theorem zz_039ceab827 {a1 a2 a3 : Int32} (h0 : (0 ≤ a1) ∧ (a1 ≤ 299)) (h1 : (a2 < (300 * a3) + a1) ∨ ((300 * a3) + 300 ≤ a2)) (h2 : (0 ≤ a3) ∧ (a3 ≤ 1)) : ¬ (a2 = (300 * a3) + a1) := by simp only [Int32.le_iff_toInt_le, Int32.lt_iff_toInt_lt, ← Int32.toInt_inj, ne_eq] at *; have l0 : (0 : Int32).toInt = 0 := (by decide); have l1 : (299 : Int32).toInt = 299 := (by decide); have l2 : (300 : Int32).toInt = 300 := (by decide); have l3 : (1 : Int32).toInt = 1 := (by decide); have s0 : (300 * a3).toInt = 300 * a3.toInt := q_tM (by decide) (by omega) (by omega); have s1 : ((300 * a3) + a1).toInt = (300 * a3).toInt + a1.toInt := q_tA rfl (by omega) (by omega); have s2 : ((300 * a3) + 300).toInt = (300 * a3).toInt + 300 := q_tA (by decide) (by omega) (by omega); omega
theorem zz_926e2567f5 {a1 a2 a3 a4 : Int32} (h0 : (a1 ≤ a2) ∧ (a2 ≤ a3)) (h1 : a1 = a4 + 1) (h2 : (0 ≤ a4) ∧ (a4 ≤ 299)) : (a4 ≤ a2) ∧ (a2 ≤ a3) := by simp only [Int32.le_iff_toInt_le, Int32.lt_iff_toInt_lt, ← Int32.toInt_inj, ne_eq] at *; have l0 : (1 : Int32).toInt = 1 := (by decide); have l1 : (0 : Int32).toInt = 0 := (by decide); have l2 : (299 : Int32).toInt = 299 := (by decide); have s0 : (a4 + 1).toInt = a4.toInt + 1 := q_tA (by decide) (by omega) (by omega); omega
theorem zz_6ac285591f {a1 : Int32} (h0 : (0 ≤ a1) ∧ (a1 ≤ 250)) : 0 ≤ a1 + 2 := by simp only [Int32.le_iff_toInt_le, Int32.lt_iff_toInt_lt, ← Int32.toInt_inj, ne_eq] at *; have l0 : (0 : Int32).toInt = 0 := (by decide); have l1 : (250 : Int32).toInt = 250 := (by decide); have l2 : (2 : Int32).toInt = 2 := (by decide); have s0 : (a1 + 2).toInt = a1.toInt + 2 := q_tA (by decide) (by omega) (by omega); omega
theorem zz_2c7fd931f4 {a1 : Int32} (h0 : a1 ≤ 242) (h1 : (0 ≤ a1) ∧ (a1 ≤ 250)) : a1 + 2 ≤ 250 := by simp only [Int32.le_iff_toInt_le, Int32.lt_iff_toInt_lt, ← Int32.toInt_inj, ne_eq] at *; have l0 : (242 : Int32).toInt = 242 := (by decide); have l1 : (0 : Int32).toInt = 0 := (by decide); have l2 : (250 : Int32).toInt = 250 := (by decide); have l3 : (2 : Int32).toInt = 2 := (by decide); have s0 : (a1 + 2).toInt = a1.toInt + 2 := q_tA (by decide) (by omega) (by omega); omega
theorem zz_d3cc64d506 {a1 a2 a3 a4 : Int32} (h0 : a1 = a2) (h1 : a3 = a4 + 2) (h2 : a2 ≤ a4) (h3 : (0 ≤ a4) ∧ (a4 ≤ 250)) : a1 ≤ a3 := by simp only [Int32.le_iff_toInt_le, Int32.lt_iff_toInt_lt, ← Int32.toInt_inj, ne_eq] at *; have l0 : (2 : Int32).toInt = 2 := (by decide); have l1 : (0 : Int32).toInt = 0 := (by decide); have l2 : (250 : Int32).toInt = 250 := (by decide); have s0 : (a4 + 2).toInt = a4.toInt + 2 := q_tA (by decide) (by omega) (by omega); omega
theorem zz_4c3af4b9d4 {a1 a2 a3 a4 : Int32} (h0 : a1 = a2 + 2) (h1 : (0 ≤ a3) ∧ (a3 ≤ 240)) (h2 : (a4 ≠ -1) → (a2 < a3)) (h3 : a4 = 92) (h4 : (0 ≤ a2) ∧ (a2 ≤ 250)) : a1 ≤ 242 := by simp only [Int32.le_iff_toInt_le, Int32.lt_iff_toInt_lt, ← Int32.toInt_inj, ne_eq] at *; have l0 : (2 : Int32).toInt = 2 := (by decide); have l1 : (0 : Int32).toInt = 0 := (by decide); have l2 : (240 : Int32).toInt = 240 := (by decide); have l3 : (-1 : Int32).toInt = -1 := (by decide); have l4 : (92 : Int32).toInt = 92 := (by decide); have l5 : (250 : Int32).toInt = 250 := (by decide); have l6 : (242 : Int32).toInt = 242 := (by decide); have s0 : (a2 + 2).toInt = a2.toInt + 2 := q_tA (by decide) (by omega) (by omega); omega
theorem zz_8846049fc9 {a1 a2 a3 a4 a5 a6 a7 : Int32} (h0 : a1 = 1) (h1 : a2 ≤ (if a3 = 0 then a4 else 300)) (h2 : a5 ≤ a2 + 1) (h3 : (a6 ≠ -1) → (a4 < 240)) (h4 : a3 = 0) (h5 : a6 = 92) (h6 : -100000 ≤ a2) (h7 : a2 ≤ 100000) : a5 ≤ (if a1 = 0 then a7 else 300) := by split at h1 <;> split <;> (simp only [Int32.le_iff_toInt_le, Int32.lt_iff_toInt_lt, ← Int32.toInt_inj, ne_eq] at *; have l0 : (1 : Int32).toInt = 1 := (by decide); have l1 : (0 : Int32).toInt = 0 := (by decide); have l2 : (300 : Int32).toInt = 300 := (by decide); have l3 : (-1 : Int32).toInt = -1 := (by decide); have l4 : (240 : Int32).toInt = 240 := (by decide); have l5 : (92 : Int32).toInt = 92 := (by decide); have l6 : (-100000 : Int32).toInt = -100000 := (by decide); have l7 : (100000 : Int32).toInt = 100000 := (by decide); have s0 : (a2 + 1).toInt = a2.toInt + 1 := q_tA (by decide) (by omega) (by omega); omega)
theorem zz_704f037905 {a1 a2 a3 a4 a5 a6 : Int32} (h0 : (a1 = 0) → ((a2 < a3) ∧ (a3 ≤ a4))) (h1 : a2 = a5 + 2) (h2 : a4 = a6) (h3 : (0 ≤ a5) ∧ (a5 ≤ 250)) : (a1 = 0) → ((a5 < a3) ∧ (a3 ≤ a6)) := by simp only [Int32.le_iff_toInt_le, Int32.lt_iff_toInt_lt, ← Int32.toInt_inj, ne_eq] at *; have l0 : (0 : Int32).toInt = 0 := (by decide); have l1 : (2 : Int32).toInt = 2 := (by decide); have l2 : (250 : Int32).toInt = 250 := (by decide); have s0 : (a5 + 2).toInt = a5.toInt + 2 := q_tA (by decide) (by omega) (by omega); omega
theorem zz_a7e7eeafdf {a1 a2 a3 : Int32} (h0 : a1 = a2 + 2) (h1 : (a1 ≤ a3) ∧ (a3 ≤ 244)) (h2 : (0 ≤ a2) ∧ (a2 ≤ 250)) : (a2 ≤ a3) ∧ (a3 ≤ 244) := by simp only [Int32.le_iff_toInt_le, Int32.lt_iff_toInt_lt, ← Int32.toInt_inj, ne_eq] at *; have l0 : (2 : Int32).toInt = 2 := (by decide); have l1 : (244 : Int32).toInt = 244 := (by decide); have l2 : (0 : Int32).toInt = 0 := (by decide); have l3 : (250 : Int32).toInt = 250 := (by decide); have s0 : (a2 + 2).toInt = a2.toInt + 2 := q_tA (by decide) (by omega) (by omega); omega
theorem zz_2d9dda0af0 {a1 : Int32} (h0 : a1 = 38) : -1 ≤ a1 := by simp only [Int32.le_iff_toInt_le, Int32.lt_iff_toInt_lt, ← Int32.toInt_inj, ne_eq] at *; have l0 : (38 : Int32).toInt = 38 := (by decide); have l1 : (-1 : Int32).toInt = -1 := (by decide); omega
theorem zz_e1a867b2df {a1 : Int32} (h0 : a1 = 38) : a1 ≤ 203 := by simp only [Int32.le_iff_toInt_le, Int32.lt_iff_toInt_lt, ← Int32.toInt_inj, ne_eq] at *; have l0 : (38 : Int32).toInt = 38 := (by decide); have l1 : (203 : Int32).toInt = 203 := (by decide); omega
theorem zz_2f861acd99 {a1 a2 a3 a4 a5 a6 : Int32} (h0 : a1 = a2 + 2) (h1 : a3 = a4) (h2 : (a5 ≠ -1) → (a2 + 1 < a4)) (h3 : a5 = 38) (h4 : (0 ≤ a2) ∧ (a2 ≤ 250)) : (a6 = 0) → (a1 ≤ a3) := by simp only [Int32.le_iff_toInt_le, Int32.lt_iff_toInt_lt, ← Int32.toInt_inj, ne_eq] at *; have l0 : (2 : Int32).toInt = 2 := (by decide); have l1 : (-1 : Int32).toInt = -1 := (by decide); have l2 : (1 : Int32).toInt = 1 := (by decide); have l3 : (38 : Int32).toInt = 38 := (by decide); have l4 : (0 : Int32).toInt = 0 := (by decide); have l5 : (250 : Int32).toInt = 250 := (by decide); have s0 : (a2 + 2).toInt = a2.toInt + 2 := q_tA (by decide) (by omega) (by omega); have s1 : (a2 + 1).toInt = a2.toInt + 1 := q_tA (by decide) (by omega) (by omega); omega
theorem zz_259b3032e8 {a1 a2 a3 a4 : Int32} (h0 : a1 = a2 + 1) (h1 : a3 = a4 + 2) (h2 : a2 ≤ a4) (h3 : (0 ≤ a4) ∧ (a4 ≤ 250)) (h4 : (0 ≤ a2) ∧ (a2 ≤ 299)) : a1 ≤ a3 := by simp only [Int32.le_iff_toInt_le, Int32.lt_iff_toInt_lt, ← Int32.toInt_inj, ne_eq] at *; have l0 : (1 : Int32).toInt = 1 := (by decide); have l1 : (2 : Int32).toInt = 2 := (by decide); have l2 : (0 : Int32).toInt = 0 := (by decide); have l3 : (250 : Int32).toInt = 250 := (by decide); have l4 : (299 : Int32).toInt = 299 := (by decide); have s0 : (a2 + 1).toInt = a2.toInt + 1 := q_tA (by decide) (by omega) (by omega); have s1 : (a4 + 2).toInt = a4.toInt + 2 := q_tA (by decide) (by omega) (by omega); omega
theorem zz_982f166efd {a1 a2 a3 a4 a5 a6 : Int32} (h0 : a1 = a2 + 2) (h1 : a2 ≤ 242) (h2 : a3 ≤ (if a4 = 0 then a2 else 300)) (h3 : a5 ≤ a3 + 1) (h4 : a4 = 0) (h5 : -100000 ≤ a3) (h6 : a3 ≤ 100000) (h7 : (0 ≤ a2) ∧ (a2 ≤ 250)) : a5 ≤ (if a6 = 0 then a1 else 300) := by split at h2 <;> split <;> (simp only [Int32.le_iff_toInt_le, Int32.lt_iff_toInt_lt, ← Int32.toInt_inj, ne_eq] at *; have l0 : (2 : Int32).toInt = 2 := (by decide); have l1 : (242 : Int32).toInt = 242 := (by decide); have l2 : (0 : Int32).toInt = 0 := (by decide); have l3 : (300 : Int32).toInt = 300 := (by decide); have l4 : (1 : Int32).toInt = 1 := (by decide); have l5 : (-100000 : Int32).toInt = -100000 := (by decide); have l6 : (100000 : Int32).toInt = 100000 := (by decide); have l7 : (250 : Int32).toInt = 250 := (by decide); have s0 : (a2 + 2).toInt = a2.toInt + 2 := q_tA (by decide) (by omega) (by omega); have s1 : (a3 + 1).toInt = a3.toInt + 1 := q_tA (by decide) (by omega) (by omega); omega)
theorem zz_68802f2aaa {a1 : Int32} (h0 : a1 = 47) : -1 ≤ a1 := by simp only [Int32.le_iff_toInt_le, Int32.lt_iff_toInt_lt, ← Int32.toInt_inj, ne_eq] at *; have l0 : (47 : Int32).toInt = 47 := (by decide); have l1 : (-1 : Int32).toInt = -1 := (by decide); omega
theorem zz_b0bef9a10e {a1 : Int32} (h0 : a1 = 47) : a1 ≤ 203 := by simp only [Int32.le_iff_toInt_le, Int32.lt_iff_toInt_lt, ← Int32.toInt_inj, ne_eq] at *; have l0 : (47 : Int32).toInt = 47 := (by decide); have l1 : (203 : Int32).toInt = 203 := (by decide); omega
theorem zz_5592b3a01a {a1 a2 a3 a4 a5 a6 : Int32} (h0 : a1 = a2 + 2) (h1 : a3 = a4) (h2 : (a5 ≠ -1) → (a2 + 1 < a4)) (h3 : a5 = 47) (h4 : (0 ≤ a2) ∧ (a2 ≤ 250)) : (a6 = 0) → (a1 ≤ a3) := by simp only [Int32.le_iff_toInt_le, Int32.lt_iff_toInt_lt, ← Int32.toInt_inj, ne_eq] at *; have l0 : (2 : Int32).toInt = 2 := (by decide); have l1 : (-1 : Int32).toInt = -1 := (by decide); have l2 : (1 : Int32).toInt = 1 := (by decide); have l3 : (47 : Int32).toInt = 47 := (by decide); have l4 : (0 : Int32).toInt = 0 := (by decide); have l5 : (250 : Int32).toInt = 250 := (by decide); have s0 : (a2 + 2).toInt = a2.toInt + 2 := q_tA (by decide) (by omega) (by omega); have s1 : (a2 + 1).toInt = a2.toInt + 1 := q_tA (by decide) (by omega) (by omega); omega
theorem zz_8c2a257ba7 {a1 : Int32} (h0 : a1 = 92) : -1 ≤ a1 := by simp only [Int32.le_iff_toInt_le, Int32.lt_iff_toInt_lt, ← Int32.toInt_inj, ne_eq] at *; have l0 : (92 : Int32).toInt = 92 := (by decide); have l1 : (-1 : Int32).toInt = -1 := (by decide); omega
theorem zz_6bd0cf1b3d {a1 : Int32} (h0 : a1 = 92) : a1 ≤ 203 := by simp only [Int32.le_iff_toInt_le, Int32.lt_iff_toInt_lt, ← Int32.toInt_inj, ne_eq] at *; have l0 : (92 : Int32).toInt = 92 := (by decide); have l1 : (203 : Int32).toInt = 203 := (by decide); omega
theorem zz_3f9bbbb31e {a1 a2 a3 a4 a5 a6 : Int32} (h0 : a1 = a2 + 2) (h1 : a3 = a4) (h2 : (a5 ≠ -1) → (a2 + 1 < a4)) (h3 : a5 = 92) (h4 : (0 ≤ a2) ∧ (a2 ≤ 250)) : (a6 = 0) → (a1 ≤ a3) := by simp only [Int32.le_iff_toInt_le, Int32.lt_iff_toInt_lt, ← Int32.toInt_inj, ne_eq] at *; have l0 : (2 : Int32).toInt = 2 := (by decide); have l1 : (-1 : Int32).toInt = -1 := (by decide); have l2 : (1 : Int32).toInt = 1 := (by decide); have l3 : (92 : Int32).toInt = 92 := (by decide); have l4 : (0 : Int32).toInt = 0 := (by decide); have l5 : (250 : Int32).toInt = 250 := (by decide); have s0 : (a2 + 2).toInt = a2.toInt + 2 := q_tA (by decide) (by omega) (by omega); have s1 : (a2 + 1).toInt = a2.toInt + 1 := q_tA (by decide) (by omega) (by omega); omega
theorem zz_3a6b192ffd {a1 a2 a3 a4 a5 a6 : Int32} (h0 : a1 = a2 + 2) (h1 : a3 = a4) (h2 : (a5 ≠ -1) → (a2 + 1 < a4)) (h3 : a5 = 110) (h4 : (0 ≤ a2) ∧ (a2 ≤ 250)) : (a6 = 0) → (a1 ≤ a3) := by simp only [Int32.le_iff_toInt_le, Int32.lt_iff_toInt_lt, ← Int32.toInt_inj, ne_eq] at *; have l0 : (2 : Int32).toInt = 2 := (by decide); have l1 : (-1 : Int32).toInt = -1 := (by decide); have l2 : (1 : Int32).toInt = 1 := (by decide); have l3 : (110 : Int32).toInt = 110 := (by decide); have l4 : (0 : Int32).toInt = 0 := (by decide); have l5 : (250 : Int32).toInt = 250 := (by decide); have s0 : (a2 + 2).toInt = a2.toInt + 2 := q_tA (by decide) (by omega) (by omega); have s1 : (a2 + 1).toInt = a2.toInt + 1 := q_tA (by decide) (by omega) (by omega); omega
theorem zz_1c1679f969 {a1 a2 a3 a4 a5 a6 a7 a8 : Int32} (h0 : a1 = 1) (h1 : (0 ≤ a2) ∧ (a2 ≤ 240)) (h2 : a3 ≤ (if a4 = 0 then a5 else 300)) (h3 : a6 ≤ a3 + 1) (h4 : (a7 ≠ -1) → (a5 + 1 < a2)) (h5 : a4 = 0) (h6 : ¬ (a7 = -1)) (h7 : (0 ≤ a5) ∧ (a5 ≤ 250)) (h8 : -100000 ≤ a3) (h9 : a3 ≤ 100000) : a6 ≤ (if a1 = 0 then a8 else 300) := by split at h2 <;> split <;> (simp only [Int32.le_iff_toInt_le, Int32.lt_iff_toInt_lt, ← Int32.toInt_inj, ne_eq] at *; have l0 : (1 : Int32).toInt = 1 := (by decide); have l1 : (0 : Int32).toInt = 0 := (by decide); have l2 : (240 : Int32).toInt = 240 := (by decide); have l3 : (300 : Int32).toInt = 300 := (by decide); have l4 : (-1 : Int32).toInt = -1 := (by decide); have l5 : (250 : Int32).toInt = 250 := (by decide); have l6 : (-100000 : Int32).toInt = -100000 := (by decide); have l7 : (100000 : Int32).toInt = 100000 := (by decide); have s0 : (a3 + 1).toInt = a3.toInt + 1 := q_tA (by decide) (by omega) (by omega); have s1 : (a5 + 1).toInt = a5.toInt + 1 := q_tA (by decide) (by omega) (by omega); omega)
theorem zz_5ff11b7469 {a1 : Int32} (h0 : (0 ≤ a1) ∧ (a1 ≤ 259)) : a1 < 260 := by simp only [Int32.le_iff_toInt_le, Int32.lt_iff_toInt_lt, ← Int32.toInt_inj, ne_eq] at *; have l0 : (0 : Int32).toInt = 0 := (by decide); have l1 : (259 : Int32).toInt = 259 := (by decide); have l2 : (260 : Int32).toInt = 260 := (by decide); omega
theorem zz_09edcc2701 {a1 a2 a3 a4 a5 : Int32} (h0 : a1 < a2 - 48) (h1 : (0 ≤ a1) ∧ (a1 ≤ 3)) (h2 : a2 = 38) : (a3 = 0) → (a4 ≤ a5) := by simp only [Int32.le_iff_toInt_le, Int32.lt_iff_toInt_lt, ← Int32.toInt_inj, ne_eq] at *; have l0 : (48 : Int32).toInt = 48 := (by decide); have l1 : (0 : Int32).toInt = 0 := (by decide); have l2 : (3 : Int32).toInt = 3 := (by decide); have l3 : (38 : Int32).toInt = 38 := (by decide); have s0 : (a2 - 48).toInt = a2.toInt - 48 := q_tS (by decide) (by omega) (by omega); omega
theorem zz_654b630125 {a1 a2 a3 : Int32} (h0 : a1 < a2 - 48) (h1 : (0 ≤ a1) ∧ (a1 ≤ 3)) (h2 : a2 = 38) : a3 ≤ 242 := by simp only [Int32.le_iff_toInt_le, Int32.lt_iff_toInt_lt, ← Int32.toInt_inj, ne_eq] at *; have l0 : (48 : Int32).toInt = 48 := (by decide); have l1 : (0 : Int32).toInt = 0 := (by decide); have l2 : (3 : Int32).toInt = 3 := (by decide); have l3 : (38 : Int32).toInt = 38 := (by decide); have l4 : (242 : Int32).toInt = 242 := (by decide); have s0 : (a2 - 48).toInt = a2.toInt - 48 := q_tS (by decide) (by omega) (by omega); omega
theorem zz_e8dcec5be4 {a1 a2 a3 a4 a5 : Int32} (h0 : a1 < a2 - 48) (h1 : (0 ≤ a1) ∧ (a1 ≤ 3)) (h2 : a2 = 47) : (a3 = 0) → (a4 ≤ a5) := by simp only [Int32.le_iff_toInt_le, Int32.lt_iff_toInt_lt, ← Int32.toInt_inj, ne_eq] at *; have l0 : (48 : Int32).toInt = 48 := (by decide); have l1 : (0 : Int32).toInt = 0 := (by decide); have l2 : (3 : Int32).toInt = 3 := (by decide); have l3 : (47 : Int32).toInt = 47 := (by decide); have s0 : (a2 - 48).toInt = a2.toInt - 48 := q_tS (by decide) (by omega) (by omega); omega
theorem zz_a3bd8f787f {a1 a2 a3 : Int32} (h0 : a1 < a2 - 48) (h1 : (0 ≤ a1) ∧ (a1 ≤ 3)) (h2 : a2 = 47) : a3 ≤ 242 := by simp only [Int32.le_iff_toInt_le, Int32.lt_iff_toInt_lt, ← Int32.toInt_inj, ne_eq] at *; have l0 : (48 : Int32).toInt = 48 := (by decide); have l1 : (0 : Int32).toInt = 0 := (by decide); have l2 : (3 : Int32).toInt = 3 := (by decide); have l3 : (47 : Int32).toInt = 47 := (by decide); have l4 : (242 : Int32).toInt = 242 := (by decide); have s0 : (a2 - 48).toInt = a2.toInt - 48 := q_tS (by decide) (by omega) (by omega); omega
theorem zz_e04fcdf858 {a1 a2 a3 a4 a5 a6 a7 a8 a9 : Int32} (h0 : a1 = 1) (h1 : (0 ≤ a2) ∧ (a2 ≤ 240)) (h2 : a3 ≤ (if a4 = 0 then a5 else 300)) (h3 : a6 ≤ a3 + 1) (h4 : (a7 ≠ -1) → (a5 + 1 < a2)) (h5 : a4 = 0) (h6 : a8 < a7 - 48) (h7 : (0 ≤ a8) ∧ (a8 ≤ 3)) (h8 : (-1 ≤ a7) ∧ (a7 ≤ 126)) (h9 : (0 ≤ a5) ∧ (a5 ≤ 250)) (h10 : -100000 ≤ a3) (h11 : a3 ≤ 100000) : a6 ≤ (if a1 = 0 then a9 else 300) := by split at h2 <;> split <;> (simp only [Int32.le_iff_toInt_le, Int32.lt_iff_toInt_lt, ← Int32.toInt_inj, ne_eq] at *; have l0 : (1 : Int32).toInt = 1 := (by decide); have l1 : (0 : Int32).toInt = 0 := (by decide); have l2 : (240 : Int32).toInt = 240 := (by decide); have l3 : (300 : Int32).toInt = 300 := (by decide); have l4 : (-1 : Int32).toInt = -1 := (by decide); have l5 : (48 : Int32).toInt = 48 := (by decide); have l6 : (3 : Int32).toInt = 3 := (by decide); have l7 : (126 : Int32).toInt = 126 := (by decide); have l8 : (250 : Int32).toInt = 250 := (by decide); have l9 : (-100000 : Int32).toInt = -100000 := (by decide); have l10 : (100000 : Int32).toInt = 100000 := (by decide); have s0 : (a3 + 1).toInt = a3.toInt + 1 := q_tA (by decide) (by omega) (by omega); have s1 : (a5 + 1).toInt = a5.toInt + 1 := q_tA (by decide) (by omega) (by omega); have s2 : (a7 - 48).toInt = a7.toInt - 48 := q_tS (by decide) (by omega) (by omega); omega)
theorem zz_7317d07eb6 {a1 : Int32} (h0 : (-1 ≤ a1) ∧ (a1 ≤ 126)) : -1 ≤ 200 + a1 - 48 := by simp only [Int32.le_iff_toInt_le, Int32.lt_iff_toInt_lt, ← Int32.toInt_inj, ne_eq] at *; have l0 : (-1 : Int32).toInt = -1 := (by decide); have l1 : (126 : Int32).toInt = 126 := (by decide); have l2 : (200 : Int32).toInt = 200 := (by decide); have l3 : (48 : Int32).toInt = 48 := (by decide); have s0 : (200 + a1).toInt = 200 + a1.toInt := q_tA rfl (by omega) (by omega); have s1 : (200 + a1 - 48).toInt = (200 + a1).toInt - 48 := q_tS (by decide) (by omega) (by omega); omega
theorem zz_800bdb7b78 {a1 a2 : Int32} (h0 : ¬ (a1 < a2 - 48)) (h1 : (0 ≤ a1) ∧ (a1 ≤ 3)) (h2 : (-1 ≤ a2) ∧ (a2 ≤ 126)) : 200 + a2 - 48 ≤ 203 := by simp only [Int32.le_iff_toInt_le, Int32.lt_iff_toInt_lt, ← Int32.toInt_inj, ne_eq] at *; have l0 : (48 : Int32).toInt = 48 := (by decide); have l1 : (0 : Int32).toInt = 0 := (by decide); have l2 : (3 : Int32).toInt = 3 := (by decide); have l3 : (-1 : Int32).toInt = -1 := (by decide); have l4 : (126 : Int32).toInt = 126 := (by decide); have l5 : (200 : Int32).toInt = 200 := (by decide); have l6 : (203 : Int32).toInt = 203 := (by decide); have s0 : (a2 - 48).toInt = a2.toInt - 48 := q_tS (by decide) (by omega) (by omega); have s1 : (200 + a2).toInt = 200 + a2.toInt := q_tA rfl (by omega) (by omega); have s2 : (200 + a2 - 48).toInt = (200 + a2).toInt - 48 := q_tS (by decide) (by omega) (by omega); omega
theorem zz_2ee6350e9e {a1 a2 a3 a4 a5 a6 : Int32} (h0 : a1 = a2 + 2) (h1 : a3 = a4) (h2 : (a5 ≠ -1) → (a2 + 1 < a4)) (h3 : ¬ (a5 = -1)) (h4 : (0 ≤ a2) ∧ (a2 ≤ 250)) : (a6 = 0) → (a1 ≤ a3) := by simp only [Int32.le_iff_toInt_le, Int32.lt_iff_toInt_lt, ← Int32.toInt_inj, ne_eq] at *; have l0 : (2 : Int32).toInt = 2 := (by decide); have l1 : (-1 : Int32).toInt = -1 := (by decide); have l2 : (1 : Int32).toInt = 1 := (by decide); have l3 : (0 : Int32).toInt = 0 := (by decide); have l4 : (250 : Int32).toInt = 250 := (by decide); have s0 : (a2 + 2).toInt = a2.toInt + 2 := q_tA (by decide) (by omega) (by omega); have s1 : (a2 + 1).toInt = a2.toInt + 1 := q_tA (by decide) (by omega) (by omega); omega
theorem zz_265a939049 {a1 : Int32} (h0 : (-1 ≤ a1) ∧ (a1 ≤ 126)) : -1 ≤ a1 := by simp only [Int32.le_iff_toInt_le, Int32.lt_iff_toInt_lt, ← Int32.toInt_inj, ne_eq] at *; have l0 : (-1 : Int32).toInt = -1 := (by decide); have l1 : (126 : Int32).toInt = 126 := (by decide); omega
theorem zz_26ae85129d {a1 : Int32} (h0 : (-1 ≤ a1) ∧ (a1 ≤ 126)) : a1 ≤ 203 := by simp only [Int32.le_iff_toInt_le, Int32.lt_iff_toInt_lt, ← Int32.toInt_inj, ne_eq] at *; have l0 : (-1 : Int32).toInt = -1 := (by decide); have l1 : (126 : Int32).toInt = 126 := (by decide); have l2 : (203 : Int32).toInt = 203 := (by decide); omega
set_option maxHeartbeats 4000000 in
theorem p_Mod_replacement_10_n {L : q_L} {W : Nat → Prop} {h0 : z_H} {π : Nat → Nat → Option Nat} {N : Nat} {lo : Nat → Int32} (hqn : q_Q lo 301) : ∀ (n : Nat) (v0 : Nat) (v1 : Int32) (h : z_H), q_U L W h0 π h → q_M L π v0 → (∀ a, v0 ≤ a → a < v0 + 46 → W a) → (0 ≤ v1) → (v1 < 80) → (vI h v0 48 = 0 → vI h v0 41 ≤ vI h v0 3) → (vA h (v0 + 22) (vI h v0 42) ≤ vI h v0 41) → (vI h v0 41 ≤ 242) → (100000 ≤ N) → (lo n ≤ (if vI h v0 48 = 0 then vI h v0 41 else 300)) → qk (f_Mod_replacement_10 N  n v0 v1 h) (fun r => q_U L W h0 π r ∧ (∀ a k, ¬ (a = v0 ∧ (k = 5 ∨ k = 48 ∨ k = 41)) → vI r a k = vI h a k) ∧ (∀ a j, 0 ≤ j → ¬ (a = v0 + 11 ∨ a = v0 + 22 ∨ a = v0 + 28) → vA r a j = vA h a j) ∧ (∀ j, 0 ≤ j → j ≠ vI h v0 42 → vA r (v0 + 22) j = vA h (v0 + 22) j) ∧ (∀ j, 0 ≤ j → (j < (300 * vI h v0 42 + vA h (v0 + 22) (vI h v0 42)) ∨ 300 * vI h v0 42 + 300 ≤ j) → vA r (v0 + 28) j = vA h (v0 + 28) j) ∧ (∀ j, 0 ≤ j → j ≠ v1 → vA r (v0 + 11) j = vA h (v0 + 11) j) ∧ (vI r v0 48 = 0 → vI h v0 41 < vI r v0 41 ∧ vI r v0 41 ≤ vI h v0 3) ∧ (vA h (v0 + 22) (vI h v0 42) ≤ vA r (v0 + 22) (vI h v0 42) ∧ vA r (v0 + 22) (vI h v0 42) ≤ vI r v0 41) ∧ (vI h v0 41 ≤ vI r v0 41 ∧ vI r v0 41 ≤ 244) ∧ (vA r (v0 + 11) v1 = 300 * vI h v0 42 + vA r (v0 + 22) (vI h v0 42))) := by
  intro n
  induction n with
  | zero => intro v0 v1 h T kv0 wM s0 s1 hl hc ab hN hms; have rg_at := g_Mo_41 T kv0; have hz := hqn.1; exact absurd hms (by grind)
  | succ n ih =>
    intro v0 v1 h T kv0 wM s0 s1 hl hc ab hN hms
    obtain ⟨hq1, hq2, hq3⟩ := hqn.2 n
    rw [f_Mod_replacement_10]
    refine r_Mo_48 T kv0 ?_
    intro x1 ex1
    subst ex1
    refine qk_if (fun cc1 => ?_) (fun cc1 => ?_)
    · skip
      refine r_Mo_o T kv0 ?_
      refine c_Mod_here2 (v0 := v0) T kv0 ?_
      intro yr4 gr4_0 gr4_1 gr4_2 gr4_3 gr4_4
      dsimp only
      refine qk_if (fun cc2 => ?_) (fun cc2 => ?_)
      · skip
        unfold f_Mod_replacement_241
        refine r_Mo_41 T kv0 ?_
        intro x1i3 ex1i3 lx1i3 ux1i3
        subst ex1i3
        have o4 := g_Mo_41 T kv0
        refine w_Mo_41 T kv0 (wM _ (by omega) (by omega)) (zz_5664edf06b o4) (zz_c81e5df24d ab o4) ?_
        intro h2i3 Th2i3 ih2i3 ah2i3
        refine r_Mo_16 Th2i3 kv0 ?_
        refine r_Mo_o Th2i3 kv0 ?_
        refine c_Mod_stored (v0 := v0) Th2i3 kv0 ?_
        intro yr5i3 gr5i3_0
        have qh42_gr5i3_0 : vI h2i3 v0 42 = (vI h v0 42) := by rw [ih2i3 v0 42, if_neg (fun z => absurd z.2 (by decide))]
        rw [qh42_gr5i3_0] at gr5i3_0
        dsimp only
        have o5 := g_Mo_42 T kv0
        have o6 : vA h2i3 (v0 + 22) (vI h v0 42) = vA h (v0 + 22) (vI h v0 42) := (by rw [ah2i3 (v0 + 22) (vI h v0 42)])
        have o7 := g_Mo_e22 T kv0 (vI h v0 42)
        refine w_Mo_e11 Th2i3 kv0 (wM _ (by omega) (by omega)) s0 s1 (zz_5c2d5e4809 gr5i3_0 o5 o6 o7) (zz_cfc7a49901 gr5i3_0 o5 o6 o7) ?_
        intro h6i3 Th6i3 ih6i3 ah6i3
        refine qk_some ?_
        have o8 : vI h6i3 v0 41 = (vI h v0 41) + 1 := (by rw [ih6i3 v0 41, ih2i3 v0 41, if_pos ⟨rfl, rfl⟩])
        have o9 : vA h6i3 (v0 + 22) (vI h v0 42) = vA h (v0 + 22) (vI h v0 42) := (by rw [ah6i3 (v0 + 22) (vI h v0 42) (g_Mo_42 T kv0).1, if_neg (fun z => absurd z.1 (by omega)), ah2i3 (v0 + 22) (vI h v0 42)])
        have o10 : vA h6i3 (v0 + 11) v1 = yr5i3 := (by rw [ah6i3 (v0 + 11) v1 s0, if_pos ⟨rfl, rfl⟩])
        exact ⟨Th6i3, (by clear ih; show ∀ a k, ¬ (a = v0 ∧ (k = 5 ∨ k = 48 ∨ k = 41)) → vI h6i3 a k = vI h a k; intro a k n0; rw [ih6i3, ih2i3, if_neg (by omega)]), (by clear ih; show ∀ a j, 0 ≤ j → ¬ (a = v0 + 11 ∨ a = v0 + 22 ∨ a = v0 + 28) → vA h6i3 a j = vA h a j; intro a j j0 n0; rw [ah6i3 a j j0, if_neg (by omega), ah2i3]), (by clear ih; show ∀ j, 0 ≤ j → j ≠ vI h v0 42 → vA h6i3 (v0 + 22) j = vA h (v0 + 22) j; intro j j0 n0; rw [ah6i3 (v0 + 22) j j0, if_neg (fun z => absurd z.1 (by omega)), ah2i3 (v0 + 22) j]), (by clear ih; show ∀ j, 0 ≤ j → (j < (300 * vI h v0 42 + vA h (v0 + 22) (vI h v0 42)) ∨ 300 * vI h v0 42 + 300 ≤ j) → vA h6i3 (v0 + 28) j = vA h (v0 + 28) j; intro j j0 n0; rw [ah6i3 (v0 + 28) j j0, if_neg (fun z => absurd z.1 (by omega)), ah2i3 (v0 + 28) j]), (by clear ih; show ∀ j, 0 ≤ j → j ≠ v1 → vA h6i3 (v0 + 11) j = vA h (v0 + 11) j; intro j j0 n0; rw [ah6i3 (v0 + 11) j j0, if_neg (fun z => absurd z.2 (zz_946771669d n0)), ah2i3 (v0 + 11) j]), (zz_810949327d o8 gr4_2 cc2 o4), (zz_2a5cdb1247 o9 o8 hc o4), (zz_6acff39744 o8 ab o4), (zz_fa851e07c4 o10 o9 gr5i3_0 o6 o5 o7)⟩
      · skip
        refine r_Mo_o T kv0 ?_
        refine c_Mod_here2 (v0 := v0) T kv0 ?_
        intro yr7 gr7_0 gr7_1 gr7_2 gr7_3 gr7_4
        dsimp only
        refine qk_bs ?_
        refine r_Mo_o T kv0 ?_
        refine c_Mod_behind (v0 := v0) T kv0 ?_
        intro yr10 gr10_0 gr10_1
        dsimp only
        refine qk_bs ?_
        refine qk_if (fun cc11 => ?_) (fun cc11 => ?_)
        · skip
          refine r_Mo_3 T kv0 ?_
          intro x40 ex40 lx40 ux40
          subst ex40
          refine r_Mo_o T kv0 ?_
          refine c_Mod_wrong (v0 := v0) (v1 := (vI h v0 3)) T kv0 wM ?_
          intro r42 Tr42 gr42_0 gr42_1 gr42_2
          have o12 : vA r42 (v0 + 22) (vI h v0 42) = vA h (v0 + 22) (vI h v0 42) := (by rw [gr42_2 (v0 + 22) (vI h v0 42)])
          have o13 : vI r42 v0 41 = vI h v0 41 := (by rw [gr42_0 v0 41 (by omega)])
          refine qk_mono (ih (v0) (v1) r42 Tr42 kv0 wM s0 s1 (zz_72bcbc58f7 gr42_1) (by show vA r42 (v0 + 22) (vI r42 v0 42) ≤ vI r42 v0 41; have qc1 : vI r42 v0 42 = (vI h v0 42) := (by rw [gr42_0 v0 42 (by omega)]); rw [qc1]; exact zz_3b376fc0b5 o12 o13 hc) (zz_01413b5888 o13 ab) hN (zz_eac49e2e22 ab hms hq1 gr42_1 cc1 hq2 hq3)) ?_
          rintro hz ⟨Tz, g0, g1, g2, g3, g4, g5, g6, g7, g8⟩
          try dsimp only at *
          have qh42_g0 : vI r42 v0 42 = (vI h v0 42) := by rw [gr42_0 v0 42 (by omega)]
          rw [qh42_g0] at g2
          rw [qh42_g0] at g3
          rw [qh42_g0] at g6
          rw [qh42_g0] at g8
          have o15 := g_Mo_42 T kv0
          have o16 := g_Mo_e22 T kv0 (vI h v0 42)
          have o17 : vI r42 v0 3 = vI h v0 3 := (by rw [gr42_0 v0 3 (by omega)])
          have o18 := g_Mo_e22 Tz kv0 (vI h v0 42)
          exact ⟨Tz, (by clear ih; show ∀ a k, ¬ (a = v0 ∧ (k = 5 ∨ k = 48 ∨ k = 41)) → vI hz a k = vI h a k; intro a k n0; rw [g0 a k (by omega), gr42_0 a k (by omega)]), (by clear ih; show ∀ a j, 0 ≤ j → ¬ (a = v0 + 11 ∨ a = v0 + 22 ∨ a = v0 + 28) → vA hz a j = vA h a j; intro a j j0 n0; rw [g1 a j j0 (by omega), gr42_2 a j]), (by clear ih; show ∀ j, 0 ≤ j → j ≠ vI h v0 42 → vA hz (v0 + 22) j = vA h (v0 + 22) j; intro j j0 n0; rw [g2 j j0 n0, gr42_2 (v0 + 22) j]), (by clear ih; show ∀ j, 0 ≤ j → (j < (300 * vI h v0 42 + vA h (v0 + 22) (vI h v0 42)) ∨ 300 * vI h v0 42 + 300 ≤ j) → vA hz (v0 + 28) j = vA h (v0 + 28) j; intro j j0 n0; rw [g3 j j0 (zz_ced763ca4e o12 n0 o15 o16), gr42_2 (v0 + 28) j]), (by clear ih; show ∀ j, 0 ≤ j → j ≠ v1 → vA hz (v0 + 11) j = vA h (v0 + 11) j; intro j j0 n0; rw [g4 j j0 n0, gr42_2 (v0 + 11) j]), (zz_cf91319686 g5 o13 o17), (zz_3745968dd1 g6 o12), (zz_f8c4aeaa3c o13 g7), (zz_3e1d7f49dd g8 o15 o18)⟩
        · skip
          refine qk_if (fun cc19 => ?_) (fun cc19 => ?_)
          · skip
            refine r_Mo_41 T kv0 ?_
            intro x37 ex37 lx37 ux37
            subst ex37
            refine r_Mo_o T kv0 ?_
            refine c_Mod_wrong (v0 := v0) (v1 := (vI h v0 41)) T kv0 wM ?_
            intro r39 Tr39 gr39_0 gr39_1 gr39_2
            have o20 : vA r39 (v0 + 22) (vI h v0 42) = vA h (v0 + 22) (vI h v0 42) := (by rw [gr39_2 (v0 + 22) (vI h v0 42)])
            have o21 : vI r39 v0 41 = vI h v0 41 := (by rw [gr39_0 v0 41 (by omega)])
            refine qk_mono (ih (v0) (v1) r39 Tr39 kv0 wM s0 s1 (zz_72bcbc58f7 gr39_1) (by show vA r39 (v0 + 22) (vI r39 v0 42) ≤ vI r39 v0 41; have qc1 : vI r39 v0 42 = (vI h v0 42) := (by rw [gr39_0 v0 42 (by omega)]); rw [qc1]; exact zz_3b376fc0b5 o20 o21 hc) (zz_01413b5888 o21 ab) hN (zz_612c40eabe hms hq1 gr7_3 gr39_1 cc1 cc19 hq2 hq3)) ?_
            rintro hz ⟨Tz, g0, g1, g2, g3, g4, g5, g6, g7, g8⟩
            try dsimp only at *
            have qh42_g0 : vI r39 v0 42 = (vI h v0 42) := by rw [gr39_0 v0 42 (by omega)]
            rw [qh42_g0] at g2
            rw [qh42_g0] at g3
            rw [qh42_g0] at g6
            rw [qh42_g0] at g8
            have o23 := g_Mo_42 T kv0
            have o24 := g_Mo_e22 T kv0 (vI h v0 42)
            have o25 : vI r39 v0 3 = vI h v0 3 := (by rw [gr39_0 v0 3 (by omega)])
            have o26 := g_Mo_e22 Tz kv0 (vI h v0 42)
            exact ⟨Tz, (by clear ih; show ∀ a k, ¬ (a = v0 ∧ (k = 5 ∨ k = 48 ∨ k = 41)) → vI hz a k = vI h a k; intro a k n0; rw [g0 a k (by omega), gr39_0 a k (by omega)]), (by clear ih; show ∀ a j, 0 ≤ j → ¬ (a = v0 + 11 ∨ a = v0 + 22 ∨ a = v0 + 28) → vA hz a j = vA h a j; intro a j j0 n0; rw [g1 a j j0 (by omega), gr39_2 a j]), (by clear ih; show ∀ j, 0 ≤ j → j ≠ vI h v0 42 → vA hz (v0 + 22) j = vA h (v0 + 22) j; intro j j0 n0; rw [g2 j j0 n0, gr39_2 (v0 + 22) j]), (by clear ih; show ∀ j, 0 ≤ j → (j < (300 * vI h v0 42 + vA h (v0 + 22) (vI h v0 42)) ∨ 300 * vI h v0 42 + 300 ≤ j) → vA hz (v0 + 28) j = vA h (v0 + 28) j; intro j j0 n0; rw [g3 j j0 (zz_ced763ca4e o20 n0 o23 o24), gr39_2 (v0 + 28) j]), (by clear ih; show ∀ j, 0 ≤ j → j ≠ v1 → vA hz (v0 + 11) j = vA h (v0 + 11) j; intro j j0 n0; rw [g4 j j0 n0, gr39_2 (v0 + 11) j]), (zz_cf91319686 g5 o21 o25), (zz_3745968dd1 g6 o20), (zz_f8c4aeaa3c o21 g7), (zz_3e1d7f49dd g8 o23 o26)⟩
          · skip
            refine qk_if (fun cc27 => ?_) (fun cc27 => ?_)
            · skip
              refine r_Mo_o T kv0 ?_
              have o28 := g_Mo_41 T kv0
              refine c_Mod_keep (v0 := v0) (v1 := 200) T kv0 wM (by decide) (by decide) (zz_b4b1647785 hc o28) ?_
              intro r34 Tr34 gr34_0 gr34_1
              refine r_Mo_41 Tr34 kv0 ?_
              intro x35 ex35 lx35 ux35
              have sx35 : (vI h v0 41) = x35 := (ex35.trans (by rw [gr34_0 v0 41])).symm
              subst sx35
              refine w_Mo_41 Tr34 kv0 (wM _ (by omega) (by omega)) (zz_5664edf06b o28) (zz_c81e5df24d ab o28) ?_
              intro h36 Th36 ih36 ah36
              have o29 : vI h36 v0 41 = (vI h v0 41) + 1 := (by rw [ih36 v0 41, if_pos ⟨rfl, rfl⟩])
              have o30 : vI h36 v0 3 = vI h v0 3 := (by rw [ih36 v0 3, if_neg (fun z => absurd z.2 (by decide)), gr34_0 v0 3])
              have o31 : vA h36 (v0 + 22) (vI h v0 42) = (vA h (v0 + 22) (vI h v0 42)) + 1 := (by rw [ah36 (v0 + 22) (vI h v0 42), gr34_1 (v0 + 22) (vI h v0 42) (g_Mo_42 T kv0).1, if_pos ⟨rfl, rfl⟩])
              have o32 := g_Mo_e22 T kv0 (vI h v0 42)
              have o33 := g_Mo_3 T kv0
              refine qk_mono (ih (v0) (v1) h36 Th36 kv0 wM s0 s1 (zz_d197c3e214 o29 o30 gr7_2 cc27 o28) (by show vA h36 (v0 + 22) (vI h36 v0 42) ≤ vI h36 v0 41; have qc1 : vI h36 v0 42 = (vI h v0 42) := (by rw [ih36 v0 42, if_neg (fun z => absurd z.2 (by decide)), gr34_0 v0 42]); rw [qc1]; exact zz_e0bdb35105 o31 o29 hc o28 o32) (zz_8b276ad5c1 o29 o33 gr7_2 cc27 o28) hN (zz_395d806045 o29 ab hms hq1 cc1 hq2 hq3 o28)) ?_
              rintro hz ⟨Tz, g0, g1, g2, g3, g4, g5, g6, g7, g8⟩
              try dsimp only at *
              have qh42_g0 : vI h36 v0 42 = (vI h v0 42) := by rw [ih36 v0 42, if_neg (fun z => absurd z.2 (by decide)), gr34_0 v0 42]
              rw [qh42_g0] at g2
              rw [qh42_g0] at g3
              rw [qh42_g0] at g6
              rw [qh42_g0] at g8
              have o35 := g_Mo_42 T kv0
              have o36 := g_Mo_e22 Tz kv0 (vI h v0 42)
              exact ⟨Tz, (by clear ih; show ∀ a k, ¬ (a = v0 ∧ (k = 5 ∨ k = 48 ∨ k = 41)) → vI hz a k = vI h a k; intro a k n0; rw [g0 a k (by omega), ih36, if_neg (by omega), gr34_0 a k]), (by clear ih; show ∀ a j, 0 ≤ j → ¬ (a = v0 + 11 ∨ a = v0 + 22 ∨ a = v0 + 28) → vA hz a j = vA h a j; intro a j j0 n0; rw [g1 a j j0 (by omega), ah36, gr34_1 a j j0, if_neg (by omega), if_neg (by omega)]), (by clear ih; show ∀ j, 0 ≤ j → j ≠ vI h v0 42 → vA hz (v0 + 22) j = vA h (v0 + 22) j; intro j j0 n0; rw [g2 j j0 n0, ah36 (v0 + 22) j, gr34_1 (v0 + 22) j j0, if_neg (fun z => absurd z.2 (zz_946771669d n0)), if_neg (fun z => absurd z.1 (by omega))]), (by clear ih; show ∀ j, 0 ≤ j → (j < (300 * vI h v0 42 + vA h (v0 + 22) (vI h v0 42)) ∨ 300 * vI h v0 42 + 300 ≤ j) → vA hz (v0 + 28) j = vA h (v0 + 28) j; intro j j0 n0; rw [g3 j j0 (zz_d5e09a6e7f o31 n0 o35 o32), ah36 (v0 + 28) j, gr34_1 (v0 + 28) j j0, if_neg (fun z => absurd z.1 (by omega)), if_neg (fun z => absurd z.2 (zz_039ceab827 o32 n0 o35))]), (by clear ih; show ∀ j, 0 ≤ j → j ≠ v1 → vA hz (v0 + 11) j = vA h (v0 + 11) j; intro j j0 n0; rw [g4 j j0 n0, ah36 (v0 + 11) j, gr34_1 (v0 + 11) j j0, if_neg (fun z => absurd z.1 (by omega)), if_neg (fun z => absurd z.1 (by omega))]), (zz_a5143cc316 g5 o29 o30 o28), (zz_926e2567f5 g6 o31 o32), (zz_b8fccb5cff o29 g7 o28), (zz_3e1d7f49dd g8 o35 o36)⟩
            · skip
              refine qk_if (fun cc37 => ?_) (fun cc37 => ?_)
              · skip
                refine qk_if (fun cc38 => ?_) (fun cc38 => ?_)
                · skip
                  refine r_Mo_3 T kv0 ?_
                  intro x26 ex26 lx26 ux26
                  subst ex26
                  refine r_Mo_o T kv0 ?_
                  refine c_Mod_wrong (v0 := v0) (v1 := (vI h v0 3)) T kv0 wM ?_
                  intro r28 Tr28 gr28_0 gr28_1 gr28_2
                  unfold f_Mod_replacement_228
                  refine r_Mo_41 Tr28 kv0 ?_
                  intro x1i39 ex1i39 lx1i39 ux1i39
                  have sx1i39 : (vI h v0 41) = x1i39 := (ex1i39.trans (by rw [gr28_0 v0 41 (by omega)])).symm
                  subst sx1i39
                  have o40 := g_Mo_41 T kv0
                  refine w_Mo_41 Tr28 kv0 (wM _ (by omega) (by omega)) (zz_6ac285591f o40) (zz_2c7fd931f4 ab o40) ?_
                  intro h2i39 Th2i39 ih2i39 ah2i39
                  have o41 : vI h2i39 v0 48 = 1 := (by rw [ih2i39 v0 48, if_neg (fun z => absurd z.2 (by decide)), gr28_1])
                  have o42 : vA h2i39 (v0 + 22) (vI h v0 42) = vA h (v0 + 22) (vI h v0 42) := (by rw [ah2i39 (v0 + 22) (vI h v0 42), gr28_2 (v0 + 22) (vI h v0 42)])
                  have o43 : vI h2i39 v0 41 = (vI h v0 41) + 2 := (by rw [ih2i39 v0 41, if_pos ⟨rfl, rfl⟩])
                  have o44 := g_Mo_3 T kv0
                  refine qk_mono (ih (v0) (v1) h2i39 Th2i39 kv0 wM s0 s1 (zz_72bcbc58f7 o41) (by show vA h2i39 (v0 + 22) (vI h2i39 v0 42) ≤ vI h2i39 v0 41; have qc1 : vI h2i39 v0 42 = (vI h v0 42) := (by rw [ih2i39 v0 42, if_neg (fun z => absurd z.2 (by decide)), gr28_0 v0 42 (by omega)]); rw [qc1]; exact zz_d3cc64d506 o42 o43 hc o40) (zz_4c3af4b9d4 o43 o44 gr7_2 cc37 o40) hN (zz_8846049fc9 o41 hms hq1 gr7_3 cc1 cc37 hq2 hq3)) ?_
                  rintro hz ⟨Tz, g0, g1, g2, g3, g4, g5, g6, g7, g8⟩
                  try dsimp only at *
                  have qh42_g0 : vI h2i39 v0 42 = (vI h v0 42) := by rw [ih2i39 v0 42, if_neg (fun z => absurd z.2 (by decide)), gr28_0 v0 42 (by omega)]
                  rw [qh42_g0] at g2
                  rw [qh42_g0] at g3
                  rw [qh42_g0] at g6
                  rw [qh42_g0] at g8
                  have o46 := g_Mo_42 T kv0
                  have o47 := g_Mo_e22 T kv0 (vI h v0 42)
                  have o48 : vI h2i39 v0 3 = vI h v0 3 := (by rw [ih2i39 v0 3, if_neg (fun z => absurd z.2 (by decide)), gr28_0 v0 3 (by omega)])
                  have o49 := g_Mo_e22 Tz kv0 (vI h v0 42)
                  exact ⟨Tz, (by clear ih; show ∀ a k, ¬ (a = v0 ∧ (k = 5 ∨ k = 48 ∨ k = 41)) → vI hz a k = vI h a k; intro a k n0; rw [g0 a k (by omega), ih2i39, if_neg (by omega), gr28_0 a k (by omega)]), (by clear ih; show ∀ a j, 0 ≤ j → ¬ (a = v0 + 11 ∨ a = v0 + 22 ∨ a = v0 + 28) → vA hz a j = vA h a j; intro a j j0 n0; rw [g1 a j j0 (by omega), ah2i39, gr28_2 a j]), (by clear ih; show ∀ j, 0 ≤ j → j ≠ vI h v0 42 → vA hz (v0 + 22) j = vA h (v0 + 22) j; intro j j0 n0; rw [g2 j j0 n0, ah2i39 (v0 + 22) j, gr28_2 (v0 + 22) j]), (by clear ih; show ∀ j, 0 ≤ j → (j < (300 * vI h v0 42 + vA h (v0 + 22) (vI h v0 42)) ∨ 300 * vI h v0 42 + 300 ≤ j) → vA hz (v0 + 28) j = vA h (v0 + 28) j; intro j j0 n0; rw [g3 j j0 (zz_ced763ca4e o42 n0 o46 o47), ah2i39 (v0 + 28) j, gr28_2 (v0 + 28) j]), (by clear ih; show ∀ j, 0 ≤ j → j ≠ v1 → vA hz (v0 + 11) j = vA h (v0 + 11) j; intro j j0 n0; rw [g4 j j0 n0, ah2i39 (v0 + 11) j, gr28_2 (v0 + 11) j]), (zz_704f037905 g5 o43 o48 o40), (zz_3745968dd1 g6 o42), (zz_a7e7eeafdf o43 g7 o40), (zz_3e1d7f49dd g8 o46 o49)⟩
                · skip
                  refine c_Mod_in (v0 := (yr10)) (v1 := 49) (v2 := 51) T ?_
                  intro yr17 gr17_0 gr17_1
                  dsimp only
                  refine qk_if (fun cc50 => ?_) (fun cc50 => ?_)
                  · skip
                    unfold f_Mod_replacement_179
                    refine qk_if (fun cc52 => ?_) (fun cc52 => ?_)
                    · skip
                      unfold f_Mod_replacement_197
                      refine r_Mo_o T kv0 ?_
                      have o54 := g_Mo_41 T kv0
                      refine c_Mod_keep (v0 := v0) (v1 := (yr10)) T kv0 wM (zz_2d9dda0af0 cc52) (zz_e1a867b2df cc52) (zz_b4b1647785 hc o54) ?_
                      intro r2i53 Tr2i53 gr2i53_0 gr2i53_1
                      unfold f_Mod_replacement_228
                      refine r_Mo_41 Tr2i53 kv0 ?_
                      intro x1i55 ex1i55 lx1i55 ux1i55
                      have sx1i55 : (vI h v0 41) = x1i55 := (ex1i55.trans (by rw [gr2i53_0 v0 41])).symm
                      subst sx1i55
                      refine w_Mo_41 Tr2i53 kv0 (wM _ (by omega) (by omega)) (zz_6ac285591f o54) (zz_2c7fd931f4 ab o54) ?_
                      intro h2i55 Th2i55 ih2i55 ah2i55
                      have o56 : vI h2i55 v0 41 = (vI h v0 41) + 2 := (by rw [ih2i55 v0 41, if_pos ⟨rfl, rfl⟩])
                      have o57 : vI h2i55 v0 3 = vI h v0 3 := (by rw [ih2i55 v0 3, if_neg (fun z => absurd z.2 (by decide)), gr2i53_0 v0 3])
                      have o58 : vA h2i55 (v0 + 22) (vI h v0 42) = (vA h (v0 + 22) (vI h v0 42)) + 1 := (by rw [ah2i55 (v0 + 22) (vI h v0 42), gr2i53_1 (v0 + 22) (vI h v0 42) (g_Mo_42 T kv0).1, if_pos ⟨rfl, rfl⟩])
                      have o59 := g_Mo_e22 T kv0 (vI h v0 42)
                      have o60 := g_Mo_3 T kv0
                      refine qk_mono (ih (v0) (v1) h2i55 Th2i55 kv0 wM s0 s1 (zz_2f861acd99 o56 o57 gr10_1 cc52 o54) (by show vA h2i55 (v0 + 22) (vI h2i55 v0 42) ≤ vI h2i55 v0 41; have qc1 : vI h2i55 v0 42 = (vI h v0 42) := (by rw [ih2i55 v0 42, if_neg (fun z => absurd z.2 (by decide)), gr2i53_0 v0 42]); rw [qc1]; exact zz_259b3032e8 o58 o56 hc o54 o59) (zz_4c3af4b9d4 o56 o60 gr7_2 cc37 o54) hN (zz_982f166efd o56 ab hms hq1 cc1 hq2 hq3 o54)) ?_
                      rintro hz ⟨Tz, g0, g1, g2, g3, g4, g5, g6, g7, g8⟩
                      try dsimp only at *
                      have qh42_g0 : vI h2i55 v0 42 = (vI h v0 42) := by rw [ih2i55 v0 42, if_neg (fun z => absurd z.2 (by decide)), gr2i53_0 v0 42]
                      rw [qh42_g0] at g2
                      rw [qh42_g0] at g3
                      rw [qh42_g0] at g6
                      rw [qh42_g0] at g8
                      have o62 := g_Mo_42 T kv0
                      have o63 := g_Mo_e22 Tz kv0 (vI h v0 42)
                      exact ⟨Tz, (by clear ih; show ∀ a k, ¬ (a = v0 ∧ (k = 5 ∨ k = 48 ∨ k = 41)) → vI hz a k = vI h a k; intro a k n0; rw [g0 a k (by omega), ih2i55, if_neg (by omega), gr2i53_0 a k]), (by clear ih; show ∀ a j, 0 ≤ j → ¬ (a = v0 + 11 ∨ a = v0 + 22 ∨ a = v0 + 28) → vA hz a j = vA h a j; intro a j j0 n0; rw [g1 a j j0 (by omega), ah2i55, gr2i53_1 a j j0, if_neg (by omega), if_neg (by omega)]), (by clear ih; show ∀ j, 0 ≤ j → j ≠ vI h v0 42 → vA hz (v0 + 22) j = vA h (v0 + 22) j; intro j j0 n0; rw [g2 j j0 n0, ah2i55 (v0 + 22) j, gr2i53_1 (v0 + 22) j j0, if_neg (fun z => absurd z.2 (zz_946771669d n0)), if_neg (fun z => absurd z.1 (by omega))]), (by clear ih; show ∀ j, 0 ≤ j → (j < (300 * vI h v0 42 + vA h (v0 + 22) (vI h v0 42)) ∨ 300 * vI h v0 42 + 300 ≤ j) → vA hz (v0 + 28) j = vA h (v0 + 28) j; intro j j0 n0; rw [g3 j j0 (zz_d5e09a6e7f o58 n0 o62 o59), ah2i55 (v0 + 28) j, gr2i53_1 (v0 + 28) j j0, if_neg (fun z => absurd z.1 (by omega)), if_neg (fun z => absurd z.2 (zz_039ceab827 o59 n0 o62))]), (by clear ih; show ∀ j, 0 ≤ j → j ≠ v1 → vA hz (v0 + 11) j = vA h (v0 + 11) j; intro j j0 n0; rw [g4 j j0 n0, ah2i55 (v0 + 11) j, gr2i53_1 (v0 + 11) j j0, if_neg (fun z => absurd z.1 (by omega)), if_neg (fun z => absurd z.1 (by omega))]), (zz_704f037905 g5 o56 o57 o54), (zz_926e2567f5 g6 o58 o59), (zz_a7e7eeafdf o56 g7 o54), (zz_3e1d7f49dd g8 o62 o63)⟩
                    · skip
                      refine qk_if (fun cc64 => ?_) (fun cc64 => ?_)
                      · skip
                        unfold f_Mod_replacement_197
                        refine r_Mo_o T kv0 ?_
                        have o66 := g_Mo_41 T kv0
                        refine c_Mod_keep (v0 := v0) (v1 := (yr10)) T kv0 wM (zz_68802f2aaa cc64) (zz_b0bef9a10e cc64) (zz_b4b1647785 hc o66) ?_
                        intro r2i65 Tr2i65 gr2i65_0 gr2i65_1
                        unfold f_Mod_replacement_228
                        refine r_Mo_41 Tr2i65 kv0 ?_
                        intro x1i67 ex1i67 lx1i67 ux1i67
                        have sx1i67 : (vI h v0 41) = x1i67 := (ex1i67.trans (by rw [gr2i65_0 v0 41])).symm
                        subst sx1i67
                        refine w_Mo_41 Tr2i65 kv0 (wM _ (by omega) (by omega)) (zz_6ac285591f o66) (zz_2c7fd931f4 ab o66) ?_
                        intro h2i67 Th2i67 ih2i67 ah2i67
                        have o68 : vI h2i67 v0 41 = (vI h v0 41) + 2 := (by rw [ih2i67 v0 41, if_pos ⟨rfl, rfl⟩])
                        have o69 : vI h2i67 v0 3 = vI h v0 3 := (by rw [ih2i67 v0 3, if_neg (fun z => absurd z.2 (by decide)), gr2i65_0 v0 3])
                        have o70 : vA h2i67 (v0 + 22) (vI h v0 42) = (vA h (v0 + 22) (vI h v0 42)) + 1 := (by rw [ah2i67 (v0 + 22) (vI h v0 42), gr2i65_1 (v0 + 22) (vI h v0 42) (g_Mo_42 T kv0).1, if_pos ⟨rfl, rfl⟩])
                        have o71 := g_Mo_e22 T kv0 (vI h v0 42)
                        have o72 := g_Mo_3 T kv0
                        refine qk_mono (ih (v0) (v1) h2i67 Th2i67 kv0 wM s0 s1 (zz_5592b3a01a o68 o69 gr10_1 cc64 o66) (by show vA h2i67 (v0 + 22) (vI h2i67 v0 42) ≤ vI h2i67 v0 41; have qc1 : vI h2i67 v0 42 = (vI h v0 42) := (by rw [ih2i67 v0 42, if_neg (fun z => absurd z.2 (by decide)), gr2i65_0 v0 42]); rw [qc1]; exact zz_259b3032e8 o70 o68 hc o66 o71) (zz_4c3af4b9d4 o68 o72 gr7_2 cc37 o66) hN (zz_982f166efd o68 ab hms hq1 cc1 hq2 hq3 o66)) ?_
                        rintro hz ⟨Tz, g0, g1, g2, g3, g4, g5, g6, g7, g8⟩
                        try dsimp only at *
                        have qh42_g0 : vI h2i67 v0 42 = (vI h v0 42) := by rw [ih2i67 v0 42, if_neg (fun z => absurd z.2 (by decide)), gr2i65_0 v0 42]
                        rw [qh42_g0] at g2
                        rw [qh42_g0] at g3
                        rw [qh42_g0] at g6
                        rw [qh42_g0] at g8
                        have o74 := g_Mo_42 T kv0
                        have o75 := g_Mo_e22 Tz kv0 (vI h v0 42)
                        exact ⟨Tz, (by clear ih; show ∀ a k, ¬ (a = v0 ∧ (k = 5 ∨ k = 48 ∨ k = 41)) → vI hz a k = vI h a k; intro a k n0; rw [g0 a k (by omega), ih2i67, if_neg (by omega), gr2i65_0 a k]), (by clear ih; show ∀ a j, 0 ≤ j → ¬ (a = v0 + 11 ∨ a = v0 + 22 ∨ a = v0 + 28) → vA hz a j = vA h a j; intro a j j0 n0; rw [g1 a j j0 (by omega), ah2i67, gr2i65_1 a j j0, if_neg (by omega), if_neg (by omega)]), (by clear ih; show ∀ j, 0 ≤ j → j ≠ vI h v0 42 → vA hz (v0 + 22) j = vA h (v0 + 22) j; intro j j0 n0; rw [g2 j j0 n0, ah2i67 (v0 + 22) j, gr2i65_1 (v0 + 22) j j0, if_neg (fun z => absurd z.2 (zz_946771669d n0)), if_neg (fun z => absurd z.1 (by omega))]), (by clear ih; show ∀ j, 0 ≤ j → (j < (300 * vI h v0 42 + vA h (v0 + 22) (vI h v0 42)) ∨ 300 * vI h v0 42 + 300 ≤ j) → vA hz (v0 + 28) j = vA h (v0 + 28) j; intro j j0 n0; rw [g3 j j0 (zz_d5e09a6e7f o70 n0 o74 o71), ah2i67 (v0 + 28) j, gr2i65_1 (v0 + 28) j j0, if_neg (fun z => absurd z.1 (by omega)), if_neg (fun z => absurd z.2 (zz_039ceab827 o71 n0 o74))]), (by clear ih; show ∀ j, 0 ≤ j → j ≠ v1 → vA hz (v0 + 11) j = vA h (v0 + 11) j; intro j j0 n0; rw [g4 j j0 n0, ah2i67 (v0 + 11) j, gr2i65_1 (v0 + 11) j j0, if_neg (fun z => absurd z.1 (by omega)), if_neg (fun z => absurd z.1 (by omega))]), (zz_704f037905 g5 o68 o69 o66), (zz_926e2567f5 g6 o70 o71), (zz_a7e7eeafdf o68 g7 o66), (zz_3e1d7f49dd g8 o74 o75)⟩
                      · skip
                        refine qk_if (fun cc76 => ?_) (fun cc76 => ?_)
                        · skip
                          unfold f_Mod_replacement_197
                          refine r_Mo_o T kv0 ?_
                          have o78 := g_Mo_41 T kv0
                          refine c_Mod_keep (v0 := v0) (v1 := (yr10)) T kv0 wM (zz_8c2a257ba7 cc76) (zz_6bd0cf1b3d cc76) (zz_b4b1647785 hc o78) ?_
                          intro r2i77 Tr2i77 gr2i77_0 gr2i77_1
                          unfold f_Mod_replacement_228
                          refine r_Mo_41 Tr2i77 kv0 ?_
                          intro x1i79 ex1i79 lx1i79 ux1i79
                          have sx1i79 : (vI h v0 41) = x1i79 := (ex1i79.trans (by rw [gr2i77_0 v0 41])).symm
                          subst sx1i79
                          refine w_Mo_41 Tr2i77 kv0 (wM _ (by omega) (by omega)) (zz_6ac285591f o78) (zz_2c7fd931f4 ab o78) ?_
                          intro h2i79 Th2i79 ih2i79 ah2i79
                          have o80 : vI h2i79 v0 41 = (vI h v0 41) + 2 := (by rw [ih2i79 v0 41, if_pos ⟨rfl, rfl⟩])
                          have o81 : vI h2i79 v0 3 = vI h v0 3 := (by rw [ih2i79 v0 3, if_neg (fun z => absurd z.2 (by decide)), gr2i77_0 v0 3])
                          have o82 : vA h2i79 (v0 + 22) (vI h v0 42) = (vA h (v0 + 22) (vI h v0 42)) + 1 := (by rw [ah2i79 (v0 + 22) (vI h v0 42), gr2i77_1 (v0 + 22) (vI h v0 42) (g_Mo_42 T kv0).1, if_pos ⟨rfl, rfl⟩])
                          have o83 := g_Mo_e22 T kv0 (vI h v0 42)
                          have o84 := g_Mo_3 T kv0
                          refine qk_mono (ih (v0) (v1) h2i79 Th2i79 kv0 wM s0 s1 (zz_3f9bbbb31e o80 o81 gr10_1 cc76 o78) (by show vA h2i79 (v0 + 22) (vI h2i79 v0 42) ≤ vI h2i79 v0 41; have qc1 : vI h2i79 v0 42 = (vI h v0 42) := (by rw [ih2i79 v0 42, if_neg (fun z => absurd z.2 (by decide)), gr2i77_0 v0 42]); rw [qc1]; exact zz_259b3032e8 o82 o80 hc o78 o83) (zz_4c3af4b9d4 o80 o84 gr7_2 cc37 o78) hN (zz_982f166efd o80 ab hms hq1 cc1 hq2 hq3 o78)) ?_
                          rintro hz ⟨Tz, g0, g1, g2, g3, g4, g5, g6, g7, g8⟩
                          try dsimp only at *
                          have qh42_g0 : vI h2i79 v0 42 = (vI h v0 42) := by rw [ih2i79 v0 42, if_neg (fun z => absurd z.2 (by decide)), gr2i77_0 v0 42]
                          rw [qh42_g0] at g2
                          rw [qh42_g0] at g3
                          rw [qh42_g0] at g6
                          rw [qh42_g0] at g8
                          have o86 := g_Mo_42 T kv0
                          have o87 := g_Mo_e22 Tz kv0 (vI h v0 42)
                          exact ⟨Tz, (by clear ih; show ∀ a k, ¬ (a = v0 ∧ (k = 5 ∨ k = 48 ∨ k = 41)) → vI hz a k = vI h a k; intro a k n0; rw [g0 a k (by omega), ih2i79, if_neg (by omega), gr2i77_0 a k]), (by clear ih; show ∀ a j, 0 ≤ j → ¬ (a = v0 + 11 ∨ a = v0 + 22 ∨ a = v0 + 28) → vA hz a j = vA h a j; intro a j j0 n0; rw [g1 a j j0 (by omega), ah2i79, gr2i77_1 a j j0, if_neg (by omega), if_neg (by omega)]), (by clear ih; show ∀ j, 0 ≤ j → j ≠ vI h v0 42 → vA hz (v0 + 22) j = vA h (v0 + 22) j; intro j j0 n0; rw [g2 j j0 n0, ah2i79 (v0 + 22) j, gr2i77_1 (v0 + 22) j j0, if_neg (fun z => absurd z.2 (zz_946771669d n0)), if_neg (fun z => absurd z.1 (by omega))]), (by clear ih; show ∀ j, 0 ≤ j → (j < (300 * vI h v0 42 + vA h (v0 + 22) (vI h v0 42)) ∨ 300 * vI h v0 42 + 300 ≤ j) → vA hz (v0 + 28) j = vA h (v0 + 28) j; intro j j0 n0; rw [g3 j j0 (zz_d5e09a6e7f o82 n0 o86 o83), ah2i79 (v0 + 28) j, gr2i77_1 (v0 + 28) j j0, if_neg (fun z => absurd z.1 (by omega)), if_neg (fun z => absurd z.2 (zz_039ceab827 o83 n0 o86))]), (by clear ih; show ∀ j, 0 ≤ j → j ≠ v1 → vA hz (v0 + 11) j = vA h (v0 + 11) j; intro j j0 n0; rw [g4 j j0 n0, ah2i79 (v0 + 11) j, gr2i77_1 (v0 + 11) j j0, if_neg (fun z => absurd z.1 (by omega)), if_neg (fun z => absurd z.1 (by omega))]), (zz_704f037905 g5 o80 o81 o78), (zz_926e2567f5 g6 o82 o83), (zz_a7e7eeafdf o80 g7 o78), (zz_3e1d7f49dd g8 o86 o87)⟩
                        · skip
                          refine qk_if (fun cc88 => ?_) (fun cc88 => ?_)
                          · skip
                            refine r_Mo_o T kv0 ?_
                            have o89 := g_Mo_41 T kv0
                            refine c_Mod_keep (v0 := v0) (v1 := 10) T kv0 wM (by decide) (by decide) (zz_b4b1647785 hc o89) ?_
                            intro r9i51 Tr9i51 gr9i51_0 gr9i51_1
                            unfold f_Mod_replacement_228
                            refine r_Mo_41 Tr9i51 kv0 ?_
                            intro x1i90 ex1i90 lx1i90 ux1i90
                            have sx1i90 : (vI h v0 41) = x1i90 := (ex1i90.trans (by rw [gr9i51_0 v0 41])).symm
                            subst sx1i90
                            refine w_Mo_41 Tr9i51 kv0 (wM _ (by omega) (by omega)) (zz_6ac285591f o89) (zz_2c7fd931f4 ab o89) ?_
                            intro h2i90 Th2i90 ih2i90 ah2i90
                            have o91 : vI h2i90 v0 41 = (vI h v0 41) + 2 := (by rw [ih2i90 v0 41, if_pos ⟨rfl, rfl⟩])
                            have o92 : vI h2i90 v0 3 = vI h v0 3 := (by rw [ih2i90 v0 3, if_neg (fun z => absurd z.2 (by decide)), gr9i51_0 v0 3])
                            have o93 : vA h2i90 (v0 + 22) (vI h v0 42) = (vA h (v0 + 22) (vI h v0 42)) + 1 := (by rw [ah2i90 (v0 + 22) (vI h v0 42), gr9i51_1 (v0 + 22) (vI h v0 42) (g_Mo_42 T kv0).1, if_pos ⟨rfl, rfl⟩])
                            have o94 := g_Mo_e22 T kv0 (vI h v0 42)
                            have o95 := g_Mo_3 T kv0
                            refine qk_mono (ih (v0) (v1) h2i90 Th2i90 kv0 wM s0 s1 (zz_3a6b192ffd o91 o92 gr10_1 cc88 o89) (by show vA h2i90 (v0 + 22) (vI h2i90 v0 42) ≤ vI h2i90 v0 41; have qc1 : vI h2i90 v0 42 = (vI h v0 42) := (by rw [ih2i90 v0 42, if_neg (fun z => absurd z.2 (by decide)), gr9i51_0 v0 42]); rw [qc1]; exact zz_259b3032e8 o93 o91 hc o89 o94) (zz_4c3af4b9d4 o91 o95 gr7_2 cc37 o89) hN (zz_982f166efd o91 ab hms hq1 cc1 hq2 hq3 o89)) ?_
                            rintro hz ⟨Tz, g0, g1, g2, g3, g4, g5, g6, g7, g8⟩
                            try dsimp only at *
                            have qh42_g0 : vI h2i90 v0 42 = (vI h v0 42) := by rw [ih2i90 v0 42, if_neg (fun z => absurd z.2 (by decide)), gr9i51_0 v0 42]
                            rw [qh42_g0] at g2
                            rw [qh42_g0] at g3
                            rw [qh42_g0] at g6
                            rw [qh42_g0] at g8
                            have o97 := g_Mo_42 T kv0
                            have o98 := g_Mo_e22 Tz kv0 (vI h v0 42)
                            exact ⟨Tz, (by clear ih; show ∀ a k, ¬ (a = v0 ∧ (k = 5 ∨ k = 48 ∨ k = 41)) → vI hz a k = vI h a k; intro a k n0; rw [g0 a k (by omega), ih2i90, if_neg (by omega), gr9i51_0 a k]), (by clear ih; show ∀ a j, 0 ≤ j → ¬ (a = v0 + 11 ∨ a = v0 + 22 ∨ a = v0 + 28) → vA hz a j = vA h a j; intro a j j0 n0; rw [g1 a j j0 (by omega), ah2i90, gr9i51_1 a j j0, if_neg (by omega), if_neg (by omega)]), (by clear ih; show ∀ j, 0 ≤ j → j ≠ vI h v0 42 → vA hz (v0 + 22) j = vA h (v0 + 22) j; intro j j0 n0; rw [g2 j j0 n0, ah2i90 (v0 + 22) j, gr9i51_1 (v0 + 22) j j0, if_neg (fun z => absurd z.2 (zz_946771669d n0)), if_neg (fun z => absurd z.1 (by omega))]), (by clear ih; show ∀ j, 0 ≤ j → (j < (300 * vI h v0 42 + vA h (v0 + 22) (vI h v0 42)) ∨ 300 * vI h v0 42 + 300 ≤ j) → vA hz (v0 + 28) j = vA h (v0 + 28) j; intro j j0 n0; rw [g3 j j0 (zz_d5e09a6e7f o93 n0 o97 o94), ah2i90 (v0 + 28) j, gr9i51_1 (v0 + 28) j j0, if_neg (fun z => absurd z.1 (by omega)), if_neg (fun z => absurd z.2 (zz_039ceab827 o94 n0 o97))]), (by clear ih; show ∀ j, 0 ≤ j → j ≠ v1 → vA hz (v0 + 11) j = vA h (v0 + 11) j; intro j j0 n0; rw [g4 j j0 n0, ah2i90 (v0 + 11) j, gr9i51_1 (v0 + 11) j j0, if_neg (fun z => absurd z.1 (by omega)), if_neg (fun z => absurd z.1 (by omega))]), (zz_704f037905 g5 o91 o92 o89), (zz_926e2567f5 g6 o93 o94), (zz_a7e7eeafdf o91 g7 o89), (zz_3e1d7f49dd g8 o97 o98)⟩
                          · skip
                            refine r_Mo_41 T kv0 ?_
                            intro x5i51 ex5i51 lx5i51 ux5i51
                            subst ex5i51
                            refine r_Mo_o T kv0 ?_
                            refine c_Mod_wrong (v0 := v0) (v1 := (vI h v0 41)) T kv0 wM ?_
                            intro r7i51 Tr7i51 gr7i51_0 gr7i51_1 gr7i51_2
                            unfold f_Mod_replacement_228
                            refine r_Mo_41 Tr7i51 kv0 ?_
                            intro x1i99 ex1i99 lx1i99 ux1i99
                            have sx1i99 : (vI h v0 41) = x1i99 := (ex1i99.trans (by rw [gr7i51_0 v0 41 (by omega)])).symm
                            subst sx1i99
                            have o100 := g_Mo_41 T kv0
                            refine w_Mo_41 Tr7i51 kv0 (wM _ (by omega) (by omega)) (zz_6ac285591f o100) (zz_2c7fd931f4 ab o100) ?_
                            intro h2i99 Th2i99 ih2i99 ah2i99
                            have o101 : vI h2i99 v0 48 = 1 := (by rw [ih2i99 v0 48, if_neg (fun z => absurd z.2 (by decide)), gr7i51_1])
                            have o102 : vA h2i99 (v0 + 22) (vI h v0 42) = vA h (v0 + 22) (vI h v0 42) := (by rw [ah2i99 (v0 + 22) (vI h v0 42), gr7i51_2 (v0 + 22) (vI h v0 42)])
                            have o103 : vI h2i99 v0 41 = (vI h v0 41) + 2 := (by rw [ih2i99 v0 41, if_pos ⟨rfl, rfl⟩])
                            have o104 := g_Mo_3 T kv0
                            refine qk_mono (ih (v0) (v1) h2i99 Th2i99 kv0 wM s0 s1 (zz_72bcbc58f7 o101) (by show vA h2i99 (v0 + 22) (vI h2i99 v0 42) ≤ vI h2i99 v0 41; have qc1 : vI h2i99 v0 42 = (vI h v0 42) := (by rw [ih2i99 v0 42, if_neg (fun z => absurd z.2 (by decide)), gr7i51_0 v0 42 (by omega)]); rw [qc1]; exact zz_d3cc64d506 o102 o103 hc o100) (zz_4c3af4b9d4 o103 o104 gr7_2 cc37 o100) hN (zz_1c1679f969 o101 o104 hms hq1 gr10_1 cc1 cc38 o100 hq2 hq3)) ?_
                            rintro hz ⟨Tz, g0, g1, g2, g3, g4, g5, g6, g7, g8⟩
                            try dsimp only at *
                            have qh42_g0 : vI h2i99 v0 42 = (vI h v0 42) := by rw [ih2i99 v0 42, if_neg (fun z => absurd z.2 (by decide)), gr7i51_0 v0 42 (by omega)]
                            rw [qh42_g0] at g2
                            rw [qh42_g0] at g3
                            rw [qh42_g0] at g6
                            rw [qh42_g0] at g8
                            have o106 := g_Mo_42 T kv0
                            have o107 := g_Mo_e22 T kv0 (vI h v0 42)
                            have o108 : vI h2i99 v0 3 = vI h v0 3 := (by rw [ih2i99 v0 3, if_neg (fun z => absurd z.2 (by decide)), gr7i51_0 v0 3 (by omega)])
                            have o109 := g_Mo_e22 Tz kv0 (vI h v0 42)
                            exact ⟨Tz, (by clear ih; show ∀ a k, ¬ (a = v0 ∧ (k = 5 ∨ k = 48 ∨ k = 41)) → vI hz a k = vI h a k; intro a k n0; rw [g0 a k (by omega), ih2i99, if_neg (by omega), gr7i51_0 a k (by omega)]), (by clear ih; show ∀ a j, 0 ≤ j → ¬ (a = v0 + 11 ∨ a = v0 + 22 ∨ a = v0 + 28) → vA hz a j = vA h a j; intro a j j0 n0; rw [g1 a j j0 (by omega), ah2i99, gr7i51_2 a j]), (by clear ih; show ∀ j, 0 ≤ j → j ≠ vI h v0 42 → vA hz (v0 + 22) j = vA h (v0 + 22) j; intro j j0 n0; rw [g2 j j0 n0, ah2i99 (v0 + 22) j, gr7i51_2 (v0 + 22) j]), (by clear ih; show ∀ j, 0 ≤ j → (j < (300 * vI h v0 42 + vA h (v0 + 22) (vI h v0 42)) ∨ 300 * vI h v0 42 + 300 ≤ j) → vA hz (v0 + 28) j = vA h (v0 + 28) j; intro j j0 n0; rw [g3 j j0 (zz_ced763ca4e o102 n0 o106 o107), ah2i99 (v0 + 28) j, gr7i51_2 (v0 + 28) j]), (by clear ih; show ∀ j, 0 ≤ j → j ≠ v1 → vA hz (v0 + 11) j = vA h (v0 + 11) j; intro j j0 n0; rw [g4 j j0 n0, ah2i99 (v0 + 11) j, gr7i51_2 (v0 + 11) j]), (zz_704f037905 g5 o103 o108 o100), (zz_3745968dd1 g6 o102), (zz_a7e7eeafdf o103 g7 o100), (zz_3e1d7f49dd g8 o106 o109)⟩
                  · skip
                    refine r_Mo_30 T kv0 ?_
                    refine r_Mo_14 T kv0 ?_
                    refine r_Mo_e9 T kv0 s0 s1 ?_
                    intro x21 ex21 lx21 ux21
                    subst ex21
                    have o110 := g_Mo_e9 T kv0 v1
                    refine r_Mo_e25 T kv0 lx21 (zz_5ff11b7469 o110) ?_
                    intro x22 ex22 lx22 ux22
                    subst ex22
                    refine qk_if (fun cc111 => ?_) (fun cc111 => ?_)
                    · skip
                      unfold f_Mod_replacement_179
                      refine qk_if (fun cc113 => ?_) (fun cc113 => ?_)
                      · skip
                        unfold f_Mod_replacement_197
                        refine r_Mo_o T kv0 ?_
                        have o115 := g_Mo_41 T kv0
                        refine c_Mod_keep (v0 := v0) (v1 := (yr10)) T kv0 wM (zz_2d9dda0af0 cc113) (zz_e1a867b2df cc113) (zz_b4b1647785 hc o115) ?_
                        intro r2i114 Tr2i114 gr2i114_0 gr2i114_1
                        unfold f_Mod_replacement_228
                        refine r_Mo_41 Tr2i114 kv0 ?_
                        intro x1i116 ex1i116 lx1i116 ux1i116
                        have sx1i116 : (vI h v0 41) = x1i116 := (ex1i116.trans (by rw [gr2i114_0 v0 41])).symm
                        subst sx1i116
                        refine w_Mo_41 Tr2i114 kv0 (wM _ (by omega) (by omega)) (zz_6ac285591f o115) (zz_2c7fd931f4 ab o115) ?_
                        intro h2i116 Th2i116 ih2i116 ah2i116
                        have o117 := g_Mo_e25 T kv0 (vA h (v0 + 9) v1)
                        have o118 : vA h2i116 (v0 + 22) (vI h v0 42) = (vA h (v0 + 22) (vI h v0 42)) + 1 := (by rw [ah2i116 (v0 + 22) (vI h v0 42), gr2i114_1 (v0 + 22) (vI h v0 42) (g_Mo_42 T kv0).1, if_pos ⟨rfl, rfl⟩])
                        have o119 : vI h2i116 v0 41 = (vI h v0 41) + 2 := (by rw [ih2i116 v0 41, if_pos ⟨rfl, rfl⟩])
                        have o120 := g_Mo_e22 T kv0 (vI h v0 42)
                        refine qk_mono (ih (v0) (v1) h2i116 Th2i116 kv0 wM s0 s1 (zz_09edcc2701 cc111 o117 cc113) (by show vA h2i116 (v0 + 22) (vI h2i116 v0 42) ≤ vI h2i116 v0 41; have qc1 : vI h2i116 v0 42 = (vI h v0 42) := (by rw [ih2i116 v0 42, if_neg (fun z => absurd z.2 (by decide)), gr2i114_0 v0 42]); rw [qc1]; exact zz_259b3032e8 o118 o119 hc o115 o120) (zz_654b630125 cc111 o117 cc113) hN (zz_982f166efd o119 ab hms hq1 cc1 hq2 hq3 o115)) ?_
                        rintro hz ⟨Tz, g0, g1, g2, g3, g4, g5, g6, g7, g8⟩
                        try dsimp only at *
                        have qh42_g0 : vI h2i116 v0 42 = (vI h v0 42) := by rw [ih2i116 v0 42, if_neg (fun z => absurd z.2 (by decide)), gr2i114_0 v0 42]
                        rw [qh42_g0] at g2
                        rw [qh42_g0] at g3
                        rw [qh42_g0] at g6
                        rw [qh42_g0] at g8
                        have o122 := g_Mo_42 T kv0
                        have o123 : vI h2i116 v0 3 = vI h v0 3 := (by rw [ih2i116 v0 3, if_neg (fun z => absurd z.2 (by decide)), gr2i114_0 v0 3])
                        have o124 := g_Mo_e22 Tz kv0 (vI h v0 42)
                        exact ⟨Tz, (by clear ih; show ∀ a k, ¬ (a = v0 ∧ (k = 5 ∨ k = 48 ∨ k = 41)) → vI hz a k = vI h a k; intro a k n0; rw [g0 a k (by omega), ih2i116, if_neg (by omega), gr2i114_0 a k]), (by clear ih; show ∀ a j, 0 ≤ j → ¬ (a = v0 + 11 ∨ a = v0 + 22 ∨ a = v0 + 28) → vA hz a j = vA h a j; intro a j j0 n0; rw [g1 a j j0 (by omega), ah2i116, gr2i114_1 a j j0, if_neg (by omega), if_neg (by omega)]), (by clear ih; show ∀ j, 0 ≤ j → j ≠ vI h v0 42 → vA hz (v0 + 22) j = vA h (v0 + 22) j; intro j j0 n0; rw [g2 j j0 n0, ah2i116 (v0 + 22) j, gr2i114_1 (v0 + 22) j j0, if_neg (fun z => absurd z.2 (zz_946771669d n0)), if_neg (fun z => absurd z.1 (by omega))]), (by clear ih; show ∀ j, 0 ≤ j → (j < (300 * vI h v0 42 + vA h (v0 + 22) (vI h v0 42)) ∨ 300 * vI h v0 42 + 300 ≤ j) → vA hz (v0 + 28) j = vA h (v0 + 28) j; intro j j0 n0; rw [g3 j j0 (zz_d5e09a6e7f o118 n0 o122 o120), ah2i116 (v0 + 28) j, gr2i114_1 (v0 + 28) j j0, if_neg (fun z => absurd z.1 (by omega)), if_neg (fun z => absurd z.2 (zz_039ceab827 o120 n0 o122))]), (by clear ih; show ∀ j, 0 ≤ j → j ≠ v1 → vA hz (v0 + 11) j = vA h (v0 + 11) j; intro j j0 n0; rw [g4 j j0 n0, ah2i116 (v0 + 11) j, gr2i114_1 (v0 + 11) j j0, if_neg (fun z => absurd z.1 (by omega)), if_neg (fun z => absurd z.1 (by omega))]), (zz_704f037905 g5 o119 o123 o115), (zz_926e2567f5 g6 o118 o120), (zz_a7e7eeafdf o119 g7 o115), (zz_3e1d7f49dd g8 o122 o124)⟩
                      · skip
                        refine qk_if (fun cc125 => ?_) (fun cc125 => ?_)
                        · skip
                          unfold f_Mod_replacement_197
                          refine r_Mo_o T kv0 ?_
                          have o127 := g_Mo_41 T kv0
                          refine c_Mod_keep (v0 := v0) (v1 := (yr10)) T kv0 wM (zz_68802f2aaa cc125) (zz_b0bef9a10e cc125) (zz_b4b1647785 hc o127) ?_
                          intro r2i126 Tr2i126 gr2i126_0 gr2i126_1
                          unfold f_Mod_replacement_228
                          refine r_Mo_41 Tr2i126 kv0 ?_
                          intro x1i128 ex1i128 lx1i128 ux1i128
                          have sx1i128 : (vI h v0 41) = x1i128 := (ex1i128.trans (by rw [gr2i126_0 v0 41])).symm
                          subst sx1i128
                          refine w_Mo_41 Tr2i126 kv0 (wM _ (by omega) (by omega)) (zz_6ac285591f o127) (zz_2c7fd931f4 ab o127) ?_
                          intro h2i128 Th2i128 ih2i128 ah2i128
                          have o129 := g_Mo_e25 T kv0 (vA h (v0 + 9) v1)
                          have o130 : vA h2i128 (v0 + 22) (vI h v0 42) = (vA h (v0 + 22) (vI h v0 42)) + 1 := (by rw [ah2i128 (v0 + 22) (vI h v0 42), gr2i126_1 (v0 + 22) (vI h v0 42) (g_Mo_42 T kv0).1, if_pos ⟨rfl, rfl⟩])
                          have o131 : vI h2i128 v0 41 = (vI h v0 41) + 2 := (by rw [ih2i128 v0 41, if_pos ⟨rfl, rfl⟩])
                          have o132 := g_Mo_e22 T kv0 (vI h v0 42)
                          refine qk_mono (ih (v0) (v1) h2i128 Th2i128 kv0 wM s0 s1 (zz_e8dcec5be4 cc111 o129 cc125) (by show vA h2i128 (v0 + 22) (vI h2i128 v0 42) ≤ vI h2i128 v0 41; have qc1 : vI h2i128 v0 42 = (vI h v0 42) := (by rw [ih2i128 v0 42, if_neg (fun z => absurd z.2 (by decide)), gr2i126_0 v0 42]); rw [qc1]; exact zz_259b3032e8 o130 o131 hc o127 o132) (zz_a3bd8f787f cc111 o129 cc125) hN (zz_982f166efd o131 ab hms hq1 cc1 hq2 hq3 o127)) ?_
                          rintro hz ⟨Tz, g0, g1, g2, g3, g4, g5, g6, g7, g8⟩
                          try dsimp only at *
                          have qh42_g0 : vI h2i128 v0 42 = (vI h v0 42) := by rw [ih2i128 v0 42, if_neg (fun z => absurd z.2 (by decide)), gr2i126_0 v0 42]
                          rw [qh42_g0] at g2
                          rw [qh42_g0] at g3
                          rw [qh42_g0] at g6
                          rw [qh42_g0] at g8
                          have o134 := g_Mo_42 T kv0
                          have o135 : vI h2i128 v0 3 = vI h v0 3 := (by rw [ih2i128 v0 3, if_neg (fun z => absurd z.2 (by decide)), gr2i126_0 v0 3])
                          have o136 := g_Mo_e22 Tz kv0 (vI h v0 42)
                          exact ⟨Tz, (by clear ih; show ∀ a k, ¬ (a = v0 ∧ (k = 5 ∨ k = 48 ∨ k = 41)) → vI hz a k = vI h a k; intro a k n0; rw [g0 a k (by omega), ih2i128, if_neg (by omega), gr2i126_0 a k]), (by clear ih; show ∀ a j, 0 ≤ j → ¬ (a = v0 + 11 ∨ a = v0 + 22 ∨ a = v0 + 28) → vA hz a j = vA h a j; intro a j j0 n0; rw [g1 a j j0 (by omega), ah2i128, gr2i126_1 a j j0, if_neg (by omega), if_neg (by omega)]), (by clear ih; show ∀ j, 0 ≤ j → j ≠ vI h v0 42 → vA hz (v0 + 22) j = vA h (v0 + 22) j; intro j j0 n0; rw [g2 j j0 n0, ah2i128 (v0 + 22) j, gr2i126_1 (v0 + 22) j j0, if_neg (fun z => absurd z.2 (zz_946771669d n0)), if_neg (fun z => absurd z.1 (by omega))]), (by clear ih; show ∀ j, 0 ≤ j → (j < (300 * vI h v0 42 + vA h (v0 + 22) (vI h v0 42)) ∨ 300 * vI h v0 42 + 300 ≤ j) → vA hz (v0 + 28) j = vA h (v0 + 28) j; intro j j0 n0; rw [g3 j j0 (zz_d5e09a6e7f o130 n0 o134 o132), ah2i128 (v0 + 28) j, gr2i126_1 (v0 + 28) j j0, if_neg (fun z => absurd z.1 (by omega)), if_neg (fun z => absurd z.2 (zz_039ceab827 o132 n0 o134))]), (by clear ih; show ∀ j, 0 ≤ j → j ≠ v1 → vA hz (v0 + 11) j = vA h (v0 + 11) j; intro j j0 n0; rw [g4 j j0 n0, ah2i128 (v0 + 11) j, gr2i126_1 (v0 + 11) j j0, if_neg (fun z => absurd z.1 (by omega)), if_neg (fun z => absurd z.1 (by omega))]), (zz_704f037905 g5 o131 o135 o127), (zz_926e2567f5 g6 o130 o132), (zz_a7e7eeafdf o131 g7 o127), (zz_3e1d7f49dd g8 o134 o136)⟩
                        · skip
                          refine qk_if (fun cc137 => ?_) (fun cc137 => ?_)
                          · skip
                            unfold f_Mod_replacement_197
                            refine r_Mo_o T kv0 ?_
                            have o139 := g_Mo_41 T kv0
                            refine c_Mod_keep (v0 := v0) (v1 := (yr10)) T kv0 wM (zz_8c2a257ba7 cc137) (zz_6bd0cf1b3d cc137) (zz_b4b1647785 hc o139) ?_
                            intro r2i138 Tr2i138 gr2i138_0 gr2i138_1
                            unfold f_Mod_replacement_228
                            refine r_Mo_41 Tr2i138 kv0 ?_
                            intro x1i140 ex1i140 lx1i140 ux1i140
                            have sx1i140 : (vI h v0 41) = x1i140 := (ex1i140.trans (by rw [gr2i138_0 v0 41])).symm
                            subst sx1i140
                            refine w_Mo_41 Tr2i138 kv0 (wM _ (by omega) (by omega)) (zz_6ac285591f o139) (zz_2c7fd931f4 ab o139) ?_
                            intro h2i140 Th2i140 ih2i140 ah2i140
                            have o141 : vI h2i140 v0 41 = (vI h v0 41) + 2 := (by rw [ih2i140 v0 41, if_pos ⟨rfl, rfl⟩])
                            have o142 : vI h2i140 v0 3 = vI h v0 3 := (by rw [ih2i140 v0 3, if_neg (fun z => absurd z.2 (by decide)), gr2i138_0 v0 3])
                            have o143 : vA h2i140 (v0 + 22) (vI h v0 42) = (vA h (v0 + 22) (vI h v0 42)) + 1 := (by rw [ah2i140 (v0 + 22) (vI h v0 42), gr2i138_1 (v0 + 22) (vI h v0 42) (g_Mo_42 T kv0).1, if_pos ⟨rfl, rfl⟩])
                            have o144 := g_Mo_e22 T kv0 (vI h v0 42)
                            have o145 := g_Mo_3 T kv0
                            refine qk_mono (ih (v0) (v1) h2i140 Th2i140 kv0 wM s0 s1 (zz_3f9bbbb31e o141 o142 gr10_1 cc137 o139) (by show vA h2i140 (v0 + 22) (vI h2i140 v0 42) ≤ vI h2i140 v0 41; have qc1 : vI h2i140 v0 42 = (vI h v0 42) := (by rw [ih2i140 v0 42, if_neg (fun z => absurd z.2 (by decide)), gr2i138_0 v0 42]); rw [qc1]; exact zz_259b3032e8 o143 o141 hc o139 o144) (zz_4c3af4b9d4 o141 o145 gr7_2 cc37 o139) hN (zz_982f166efd o141 ab hms hq1 cc1 hq2 hq3 o139)) ?_
                            rintro hz ⟨Tz, g0, g1, g2, g3, g4, g5, g6, g7, g8⟩
                            try dsimp only at *
                            have qh42_g0 : vI h2i140 v0 42 = (vI h v0 42) := by rw [ih2i140 v0 42, if_neg (fun z => absurd z.2 (by decide)), gr2i138_0 v0 42]
                            rw [qh42_g0] at g2
                            rw [qh42_g0] at g3
                            rw [qh42_g0] at g6
                            rw [qh42_g0] at g8
                            have o147 := g_Mo_42 T kv0
                            have o148 := g_Mo_e22 Tz kv0 (vI h v0 42)
                            exact ⟨Tz, (by clear ih; show ∀ a k, ¬ (a = v0 ∧ (k = 5 ∨ k = 48 ∨ k = 41)) → vI hz a k = vI h a k; intro a k n0; rw [g0 a k (by omega), ih2i140, if_neg (by omega), gr2i138_0 a k]), (by clear ih; show ∀ a j, 0 ≤ j → ¬ (a = v0 + 11 ∨ a = v0 + 22 ∨ a = v0 + 28) → vA hz a j = vA h a j; intro a j j0 n0; rw [g1 a j j0 (by omega), ah2i140, gr2i138_1 a j j0, if_neg (by omega), if_neg (by omega)]), (by clear ih; show ∀ j, 0 ≤ j → j ≠ vI h v0 42 → vA hz (v0 + 22) j = vA h (v0 + 22) j; intro j j0 n0; rw [g2 j j0 n0, ah2i140 (v0 + 22) j, gr2i138_1 (v0 + 22) j j0, if_neg (fun z => absurd z.2 (zz_946771669d n0)), if_neg (fun z => absurd z.1 (by omega))]), (by clear ih; show ∀ j, 0 ≤ j → (j < (300 * vI h v0 42 + vA h (v0 + 22) (vI h v0 42)) ∨ 300 * vI h v0 42 + 300 ≤ j) → vA hz (v0 + 28) j = vA h (v0 + 28) j; intro j j0 n0; rw [g3 j j0 (zz_d5e09a6e7f o143 n0 o147 o144), ah2i140 (v0 + 28) j, gr2i138_1 (v0 + 28) j j0, if_neg (fun z => absurd z.1 (by omega)), if_neg (fun z => absurd z.2 (zz_039ceab827 o144 n0 o147))]), (by clear ih; show ∀ j, 0 ≤ j → j ≠ v1 → vA hz (v0 + 11) j = vA h (v0 + 11) j; intro j j0 n0; rw [g4 j j0 n0, ah2i140 (v0 + 11) j, gr2i138_1 (v0 + 11) j j0, if_neg (fun z => absurd z.1 (by omega)), if_neg (fun z => absurd z.1 (by omega))]), (zz_704f037905 g5 o141 o142 o139), (zz_926e2567f5 g6 o143 o144), (zz_a7e7eeafdf o141 g7 o139), (zz_3e1d7f49dd g8 o147 o148)⟩
                          · skip
                            refine qk_if (fun cc149 => ?_) (fun cc149 => ?_)
                            · skip
                              refine r_Mo_o T kv0 ?_
                              have o150 := g_Mo_41 T kv0
                              refine c_Mod_keep (v0 := v0) (v1 := 10) T kv0 wM (by decide) (by decide) (zz_b4b1647785 hc o150) ?_
                              intro r9i112 Tr9i112 gr9i112_0 gr9i112_1
                              unfold f_Mod_replacement_228
                              refine r_Mo_41 Tr9i112 kv0 ?_
                              intro x1i151 ex1i151 lx1i151 ux1i151
                              have sx1i151 : (vI h v0 41) = x1i151 := (ex1i151.trans (by rw [gr9i112_0 v0 41])).symm
                              subst sx1i151
                              refine w_Mo_41 Tr9i112 kv0 (wM _ (by omega) (by omega)) (zz_6ac285591f o150) (zz_2c7fd931f4 ab o150) ?_
                              intro h2i151 Th2i151 ih2i151 ah2i151
                              have o152 : vI h2i151 v0 41 = (vI h v0 41) + 2 := (by rw [ih2i151 v0 41, if_pos ⟨rfl, rfl⟩])
                              have o153 : vI h2i151 v0 3 = vI h v0 3 := (by rw [ih2i151 v0 3, if_neg (fun z => absurd z.2 (by decide)), gr9i112_0 v0 3])
                              have o154 : vA h2i151 (v0 + 22) (vI h v0 42) = (vA h (v0 + 22) (vI h v0 42)) + 1 := (by rw [ah2i151 (v0 + 22) (vI h v0 42), gr9i112_1 (v0 + 22) (vI h v0 42) (g_Mo_42 T kv0).1, if_pos ⟨rfl, rfl⟩])
                              have o155 := g_Mo_e22 T kv0 (vI h v0 42)
                              have o156 := g_Mo_3 T kv0
                              refine qk_mono (ih (v0) (v1) h2i151 Th2i151 kv0 wM s0 s1 (zz_3a6b192ffd o152 o153 gr10_1 cc149 o150) (by show vA h2i151 (v0 + 22) (vI h2i151 v0 42) ≤ vI h2i151 v0 41; have qc1 : vI h2i151 v0 42 = (vI h v0 42) := (by rw [ih2i151 v0 42, if_neg (fun z => absurd z.2 (by decide)), gr9i112_0 v0 42]); rw [qc1]; exact zz_259b3032e8 o154 o152 hc o150 o155) (zz_4c3af4b9d4 o152 o156 gr7_2 cc37 o150) hN (zz_982f166efd o152 ab hms hq1 cc1 hq2 hq3 o150)) ?_
                              rintro hz ⟨Tz, g0, g1, g2, g3, g4, g5, g6, g7, g8⟩
                              try dsimp only at *
                              have qh42_g0 : vI h2i151 v0 42 = (vI h v0 42) := by rw [ih2i151 v0 42, if_neg (fun z => absurd z.2 (by decide)), gr9i112_0 v0 42]
                              rw [qh42_g0] at g2
                              rw [qh42_g0] at g3
                              rw [qh42_g0] at g6
                              rw [qh42_g0] at g8
                              have o158 := g_Mo_42 T kv0
                              have o159 := g_Mo_e22 Tz kv0 (vI h v0 42)
                              exact ⟨Tz, (by clear ih; show ∀ a k, ¬ (a = v0 ∧ (k = 5 ∨ k = 48 ∨ k = 41)) → vI hz a k = vI h a k; intro a k n0; rw [g0 a k (by omega), ih2i151, if_neg (by omega), gr9i112_0 a k]), (by clear ih; show ∀ a j, 0 ≤ j → ¬ (a = v0 + 11 ∨ a = v0 + 22 ∨ a = v0 + 28) → vA hz a j = vA h a j; intro a j j0 n0; rw [g1 a j j0 (by omega), ah2i151, gr9i112_1 a j j0, if_neg (by omega), if_neg (by omega)]), (by clear ih; show ∀ j, 0 ≤ j → j ≠ vI h v0 42 → vA hz (v0 + 22) j = vA h (v0 + 22) j; intro j j0 n0; rw [g2 j j0 n0, ah2i151 (v0 + 22) j, gr9i112_1 (v0 + 22) j j0, if_neg (fun z => absurd z.2 (zz_946771669d n0)), if_neg (fun z => absurd z.1 (by omega))]), (by clear ih; show ∀ j, 0 ≤ j → (j < (300 * vI h v0 42 + vA h (v0 + 22) (vI h v0 42)) ∨ 300 * vI h v0 42 + 300 ≤ j) → vA hz (v0 + 28) j = vA h (v0 + 28) j; intro j j0 n0; rw [g3 j j0 (zz_d5e09a6e7f o154 n0 o158 o155), ah2i151 (v0 + 28) j, gr9i112_1 (v0 + 28) j j0, if_neg (fun z => absurd z.1 (by omega)), if_neg (fun z => absurd z.2 (zz_039ceab827 o155 n0 o158))]), (by clear ih; show ∀ j, 0 ≤ j → j ≠ v1 → vA hz (v0 + 11) j = vA h (v0 + 11) j; intro j j0 n0; rw [g4 j j0 n0, ah2i151 (v0 + 11) j, gr9i112_1 (v0 + 11) j j0, if_neg (fun z => absurd z.1 (by omega)), if_neg (fun z => absurd z.1 (by omega))]), (zz_704f037905 g5 o152 o153 o150), (zz_926e2567f5 g6 o154 o155), (zz_a7e7eeafdf o152 g7 o150), (zz_3e1d7f49dd g8 o158 o159)⟩
                            · skip
                              refine r_Mo_41 T kv0 ?_
                              intro x5i112 ex5i112 lx5i112 ux5i112
                              subst ex5i112
                              refine r_Mo_o T kv0 ?_
                              refine c_Mod_wrong (v0 := v0) (v1 := (vI h v0 41)) T kv0 wM ?_
                              intro r7i112 Tr7i112 gr7i112_0 gr7i112_1 gr7i112_2
                              unfold f_Mod_replacement_228
                              refine r_Mo_41 Tr7i112 kv0 ?_
                              intro x1i160 ex1i160 lx1i160 ux1i160
                              have sx1i160 : (vI h v0 41) = x1i160 := (ex1i160.trans (by rw [gr7i112_0 v0 41 (by omega)])).symm
                              subst sx1i160
                              have o161 := g_Mo_41 T kv0
                              refine w_Mo_41 Tr7i112 kv0 (wM _ (by omega) (by omega)) (zz_6ac285591f o161) (zz_2c7fd931f4 ab o161) ?_
                              intro h2i160 Th2i160 ih2i160 ah2i160
                              have o162 : vI h2i160 v0 48 = 1 := (by rw [ih2i160 v0 48, if_neg (fun z => absurd z.2 (by decide)), gr7i112_1])
                              have o163 : vA h2i160 (v0 + 22) (vI h v0 42) = vA h (v0 + 22) (vI h v0 42) := (by rw [ah2i160 (v0 + 22) (vI h v0 42), gr7i112_2 (v0 + 22) (vI h v0 42)])
                              have o164 : vI h2i160 v0 41 = (vI h v0 41) + 2 := (by rw [ih2i160 v0 41, if_pos ⟨rfl, rfl⟩])
                              have o165 := g_Mo_3 T kv0
                              have o166 := g_Mo_e25 T kv0 (vA h (v0 + 9) v1)
                              refine qk_mono (ih (v0) (v1) h2i160 Th2i160 kv0 wM s0 s1 (zz_72bcbc58f7 o162) (by show vA h2i160 (v0 + 22) (vI h2i160 v0 42) ≤ vI h2i160 v0 41; have qc1 : vI h2i160 v0 42 = (vI h v0 42) := (by rw [ih2i160 v0 42, if_neg (fun z => absurd z.2 (by decide)), gr7i112_0 v0 42 (by omega)]); rw [qc1]; exact zz_d3cc64d506 o163 o164 hc o161) (zz_4c3af4b9d4 o164 o165 gr7_2 cc37 o161) hN (zz_e04fcdf858 o162 o165 hms hq1 gr10_1 cc1 cc111 o166 gr10_0 o161 hq2 hq3)) ?_
                              rintro hz ⟨Tz, g0, g1, g2, g3, g4, g5, g6, g7, g8⟩
                              try dsimp only at *
                              have qh42_g0 : vI h2i160 v0 42 = (vI h v0 42) := by rw [ih2i160 v0 42, if_neg (fun z => absurd z.2 (by decide)), gr7i112_0 v0 42 (by omega)]
                              rw [qh42_g0] at g2
                              rw [qh42_g0] at g3
                              rw [qh42_g0] at g6
                              rw [qh42_g0] at g8
                              have o168 := g_Mo_42 T kv0
                              have o169 := g_Mo_e22 T kv0 (vI h v0 42)
                              have o170 : vI h2i160 v0 3 = vI h v0 3 := (by rw [ih2i160 v0 3, if_neg (fun z => absurd z.2 (by decide)), gr7i112_0 v0 3 (by omega)])
                              have o171 := g_Mo_e22 Tz kv0 (vI h v0 42)
                              exact ⟨Tz, (by clear ih; show ∀ a k, ¬ (a = v0 ∧ (k = 5 ∨ k = 48 ∨ k = 41)) → vI hz a k = vI h a k; intro a k n0; rw [g0 a k (by omega), ih2i160, if_neg (by omega), gr7i112_0 a k (by omega)]), (by clear ih; show ∀ a j, 0 ≤ j → ¬ (a = v0 + 11 ∨ a = v0 + 22 ∨ a = v0 + 28) → vA hz a j = vA h a j; intro a j j0 n0; rw [g1 a j j0 (by omega), ah2i160, gr7i112_2 a j]), (by clear ih; show ∀ j, 0 ≤ j → j ≠ vI h v0 42 → vA hz (v0 + 22) j = vA h (v0 + 22) j; intro j j0 n0; rw [g2 j j0 n0, ah2i160 (v0 + 22) j, gr7i112_2 (v0 + 22) j]), (by clear ih; show ∀ j, 0 ≤ j → (j < (300 * vI h v0 42 + vA h (v0 + 22) (vI h v0 42)) ∨ 300 * vI h v0 42 + 300 ≤ j) → vA hz (v0 + 28) j = vA h (v0 + 28) j; intro j j0 n0; rw [g3 j j0 (zz_ced763ca4e o163 n0 o168 o169), ah2i160 (v0 + 28) j, gr7i112_2 (v0 + 28) j]), (by clear ih; show ∀ j, 0 ≤ j → j ≠ v1 → vA hz (v0 + 11) j = vA h (v0 + 11) j; intro j j0 n0; rw [g4 j j0 n0, ah2i160 (v0 + 11) j, gr7i112_2 (v0 + 11) j]), (zz_704f037905 g5 o164 o170 o161), (zz_3745968dd1 g6 o163), (zz_a7e7eeafdf o164 g7 o161), (zz_3e1d7f49dd g8 o168 o171)⟩
                    · skip
                      refine r_Mo_o T kv0 ?_
                      have o172 := g_Mo_e25 T kv0 (vA h (v0 + 9) v1)
                      have o173 := g_Mo_41 T kv0
                      refine c_Mod_keep (v0 := v0) (v1 := ((200 + (yr10)) - 48)) T kv0 wM (zz_7317d07eb6 gr10_0) (zz_800bdb7b78 cc111 o172 gr10_0) (zz_b4b1647785 hc o173) ?_
                      intro r25 Tr25 gr25_0 gr25_1
                      unfold f_Mod_replacement_228
                      refine r_Mo_41 Tr25 kv0 ?_
                      intro x1i174 ex1i174 lx1i174 ux1i174
                      have sx1i174 : (vI h v0 41) = x1i174 := (ex1i174.trans (by rw [gr25_0 v0 41])).symm
                      subst sx1i174
                      refine w_Mo_41 Tr25 kv0 (wM _ (by omega) (by omega)) (zz_6ac285591f o173) (zz_2c7fd931f4 ab o173) ?_
                      intro h2i174 Th2i174 ih2i174 ah2i174
                      have o175 : vI h2i174 v0 41 = (vI h v0 41) + 2 := (by rw [ih2i174 v0 41, if_pos ⟨rfl, rfl⟩])
                      have o176 : vI h2i174 v0 3 = vI h v0 3 := (by rw [ih2i174 v0 3, if_neg (fun z => absurd z.2 (by decide)), gr25_0 v0 3])
                      have o177 : vA h2i174 (v0 + 22) (vI h v0 42) = (vA h (v0 + 22) (vI h v0 42)) + 1 := (by rw [ah2i174 (v0 + 22) (vI h v0 42), gr25_1 (v0 + 22) (vI h v0 42) (g_Mo_42 T kv0).1, if_pos ⟨rfl, rfl⟩])
                      have o178 := g_Mo_e22 T kv0 (vI h v0 42)
                      have o179 := g_Mo_3 T kv0
                      refine qk_mono (ih (v0) (v1) h2i174 Th2i174 kv0 wM s0 s1 (zz_2ee6350e9e o175 o176 gr10_1 cc38 o173) (by show vA h2i174 (v0 + 22) (vI h2i174 v0 42) ≤ vI h2i174 v0 41; have qc1 : vI h2i174 v0 42 = (vI h v0 42) := (by rw [ih2i174 v0 42, if_neg (fun z => absurd z.2 (by decide)), gr25_0 v0 42]); rw [qc1]; exact zz_259b3032e8 o177 o175 hc o173 o178) (zz_4c3af4b9d4 o175 o179 gr7_2 cc37 o173) hN (zz_982f166efd o175 ab hms hq1 cc1 hq2 hq3 o173)) ?_
                      rintro hz ⟨Tz, g0, g1, g2, g3, g4, g5, g6, g7, g8⟩
                      try dsimp only at *
                      have qh42_g0 : vI h2i174 v0 42 = (vI h v0 42) := by rw [ih2i174 v0 42, if_neg (fun z => absurd z.2 (by decide)), gr25_0 v0 42]
                      rw [qh42_g0] at g2
                      rw [qh42_g0] at g3
                      rw [qh42_g0] at g6
                      rw [qh42_g0] at g8
                      have o181 := g_Mo_42 T kv0
                      have o182 := g_Mo_e22 Tz kv0 (vI h v0 42)
                      exact ⟨Tz, (by clear ih; show ∀ a k, ¬ (a = v0 ∧ (k = 5 ∨ k = 48 ∨ k = 41)) → vI hz a k = vI h a k; intro a k n0; rw [g0 a k (by omega), ih2i174, if_neg (by omega), gr25_0 a k]), (by clear ih; show ∀ a j, 0 ≤ j → ¬ (a = v0 + 11 ∨ a = v0 + 22 ∨ a = v0 + 28) → vA hz a j = vA h a j; intro a j j0 n0; rw [g1 a j j0 (by omega), ah2i174, gr25_1 a j j0, if_neg (by omega), if_neg (by omega)]), (by clear ih; show ∀ j, 0 ≤ j → j ≠ vI h v0 42 → vA hz (v0 + 22) j = vA h (v0 + 22) j; intro j j0 n0; rw [g2 j j0 n0, ah2i174 (v0 + 22) j, gr25_1 (v0 + 22) j j0, if_neg (fun z => absurd z.2 (zz_946771669d n0)), if_neg (fun z => absurd z.1 (by omega))]), (by clear ih; show ∀ j, 0 ≤ j → (j < (300 * vI h v0 42 + vA h (v0 + 22) (vI h v0 42)) ∨ 300 * vI h v0 42 + 300 ≤ j) → vA hz (v0 + 28) j = vA h (v0 + 28) j; intro j j0 n0; rw [g3 j j0 (zz_d5e09a6e7f o177 n0 o181 o178), ah2i174 (v0 + 28) j, gr25_1 (v0 + 28) j j0, if_neg (fun z => absurd z.1 (by omega)), if_neg (fun z => absurd z.2 (zz_039ceab827 o178 n0 o181))]), (by clear ih; show ∀ j, 0 ≤ j → j ≠ v1 → vA hz (v0 + 11) j = vA h (v0 + 11) j; intro j j0 n0; rw [g4 j j0 n0, ah2i174 (v0 + 11) j, gr25_1 (v0 + 11) j j0, if_neg (fun z => absurd z.1 (by omega)), if_neg (fun z => absurd z.1 (by omega))]), (zz_704f037905 g5 o175 o176 o173), (zz_926e2567f5 g6 o177 o178), (zz_a7e7eeafdf o175 g7 o173), (zz_3e1d7f49dd g8 o181 o182)⟩
              · skip
                refine r_Mo_o T kv0 ?_
                have o183 := g_Mo_41 T kv0
                refine c_Mod_keep (v0 := v0) (v1 := (yr7)) T kv0 wM (zz_265a939049 gr7_0) (zz_26ae85129d gr7_0) (zz_b4b1647785 hc o183) ?_
                intro r30 Tr30 gr30_0 gr30_1
                refine r_Mo_41 Tr30 kv0 ?_
                intro x31 ex31 lx31 ux31
                have sx31 : (vI h v0 41) = x31 := (ex31.trans (by rw [gr30_0 v0 41])).symm
                subst sx31
                refine w_Mo_41 Tr30 kv0 (wM _ (by omega) (by omega)) (zz_5664edf06b o183) (zz_c81e5df24d ab o183) ?_
                intro h32 Th32 ih32 ah32
                have o184 : vI h32 v0 41 = (vI h v0 41) + 1 := (by rw [ih32 v0 41, if_pos ⟨rfl, rfl⟩])
                have o185 : vI h32 v0 3 = vI h v0 3 := (by rw [ih32 v0 3, if_neg (fun z => absurd z.2 (by decide)), gr30_0 v0 3])
                have o186 : vA h32 (v0 + 22) (vI h v0 42) = (vA h (v0 + 22) (vI h v0 42)) + 1 := (by rw [ah32 (v0 + 22) (vI h v0 42), gr30_1 (v0 + 22) (vI h v0 42) (g_Mo_42 T kv0).1, if_pos ⟨rfl, rfl⟩])
                have o187 := g_Mo_e22 T kv0 (vI h v0 42)
                refine qk_mono (ih (v0) (v1) h32 Th32 kv0 wM s0 s1 (zz_ddd39f7a20 o184 o185 gr7_2 cc11 o183) (by show vA h32 (v0 + 22) (vI h32 v0 42) ≤ vI h32 v0 41; have qc1 : vI h32 v0 42 = (vI h v0 42) := (by rw [ih32 v0 42, if_neg (fun z => absurd z.2 (by decide)), gr30_0 v0 42]); rw [qc1]; exact zz_e0bdb35105 o186 o184 hc o183 o187) (zz_258eeb5eb4 o184 gr7_3 cc11 o183) hN (zz_395d806045 o184 ab hms hq1 cc1 hq2 hq3 o183)) ?_
                rintro hz ⟨Tz, g0, g1, g2, g3, g4, g5, g6, g7, g8⟩
                try dsimp only at *
                have qh42_g0 : vI h32 v0 42 = (vI h v0 42) := by rw [ih32 v0 42, if_neg (fun z => absurd z.2 (by decide)), gr30_0 v0 42]
                rw [qh42_g0] at g2
                rw [qh42_g0] at g3
                rw [qh42_g0] at g6
                rw [qh42_g0] at g8
                have o189 := g_Mo_42 T kv0
                have o190 := g_Mo_e22 Tz kv0 (vI h v0 42)
                exact ⟨Tz, (by clear ih; show ∀ a k, ¬ (a = v0 ∧ (k = 5 ∨ k = 48 ∨ k = 41)) → vI hz a k = vI h a k; intro a k n0; rw [g0 a k (by omega), ih32, if_neg (by omega), gr30_0 a k]), (by clear ih; show ∀ a j, 0 ≤ j → ¬ (a = v0 + 11 ∨ a = v0 + 22 ∨ a = v0 + 28) → vA hz a j = vA h a j; intro a j j0 n0; rw [g1 a j j0 (by omega), ah32, gr30_1 a j j0, if_neg (by omega), if_neg (by omega)]), (by clear ih; show ∀ j, 0 ≤ j → j ≠ vI h v0 42 → vA hz (v0 + 22) j = vA h (v0 + 22) j; intro j j0 n0; rw [g2 j j0 n0, ah32 (v0 + 22) j, gr30_1 (v0 + 22) j j0, if_neg (fun z => absurd z.2 (zz_946771669d n0)), if_neg (fun z => absurd z.1 (by omega))]), (by clear ih; show ∀ j, 0 ≤ j → (j < (300 * vI h v0 42 + vA h (v0 + 22) (vI h v0 42)) ∨ 300 * vI h v0 42 + 300 ≤ j) → vA hz (v0 + 28) j = vA h (v0 + 28) j; intro j j0 n0; rw [g3 j j0 (zz_d5e09a6e7f o186 n0 o189 o187), ah32 (v0 + 28) j, gr30_1 (v0 + 28) j j0, if_neg (fun z => absurd z.1 (by omega)), if_neg (fun z => absurd z.2 (zz_039ceab827 o187 n0 o189))]), (by clear ih; show ∀ j, 0 ≤ j → j ≠ v1 → vA hz (v0 + 11) j = vA h (v0 + 11) j; intro j j0 n0; rw [g4 j j0 n0, ah32 (v0 + 11) j, gr30_1 (v0 + 11) j j0, if_neg (fun z => absurd z.1 (by omega)), if_neg (fun z => absurd z.1 (by omega))]), (zz_a5143cc316 g5 o184 o185 o183), (zz_926e2567f5 g6 o186 o187), (zz_b8fccb5cff o184 g7 o183), (zz_3e1d7f49dd g8 o189 o190)⟩
    · skip
      unfold f_Mod_replacement_241
      refine r_Mo_41 T kv0 ?_
      intro x1i191 ex1i191 lx1i191 ux1i191
      subst ex1i191
      have o192 := g_Mo_41 T kv0
      refine w_Mo_41 T kv0 (wM _ (by omega) (by omega)) (zz_5664edf06b o192) (zz_c81e5df24d ab o192) ?_
      intro h2i191 Th2i191 ih2i191 ah2i191
      refine r_Mo_16 Th2i191 kv0 ?_
      refine r_Mo_o Th2i191 kv0 ?_
      refine c_Mod_stored (v0 := v0) Th2i191 kv0 ?_
      intro yr5i191 gr5i191_0
      have qh42_gr5i191_0 : vI h2i191 v0 42 = (vI h v0 42) := by rw [ih2i191 v0 42, if_neg (fun z => absurd z.2 (by decide))]
      rw [qh42_gr5i191_0] at gr5i191_0
      dsimp only
      have o193 := g_Mo_42 T kv0
      have o194 : vA h2i191 (v0 + 22) (vI h v0 42) = vA h (v0 + 22) (vI h v0 42) := (by rw [ah2i191 (v0 + 22) (vI h v0 42)])
      have o195 := g_Mo_e22 T kv0 (vI h v0 42)
      refine w_Mo_e11 Th2i191 kv0 (wM _ (by omega) (by omega)) s0 s1 (zz_5c2d5e4809 gr5i191_0 o193 o194 o195) (zz_cfc7a49901 gr5i191_0 o193 o194 o195) ?_
      intro h6i191 Th6i191 ih6i191 ah6i191
      refine qk_some ?_
      have o196 : vI h6i191 v0 48 = vI h v0 48 := (by rw [ih6i191 v0 48, ih2i191 v0 48, if_neg (fun z => absurd z.2 (by decide))])
      have o197 : vA h6i191 (v0 + 22) (vI h v0 42) = vA h (v0 + 22) (vI h v0 42) := (by rw [ah6i191 (v0 + 22) (vI h v0 42) (g_Mo_42 T kv0).1, if_neg (fun z => absurd z.1 (by omega)), ah2i191 (v0 + 22) (vI h v0 42)])
      have o198 : vI h6i191 v0 41 = (vI h v0 41) + 1 := (by rw [ih6i191 v0 41, ih2i191 v0 41, if_pos ⟨rfl, rfl⟩])
      have o199 : vA h6i191 (v0 + 11) v1 = yr5i191 := (by rw [ah6i191 (v0 + 11) v1 s0, if_pos ⟨rfl, rfl⟩])
      exact ⟨Th6i191, (by clear ih; show ∀ a k, ¬ (a = v0 ∧ (k = 5 ∨ k = 48 ∨ k = 41)) → vI h6i191 a k = vI h a k; intro a k n0; rw [ih6i191, ih2i191, if_neg (by omega)]), (by clear ih; show ∀ a j, 0 ≤ j → ¬ (a = v0 + 11 ∨ a = v0 + 22 ∨ a = v0 + 28) → vA h6i191 a j = vA h a j; intro a j j0 n0; rw [ah6i191 a j j0, if_neg (by omega), ah2i191]), (by clear ih; show ∀ j, 0 ≤ j → j ≠ vI h v0 42 → vA h6i191 (v0 + 22) j = vA h (v0 + 22) j; intro j j0 n0; rw [ah6i191 (v0 + 22) j j0, if_neg (fun z => absurd z.1 (by omega)), ah2i191 (v0 + 22) j]), (by clear ih; show ∀ j, 0 ≤ j → (j < (300 * vI h v0 42 + vA h (v0 + 22) (vI h v0 42)) ∨ 300 * vI h v0 42 + 300 ≤ j) → vA h6i191 (v0 + 28) j = vA h (v0 + 28) j; intro j j0 n0; rw [ah6i191 (v0 + 28) j j0, if_neg (fun z => absurd z.1 (by omega)), ah2i191 (v0 + 28) j]), (by clear ih; show ∀ j, 0 ≤ j → j ≠ v1 → vA h6i191 (v0 + 11) j = vA h (v0 + 11) j; intro j j0 n0; rw [ah6i191 (v0 + 11) j j0, if_neg (fun z => absurd z.2 (zz_946771669d n0)), ah2i191 (v0 + 11) j]), (zz_0de0e8ed46 o196 cc1), (zz_2a5cdb1247 o197 o198 hc o192), (zz_6acff39744 o198 ab o192), (zz_fa851e07c4 o199 o197 gr5i191_0 o194 o193 o195)⟩
theorem p_Mod_replacement_10 {L : q_L} {W : Nat → Prop} {h0 : z_H} {π : Nat → Nat → Option Nat} {N : Nat} {h : z_H} {v0 : Nat} {v1 : Int32} (T : q_U L W h0 π h) (kv0 : q_M L π v0) (wM : ∀ a, v0 ≤ a → a < v0 + 46 → W a) (s0 : 0 ≤ v1) (s1 : v1 < 80) (hl : vI h v0 48 = 0 → vI h v0 41 ≤ vI h v0 3) (hc : vA h (v0 + 22) (vI h v0 42) ≤ vI h v0 41) (ab : vI h v0 41 ≤ 242) (hN : 100000 ≤ N) : qk (f_Mod_replacement_10 N  N v0 v1 h) (fun r => q_U L W h0 π r ∧ (∀ a k, ¬ (a = v0 ∧ (k = 5 ∨ k = 48 ∨ k = 41)) → vI r a k = vI h a k) ∧ (∀ a j, 0 ≤ j → ¬ (a = v0 + 11 ∨ a = v0 + 22 ∨ a = v0 + 28) → vA r a j = vA h a j) ∧ (∀ j, 0 ≤ j → j ≠ vI h v0 42 → vA r (v0 + 22) j = vA h (v0 + 22) j) ∧ (∀ j, 0 ≤ j → (j < (300 * vI h v0 42 + vA h (v0 + 22) (vI h v0 42)) ∨ 300 * vI h v0 42 + 300 ≤ j) → vA r (v0 + 28) j = vA h (v0 + 28) j) ∧ (∀ j, 0 ≤ j → j ≠ v1 → vA r (v0 + 11) j = vA h (v0 + 11) j) ∧ (vI r v0 48 = 0 → vI h v0 41 < vI r v0 41 ∧ vI r v0 41 ≤ vI h v0 3) ∧ (vA h (v0 + 22) (vI h v0 42) ≤ vA r (v0 + 22) (vI h v0 42) ∧ vA r (v0 + 22) (vI h v0 42) ≤ vI r v0 41) ∧ (vI h v0 41 ≤ vI r v0 41 ∧ vI r v0 41 ≤ 244) ∧ (vA r (v0 + 11) v1 = 300 * vI h v0 42 + vA r (v0 + 22) (vI h v0 42))) := by
  have hq := q_qnN hN
  have rg_at := g_Mo_41 T kv0
  refine p_Mod_replacement_10_n (q_lo (M := 301) (by decide) (by decide)) N v0 v1 h T kv0 wM s0 s1 hl hc ab hN ?_ 
  show 301 - q_n N ≤ _
  rw [hq]
  split <;> lia
