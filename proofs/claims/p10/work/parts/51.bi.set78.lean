theorem zz_2de7cda5ad {a1 a2 : Int32} (h0 : a1 = a2) (h1 : a2 ≤ 241) : (a2 ≤ a1) ∧ (a1 ≤ 242) := by simp only [Int32.le_iff_toInt_le, Int32.lt_iff_toInt_lt, ← Int32.toInt_inj, ne_eq] at *; have l0 : (241 : Int32).toInt = 241 := (by decide); have l1 : (242 : Int32).toInt = 242 := (by decide); omega
theorem zz_929a56614c {a1 a2 a3 a4 a5 : Int32} (h0 : a1 = a2) (h1 : (a3 = 0) → (a2 ≤ a4)) (h2 : a3 = 0) : (a5 = 0) → (a1 ≤ a4) := by simp only [Int32.le_iff_toInt_le, Int32.lt_iff_toInt_lt, ← Int32.toInt_inj, ne_eq] at *; have l0 : (0 : Int32).toInt = 0 := (by decide); omega
theorem zz_5664edf06b {a1 : Int32} (h0 : (0 ≤ a1) ∧ (a1 ≤ 250)) : 0 ≤ a1 + 1 := by simp only [Int32.le_iff_toInt_le, Int32.lt_iff_toInt_lt, ← Int32.toInt_inj, ne_eq] at *; have l0 : (0 : Int32).toInt = 0 := (by decide); have l1 : (250 : Int32).toInt = 250 := (by decide); have l2 : (1 : Int32).toInt = 1 := (by decide); have s0 : (a1 + 1).toInt = a1.toInt + 1 := q_tA (by decide) (by omega) (by omega); omega
theorem zz_f1fb509712 {a1 : Int32} (h0 : a1 ≤ 241) (h1 : (0 ≤ a1) ∧ (a1 ≤ 250)) : a1 + 1 ≤ 250 := by simp only [Int32.le_iff_toInt_le, Int32.lt_iff_toInt_lt, ← Int32.toInt_inj, ne_eq] at *; have l0 : (241 : Int32).toInt = 241 := (by decide); have l1 : (0 : Int32).toInt = 0 := (by decide); have l2 : (250 : Int32).toInt = 250 := (by decide); have l3 : (1 : Int32).toInt = 1 := (by decide); have s0 : (a1 + 1).toInt = a1.toInt + 1 := q_tA (by decide) (by omega) (by omega); omega
theorem zz_4e0f39b9c2 {a1 : Int32} (h0 : (-1 ≤ a1) ∧ (a1 ≤ 126)) : a1 ≤ 126 := by simp only [Int32.le_iff_toInt_le, Int32.lt_iff_toInt_lt, ← Int32.toInt_inj, ne_eq] at *; have l0 : (-1 : Int32).toInt = -1 := (by decide); have l1 : (126 : Int32).toInt = 126 := (by decide); omega
theorem zz_3e7f52646d {a1 a2 a3 a4 a5 a6 a7 a8 a9 a10 : Int32} (h0 : (a1 = -1) → (a2 ≤ a3)) (h1 : a2 = a4) (h2 : a3 = a5) (h3 : (a1 ≠ -1) → (a1 = a6)) (h4 : a6 = a7) (h5 : (0 ≤ a7) ∧ (a7 ≤ 126)) (h6 : a8 = a4) (h7 : a9 = a5 + 1) (h8 : (a10 ≠ -1) → (a9 < a8)) (h9 : a10 = 45) (h10 : (0 ≤ a5) ∧ (a5 ≤ 250)) : 0 ≤ a1 := by simp only [Int32.le_iff_toInt_le, Int32.lt_iff_toInt_lt, ← Int32.toInt_inj, ne_eq] at *; have l0 : (-1 : Int32).toInt = -1 := (by decide); have l1 : (0 : Int32).toInt = 0 := (by decide); have l2 : (126 : Int32).toInt = 126 := (by decide); have l3 : (1 : Int32).toInt = 1 := (by decide); have l4 : (45 : Int32).toInt = 45 := (by decide); have l5 : (250 : Int32).toInt = 250 := (by decide); have s0 : (a5 + 1).toInt = a5.toInt + 1 := q_tA (by decide) (by omega) (by omega); omega
theorem zz_ef9a138b5a {a1 : Int32} (h0 : (-1 ≤ a1) ∧ (a1 ≤ 126)) : a1 ≤ 127 := by simp only [Int32.le_iff_toInt_le, Int32.lt_iff_toInt_lt, ← Int32.toInt_inj, ne_eq] at *; have l0 : (-1 : Int32).toInt = -1 := (by decide); have l1 : (126 : Int32).toInt = 126 := (by decide); have l2 : (127 : Int32).toInt = 127 := (by decide); omega
theorem zz_e8dadabc96 {a1 a2 a3 a4 a5 a6 : Int32} (h0 : a1 = a2 + 1) (h1 : (0 ≤ a3) ∧ (a3 ≤ 240)) (h2 : a4 = a3) (h3 : a5 = a2 + 1) (h4 : (a6 ≠ -1) → (a5 < a4)) (h5 : a6 = 45) (h6 : (0 ≤ a2) ∧ (a2 ≤ 250)) : a1 ≤ 241 := by simp only [Int32.le_iff_toInt_le, Int32.lt_iff_toInt_lt, ← Int32.toInt_inj, ne_eq] at *; have l0 : (1 : Int32).toInt = 1 := (by decide); have l1 : (0 : Int32).toInt = 0 := (by decide); have l2 : (240 : Int32).toInt = 240 := (by decide); have l3 : (-1 : Int32).toInt = -1 := (by decide); have l4 : (45 : Int32).toInt = 45 := (by decide); have l5 : (250 : Int32).toInt = 250 := (by decide); have l6 : (241 : Int32).toInt = 241 := (by decide); have s0 : (a2 + 1).toInt = a2.toInt + 1 := q_tA (by decide) (by omega) (by omega); omega
theorem zz_1fc57365c6 {a1 a2 a3 a4 a5 a6 a7 a8 : Int32} (h0 : a1 = a2 + 1) (h1 : a3 = a4) (h2 : a5 = a4) (h3 : a6 = a2 + 1) (h4 : (a7 ≠ -1) → (a6 < a5)) (h5 : a7 = 45) (h6 : (0 ≤ a2) ∧ (a2 ≤ 250)) : (a8 = 0) → (a1 ≤ a3) := by simp only [Int32.le_iff_toInt_le, Int32.lt_iff_toInt_lt, ← Int32.toInt_inj, ne_eq] at *; have l0 : (1 : Int32).toInt = 1 := (by decide); have l1 : (-1 : Int32).toInt = -1 := (by decide); have l2 : (45 : Int32).toInt = 45 := (by decide); have l3 : (0 : Int32).toInt = 0 := (by decide); have l4 : (250 : Int32).toInt = 250 := (by decide); have s0 : (a2 + 1).toInt = a2.toInt + 1 := q_tA (by decide) (by omega) (by omega); omega
theorem zz_d2863a9f4e {a1 a2 a3 a4 a5 a6 a7 a8 a9 a10 : Int32} (h0 : a1 = a2 + 1) (h1 : (0 ≤ a3) ∧ (a3 ≤ 240)) (h2 : a4 ≤ (if a5 = 0 then a2 else 300)) (h3 : a6 ≤ a4 + 1) (h4 : a7 = a3) (h5 : a8 = a2 + 1) (h6 : (a9 ≠ -1) → (a8 + 1 < a7)) (h7 : a5 = 0) (h8 : a9 = 93) (h9 : (0 ≤ a2) ∧ (a2 ≤ 250)) (h10 : -100000 ≤ a4) (h11 : a4 ≤ 100000) : a6 ≤ (if a10 = 0 then a1 else 300) := by split at h2 <;> split <;> (simp only [Int32.le_iff_toInt_le, Int32.lt_iff_toInt_lt, ← Int32.toInt_inj, ne_eq] at *; have l0 : (1 : Int32).toInt = 1 := (by decide); have l1 : (0 : Int32).toInt = 0 := (by decide); have l2 : (240 : Int32).toInt = 240 := (by decide); have l3 : (300 : Int32).toInt = 300 := (by decide); have l4 : (-1 : Int32).toInt = -1 := (by decide); have l5 : (93 : Int32).toInt = 93 := (by decide); have l6 : (250 : Int32).toInt = 250 := (by decide); have l7 : (-100000 : Int32).toInt = -100000 := (by decide); have l8 : (100000 : Int32).toInt = 100000 := (by decide); have s0 : (a2 + 1).toInt = a2.toInt + 1 := q_tA (by decide) (by omega) (by omega); have s1 : (a4 + 1).toInt = a4.toInt + 1 := q_tA (by decide) (by omega) (by omega); have s2 : (a8 + 1).toInt = a8.toInt + 1 := q_tA (by decide) (by omega) (by omega); omega)
theorem zz_3b17fbe48e {a1 a2 a3 : Int32} (h0 : (a1 ≤ a2) ∧ (a2 ≤ 242)) (h1 : a1 = a3 + 1) (h2 : (0 ≤ a3) ∧ (a3 ≤ 250)) : (a3 ≤ a2) ∧ (a2 ≤ 242) := by simp only [Int32.le_iff_toInt_le, Int32.lt_iff_toInt_lt, ← Int32.toInt_inj, ne_eq] at *; have l0 : (242 : Int32).toInt = 242 := (by decide); have l1 : (1 : Int32).toInt = 1 := (by decide); have l2 : (0 : Int32).toInt = 0 := (by decide); have l3 : (250 : Int32).toInt = 250 := (by decide); have s0 : (a3 + 1).toInt = a3.toInt + 1 := q_tA (by decide) (by omega) (by omega); omega
theorem zz_414e53aaf7 {a1 a2 a3 a4 : Int32} (h0 : (a1 = 0) → (a2 ≤ a3)) (h1 : a3 = a4) : (a1 = 0) → (a2 ≤ a4) := by simp only [Int32.le_iff_toInt_le, Int32.lt_iff_toInt_lt, ← Int32.toInt_inj, ne_eq] at *; have l0 : (0 : Int32).toInt = 0 := (by decide); omega
theorem zz_cc5027473f {a1 : Int32} (h0 : (0 ≤ a1) ∧ (a1 ≤ 250)) : 0 ≤ a1 + 1 + 1 := by simp only [Int32.le_iff_toInt_le, Int32.lt_iff_toInt_lt, ← Int32.toInt_inj, ne_eq] at *; have l0 : (0 : Int32).toInt = 0 := (by decide); have l1 : (250 : Int32).toInt = 250 := (by decide); have l2 : (1 : Int32).toInt = 1 := (by decide); have s0 : (a1 + 1).toInt = a1.toInt + 1 := q_tA (by decide) (by omega) (by omega); have s1 : (a1 + 1 + 1).toInt = (a1 + 1).toInt + 1 := q_tA (by decide) (by omega) (by omega); omega
theorem zz_22d0628e10 {a1 : Int32} (h0 : a1 ≤ 241) (h1 : (0 ≤ a1) ∧ (a1 ≤ 250)) : a1 + 1 + 1 ≤ 250 := by simp only [Int32.le_iff_toInt_le, Int32.lt_iff_toInt_lt, ← Int32.toInt_inj, ne_eq] at *; have l0 : (241 : Int32).toInt = 241 := (by decide); have l1 : (0 : Int32).toInt = 0 := (by decide); have l2 : (250 : Int32).toInt = 250 := (by decide); have l3 : (1 : Int32).toInt = 1 := (by decide); have s0 : (a1 + 1).toInt = a1.toInt + 1 := q_tA (by decide) (by omega) (by omega); have s1 : (a1 + 1 + 1).toInt = (a1 + 1).toInt + 1 := q_tA (by decide) (by omega) (by omega); omega
theorem zz_801209a9a4 {a1 a2 a3 a4 : Int32} (h0 : a1 = a2 + 1 + 1) (h1 : a3 = a2 + 1) (h2 : (a4 ≠ -1) → (a3 < 240)) (h3 : a4 = 45) (h4 : (0 ≤ a2) ∧ (a2 ≤ 250)) : (a2 ≤ a1) ∧ (a1 ≤ 242) := by simp only [Int32.le_iff_toInt_le, Int32.lt_iff_toInt_lt, ← Int32.toInt_inj, ne_eq] at *; have l0 : (1 : Int32).toInt = 1 := (by decide); have l1 : (-1 : Int32).toInt = -1 := (by decide); have l2 : (240 : Int32).toInt = 240 := (by decide); have l3 : (45 : Int32).toInt = 45 := (by decide); have l4 : (0 : Int32).toInt = 0 := (by decide); have l5 : (250 : Int32).toInt = 250 := (by decide); have l6 : (242 : Int32).toInt = 242 := (by decide); have s0 : (a2 + 1).toInt = a2.toInt + 1 := q_tA (by decide) (by omega) (by omega); have s1 : (a2 + 1 + 1).toInt = (a2 + 1).toInt + 1 := q_tA (by decide) (by omega) (by omega); omega
theorem zz_8c32971c1b {a1 a2 a3 a4 a5 a6 a7 : Int32} (h0 : a1 = a2 + 1 + 1) (h1 : a3 = a4) (h2 : a5 = a2 + 1) (h3 : (a6 ≠ -1) → (a5 < a3)) (h4 : a6 = 45) (h5 : (0 ≤ a2) ∧ (a2 ≤ 250)) : (a7 = 0) → (a1 ≤ a4) := by simp only [Int32.le_iff_toInt_le, Int32.lt_iff_toInt_lt, ← Int32.toInt_inj, ne_eq] at *; have l0 : (1 : Int32).toInt = 1 := (by decide); have l1 : (-1 : Int32).toInt = -1 := (by decide); have l2 : (45 : Int32).toInt = 45 := (by decide); have l3 : (0 : Int32).toInt = 0 := (by decide); have l4 : (250 : Int32).toInt = 250 := (by decide); have s0 : (a2 + 1).toInt = a2.toInt + 1 := q_tA (by decide) (by omega) (by omega); have s1 : (a2 + 1 + 1).toInt = (a2 + 1).toInt + 1 := q_tA (by decide) (by omega) (by omega); omega
theorem zz_973c91778b {a1 : Int32} (h0 : (0 ≤ a1) ∧ (a1 ≤ 250)) : 0 ≤ a1 + 1 + 1 + 1 := by simp only [Int32.le_iff_toInt_le, Int32.lt_iff_toInt_lt, ← Int32.toInt_inj, ne_eq] at *; have l0 : (0 : Int32).toInt = 0 := (by decide); have l1 : (250 : Int32).toInt = 250 := (by decide); have l2 : (1 : Int32).toInt = 1 := (by decide); have s0 : (a1 + 1).toInt = a1.toInt + 1 := q_tA (by decide) (by omega) (by omega); have s1 : (a1 + 1 + 1).toInt = (a1 + 1).toInt + 1 := q_tA (by decide) (by omega) (by omega); have s2 : (a1 + 1 + 1 + 1).toInt = (a1 + 1 + 1).toInt + 1 := q_tA (by decide) (by omega) (by omega); omega
theorem zz_b4aea19308 {a1 : Int32} (h0 : a1 ≤ 241) (h1 : (0 ≤ a1) ∧ (a1 ≤ 250)) : a1 + 1 + 1 + 1 ≤ 250 := by simp only [Int32.le_iff_toInt_le, Int32.lt_iff_toInt_lt, ← Int32.toInt_inj, ne_eq] at *; have l0 : (241 : Int32).toInt = 241 := (by decide); have l1 : (0 : Int32).toInt = 0 := (by decide); have l2 : (250 : Int32).toInt = 250 := (by decide); have l3 : (1 : Int32).toInt = 1 := (by decide); have s0 : (a1 + 1).toInt = a1.toInt + 1 := q_tA (by decide) (by omega) (by omega); have s1 : (a1 + 1 + 1).toInt = (a1 + 1).toInt + 1 := q_tA (by decide) (by omega) (by omega); have s2 : (a1 + 1 + 1 + 1).toInt = (a1 + 1 + 1).toInt + 1 := q_tA (by decide) (by omega) (by omega); omega
theorem zz_d666d8b6cd {a1 a2 a3 a4 a5 a6 : Int32} (h0 : a1 = a2 + 1 + 1 + 1) (h1 : (0 ≤ a3) ∧ (a3 ≤ 240)) (h2 : a4 = a3) (h3 : a5 = a2 + 1) (h4 : (a6 ≠ -1) → (a5 < a4)) (h5 : a6 = 45) (h6 : (0 ≤ a2) ∧ (a2 ≤ 250)) : a1 ≤ 241 := by simp only [Int32.le_iff_toInt_le, Int32.lt_iff_toInt_lt, ← Int32.toInt_inj, ne_eq] at *; have l0 : (1 : Int32).toInt = 1 := (by decide); have l1 : (0 : Int32).toInt = 0 := (by decide); have l2 : (240 : Int32).toInt = 240 := (by decide); have l3 : (-1 : Int32).toInt = -1 := (by decide); have l4 : (45 : Int32).toInt = 45 := (by decide); have l5 : (250 : Int32).toInt = 250 := (by decide); have l6 : (241 : Int32).toInt = 241 := (by decide); have s0 : (a2 + 1).toInt = a2.toInt + 1 := q_tA (by decide) (by omega) (by omega); have s1 : (a2 + 1 + 1).toInt = (a2 + 1).toInt + 1 := q_tA (by decide) (by omega) (by omega); have s2 : (a2 + 1 + 1 + 1).toInt = (a2 + 1 + 1).toInt + 1 := q_tA (by decide) (by omega) (by omega); omega
theorem zz_dd7eeaac14 {a1 a2 a3 a4 a5 a6 a7 a8 a9 a10 a11 a12 a13 a14 a15 a16 : Int32} (h0 : a1 = a2 + 1 + 1 + 1) (h1 : a3 = a4) (h2 : (a5 = -1) → (a6 ≤ a7)) (h3 : a6 = a4) (h4 : a7 = a2) (h5 : a8 = a4) (h6 : a9 = a2 + 1) (h7 : (a10 ≠ -1) → (a9 < a8)) (h8 : a11 = a4) (h9 : a12 = a2 + 1 + 1) (h10 : (a13 ≠ -1) → (a12 < a11)) (h11 : (a5 ≠ -1) → (a5 = a14)) (h12 : a14 = a15) (h13 : (0 ≤ a15) ∧ (a15 ≤ 126)) (h14 : a10 = 45) (h15 : a5 ≤ a13) (h16 : (0 ≤ a2) ∧ (a2 ≤ 250)) : (a16 = 0) → (a1 ≤ a3) := by simp only [Int32.le_iff_toInt_le, Int32.lt_iff_toInt_lt, ← Int32.toInt_inj, ne_eq] at *; have l0 : (1 : Int32).toInt = 1 := (by decide); have l1 : (-1 : Int32).toInt = -1 := (by decide); have l2 : (0 : Int32).toInt = 0 := (by decide); have l3 : (126 : Int32).toInt = 126 := (by decide); have l4 : (45 : Int32).toInt = 45 := (by decide); have l5 : (250 : Int32).toInt = 250 := (by decide); have s0 : (a2 + 1).toInt = a2.toInt + 1 := q_tA (by decide) (by omega) (by omega); have s1 : (a2 + 1 + 1).toInt = (a2 + 1).toInt + 1 := q_tA (by decide) (by omega) (by omega); have s2 : (a2 + 1 + 1 + 1).toInt = (a2 + 1 + 1).toInt + 1 := q_tA (by decide) (by omega) (by omega); omega
theorem zz_ffbf0bf384 {a1 a2 a3 a4 a5 a6 a7 a8 a9 a10 a11 a12 a13 a14 a15 : Int32} (h0 : a1 = a2 + 1 + 1 + 1) (h1 : a3 ≤ (if a4 = 0 then a2 else 300)) (h2 : a5 ≤ a3 + 1) (h3 : (a6 = -1) → (a7 ≤ a8)) (h4 : a7 = a9) (h5 : a8 = a2) (h6 : a10 = a9) (h7 : a11 = a2 + 1) (h8 : (a12 ≠ -1) → (a11 < a10)) (h9 : a13 = a2 + 1 + 1) (h10 : (a14 ≠ -1) → (a13 < 240)) (h11 : a4 = 0) (h12 : (-1 ≤ a6) ∧ (a6 ≤ 126)) (h13 : a12 = 45) (h14 : a6 ≤ a14) (h15 : (0 ≤ a2) ∧ (a2 ≤ 250)) (h16 : -100000 ≤ a3) (h17 : a3 ≤ 100000) : a5 ≤ (if a15 = 0 then a1 else 300) := by split at h1 <;> split <;> (simp only [Int32.le_iff_toInt_le, Int32.lt_iff_toInt_lt, ← Int32.toInt_inj, ne_eq] at *; have l0 : (1 : Int32).toInt = 1 := (by decide); have l1 : (0 : Int32).toInt = 0 := (by decide); have l2 : (300 : Int32).toInt = 300 := (by decide); have l3 : (-1 : Int32).toInt = -1 := (by decide); have l4 : (240 : Int32).toInt = 240 := (by decide); have l5 : (126 : Int32).toInt = 126 := (by decide); have l6 : (45 : Int32).toInt = 45 := (by decide); have l7 : (250 : Int32).toInt = 250 := (by decide); have l8 : (-100000 : Int32).toInt = -100000 := (by decide); have l9 : (100000 : Int32).toInt = 100000 := (by decide); have s0 : (a2 + 1).toInt = a2.toInt + 1 := q_tA (by decide) (by omega) (by omega); have s1 : (a2 + 1 + 1).toInt = (a2 + 1).toInt + 1 := q_tA (by decide) (by omega) (by omega); have s2 : (a2 + 1 + 1 + 1).toInt = (a2 + 1 + 1).toInt + 1 := q_tA (by decide) (by omega) (by omega); have s3 : (a3 + 1).toInt = a3.toInt + 1 := q_tA (by decide) (by omega) (by omega); omega)
theorem zz_8c80a5c55b {a1 a2 a3 : Int32} (h0 : (a1 ≤ a2) ∧ (a2 ≤ 242)) (h1 : a1 = a3 + 1 + 1 + 1) (h2 : (0 ≤ a3) ∧ (a3 ≤ 250)) : (a3 ≤ a2) ∧ (a2 ≤ 242) := by simp only [Int32.le_iff_toInt_le, Int32.lt_iff_toInt_lt, ← Int32.toInt_inj, ne_eq] at *; have l0 : (242 : Int32).toInt = 242 := (by decide); have l1 : (1 : Int32).toInt = 1 := (by decide); have l2 : (0 : Int32).toInt = 0 := (by decide); have l3 : (250 : Int32).toInt = 250 := (by decide); have s0 : (a3 + 1).toInt = a3.toInt + 1 := q_tA (by decide) (by omega) (by omega); have s1 : (a3 + 1 + 1).toInt = (a3 + 1).toInt + 1 := q_tA (by decide) (by omega) (by omega); have s2 : (a3 + 1 + 1 + 1).toInt = (a3 + 1 + 1).toInt + 1 := q_tA (by decide) (by omega) (by omega); omega
theorem zz_e60f71d0ab {a1 a2 : Int32} (h0 : ¬ (a1 ≤ a2)) (h1 : (-1 ≤ a2) ∧ (a2 ≤ 126)) : 0 ≤ a1 := by simp only [Int32.le_iff_toInt_le, Int32.lt_iff_toInt_lt, ← Int32.toInt_inj, ne_eq] at *; have l0 : (-1 : Int32).toInt = -1 := (by decide); have l1 : (126 : Int32).toInt = 126 := (by decide); have l2 : (0 : Int32).toInt = 0 := (by decide); omega
theorem zz_72bcbc58f7 {a1 a2 a3 : Int32} (h0 : a1 = 1) : (a1 = 0) → (a2 ≤ a3) := by simp only [Int32.le_iff_toInt_le, Int32.lt_iff_toInt_lt, ← Int32.toInt_inj, ne_eq] at *; have l0 : (1 : Int32).toInt = 1 := (by decide); have l1 : (0 : Int32).toInt = 0 := (by decide); omega
theorem zz_0484ef9e16 {a1 a2 a3 a4 a5 a6 a7 a8 : Int32} (h0 : a1 = 1) (h1 : a2 ≤ (if a3 = 0 then a4 else 300)) (h2 : a5 ≤ a2 + 1) (h3 : a6 = a4 + 1) (h4 : (a7 ≠ -1) → (a6 < 240)) (h5 : a3 = 0) (h6 : a7 = 45) (h7 : (0 ≤ a4) ∧ (a4 ≤ 250)) (h8 : -100000 ≤ a2) (h9 : a2 ≤ 100000) : a5 ≤ (if a1 = 0 then a8 else 300) := by split at h1 <;> split <;> (simp only [Int32.le_iff_toInt_le, Int32.lt_iff_toInt_lt, ← Int32.toInt_inj, ne_eq] at *; have l0 : (1 : Int32).toInt = 1 := (by decide); have l1 : (0 : Int32).toInt = 0 := (by decide); have l2 : (300 : Int32).toInt = 300 := (by decide); have l3 : (-1 : Int32).toInt = -1 := (by decide); have l4 : (240 : Int32).toInt = 240 := (by decide); have l5 : (45 : Int32).toInt = 45 := (by decide); have l6 : (250 : Int32).toInt = 250 := (by decide); have l7 : (-100000 : Int32).toInt = -100000 := (by decide); have l8 : (100000 : Int32).toInt = 100000 := (by decide); have s0 : (a2 + 1).toInt = a2.toInt + 1 := q_tA (by decide) (by omega) (by omega); have s1 : (a4 + 1).toInt = a4.toInt + 1 := q_tA (by decide) (by omega) (by omega); omega)
theorem zz_df011663ca {a1 a2 a3 a4 a5 a6 a7 a8 a9 a10 : Int32} (h0 : (a1 = -1) → (a2 ≤ a3)) (h1 : a2 = a4) (h2 : a3 = a5) (h3 : (a1 ≠ -1) → (a1 = a6)) (h4 : a6 = a7) (h5 : (0 ≤ a7) ∧ (a7 ≤ 126)) (h6 : (a8 = 1) → ((a9 = a10) ∧ (a5 < a4))) (h7 : (a8 = 0) ∨ (a8 = 1)) (h8 : ¬ (a8 = 0)) : 0 ≤ a1 := by simp only [Int32.le_iff_toInt_le, Int32.lt_iff_toInt_lt, ← Int32.toInt_inj, ne_eq] at *; have l0 : (-1 : Int32).toInt = -1 := (by decide); have l1 : (0 : Int32).toInt = 0 := (by decide); have l2 : (126 : Int32).toInt = 126 := (by decide); have l3 : (1 : Int32).toInt = 1 := (by decide); omega
theorem zz_cd03833297 {a1 a2 a3 a4 : Int32} (h0 : a1 = a2 + 1) (h1 : (a3 = 0) → (a2 ≤ a4)) (h2 : (0 ≤ a4) ∧ (a4 ≤ 240)) (h3 : a3 = 0) (h4 : (0 ≤ a2) ∧ (a2 ≤ 250)) : a1 ≤ 241 := by simp only [Int32.le_iff_toInt_le, Int32.lt_iff_toInt_lt, ← Int32.toInt_inj, ne_eq] at *; have l0 : (1 : Int32).toInt = 1 := (by decide); have l1 : (0 : Int32).toInt = 0 := (by decide); have l2 : (240 : Int32).toInt = 240 := (by decide); have l3 : (250 : Int32).toInt = 250 := (by decide); have l4 : (241 : Int32).toInt = 241 := (by decide); have s0 : (a2 + 1).toInt = a2.toInt + 1 := q_tA (by decide) (by omega) (by omega); omega
theorem zz_f8e6578deb {a1 a2 a3 a4 a5 a6 a7 a8 : Int32} (h0 : a1 = a2 + 1) (h1 : a3 = a4) (h2 : (a5 = 1) → ((a6 = a7) ∧ (a2 < a4))) (h3 : (a5 = 0) ∨ (a5 = 1)) (h4 : ¬ (a5 = 0)) (h5 : (0 ≤ a2) ∧ (a2 ≤ 250)) : (a8 = 0) → (a1 ≤ a3) := by simp only [Int32.le_iff_toInt_le, Int32.lt_iff_toInt_lt, ← Int32.toInt_inj, ne_eq] at *; have l0 : (1 : Int32).toInt = 1 := (by decide); have l1 : (0 : Int32).toInt = 0 := (by decide); have l2 : (250 : Int32).toInt = 250 := (by decide); have s0 : (a2 + 1).toInt = a2.toInt + 1 := q_tA (by decide) (by omega) (by omega); omega
theorem zz_6fa47c1856 {a1 a2 a3 a4 a5 a6 a7 a8 a9 a10 a11 a12 : Int32} (h0 : a1 = a2 + 1) (h1 : a3 ≤ (if a4 = 0 then a2 else 300)) (h2 : a5 ≤ a3 + 1) (h3 : (a6 = 1) → ((a7 = a4) ∧ (a2 < a8))) (h4 : (a9 = -1) → (a10 ≤ a11)) (h5 : a10 = a8) (h6 : a11 = a2) (h7 : (a9 ≠ -1) → (a11 < 240)) (h8 : a4 = 0) (h9 : (a6 = 0) ∨ (a6 = 1)) (h10 : ¬ (a6 = 0)) (h11 : -100000 ≤ a3) (h12 : a3 ≤ 100000) (h13 : (0 ≤ a2) ∧ (a2 ≤ 250)) : a5 ≤ (if a12 = 0 then a1 else 300) := by split at h1 <;> split <;> (simp only [Int32.le_iff_toInt_le, Int32.lt_iff_toInt_lt, ← Int32.toInt_inj, ne_eq] at *; have l0 : (1 : Int32).toInt = 1 := (by decide); have l1 : (0 : Int32).toInt = 0 := (by decide); have l2 : (300 : Int32).toInt = 300 := (by decide); have l3 : (-1 : Int32).toInt = -1 := (by decide); have l4 : (240 : Int32).toInt = 240 := (by decide); have l5 : (-100000 : Int32).toInt = -100000 := (by decide); have l6 : (100000 : Int32).toInt = 100000 := (by decide); have l7 : (250 : Int32).toInt = 250 := (by decide); have s0 : (a2 + 1).toInt = a2.toInt + 1 := q_tA (by decide) (by omega) (by omega); have s1 : (a3 + 1).toInt = a3.toInt + 1 := q_tA (by decide) (by omega) (by omega); omega)
theorem zz_8cf0a68e79 {a1 a2 : Int32} (h0 : a1 = a2 + 1) (h1 : a2 ≤ 241) (h2 : (0 ≤ a2) ∧ (a2 ≤ 250)) : (a2 ≤ a1) ∧ (a1 ≤ 242) := by simp only [Int32.le_iff_toInt_le, Int32.lt_iff_toInt_lt, ← Int32.toInt_inj, ne_eq] at *; have l0 : (1 : Int32).toInt = 1 := (by decide); have l1 : (241 : Int32).toInt = 241 := (by decide); have l2 : (0 : Int32).toInt = 0 := (by decide); have l3 : (250 : Int32).toInt = 250 := (by decide); have l4 : (242 : Int32).toInt = 242 := (by decide); have s0 : (a2 + 1).toInt = a2.toInt + 1 := q_tA (by decide) (by omega) (by omega); omega
theorem zz_27e8ff4dd6 {a1 a2 a3 a4 a5 : Int32} (h0 : a1 = a2 + 1) (h1 : (a3 ≠ -1) → (a2 < a4)) (h2 : a3 = 93) (h3 : (0 ≤ a2) ∧ (a2 ≤ 250)) : (a5 = 0) → (a1 ≤ a4) := by simp only [Int32.le_iff_toInt_le, Int32.lt_iff_toInt_lt, ← Int32.toInt_inj, ne_eq] at *; have l0 : (1 : Int32).toInt = 1 := (by decide); have l1 : (-1 : Int32).toInt = -1 := (by decide); have l2 : (93 : Int32).toInt = 93 := (by decide); have l3 : (0 : Int32).toInt = 0 := (by decide); have l4 : (250 : Int32).toInt = 250 := (by decide); have s0 : (a2 + 1).toInt = a2.toInt + 1 := q_tA (by decide) (by omega) (by omega); omega
theorem zz_ea7c98ece2 {a1 a2 a3 a4 a5 a6 a7 a8 a9 a10 : Int32} (h0 : a1 = a2 + 1) (h1 : a3 ≤ (if a4 = 0 then a2 else 300)) (h2 : a5 ≤ a3 + 1) (h3 : (a6 = -1) → (a7 ≤ a2)) (h4 : (a6 ≠ -1) → (a2 < 240)) (h5 : (a8 = 1) → ((a9 = a4) ∧ (a2 < a7))) (h6 : a4 = 0) (h7 : (a8 = 0) ∨ (a8 = 1)) (h8 : ¬ (a8 = 0)) (h9 : -100000 ≤ a3) (h10 : a3 ≤ 100000) (h11 : (0 ≤ a2) ∧ (a2 ≤ 250)) : a5 ≤ (if a10 = 0 then a1 else 300) := by split at h1 <;> split <;> (simp only [Int32.le_iff_toInt_le, Int32.lt_iff_toInt_lt, ← Int32.toInt_inj, ne_eq] at *; have l0 : (1 : Int32).toInt = 1 := (by decide); have l1 : (0 : Int32).toInt = 0 := (by decide); have l2 : (300 : Int32).toInt = 300 := (by decide); have l3 : (-1 : Int32).toInt = -1 := (by decide); have l4 : (240 : Int32).toInt = 240 := (by decide); have l5 : (-100000 : Int32).toInt = -100000 := (by decide); have l6 : (100000 : Int32).toInt = 100000 := (by decide); have l7 : (250 : Int32).toInt = 250 := (by decide); have s0 : (a2 + 1).toInt = a2.toInt + 1 := q_tA (by decide) (by omega) (by omega); have s1 : (a3 + 1).toInt = a3.toInt + 1 := q_tA (by decide) (by omega) (by omega); omega)
theorem zz_efa94eccad {a1 a2 a3 a4 : Int32} (h0 : a1 = a2) (h1 : ¬ (a2 = 0)) : (a1 = 0) → (a3 ≤ a4) := by simp only [Int32.le_iff_toInt_le, Int32.lt_iff_toInt_lt, ← Int32.toInt_inj, ne_eq] at *; have l0 : (0 : Int32).toInt = 0 := (by decide); omega
set_option maxHeartbeats 2000000 in
theorem p_Mod_set_78_n {L : q_L} {W : Nat → Prop} {h0 : z_H} {π : Nat → Nat → Option Nat} {N : Nat} {lo : Nat → Int32} (hqn : q_Q lo 301) : ∀ (n : Nat) (v0 : Nat) (v2 : Int32) (v3 : Int32) (v4 : Int32) (h : z_H), q_U L W h0 π h → q_M L π v0 → (∀ a, v0 ≤ a → a < v0 + 46 → W a) → (0 ≤ v2) → (v2 < 520) → (vI h v0 41 ≤ 241) → (vI h v0 48 = 0 → vI h v0 41 ≤ vI h v0 3) → (100000 ≤ N) → (lo n ≤ (if vI h v0 48 = 0 then vI h v0 41 else 300)) → qk (f_Mod_set_78 N  n v0 v2 v3 v4 h) (fun r => q_U L W h0 π r ∧ (∀ a k, ¬ (a = v0 ∧ (k = 5 ∨ k = 48 ∨ k = 41)) → vI r a k = vI h a k) ∧ (∀ a j, vA r a j = vA h a j) ∧ (vI h v0 41 ≤ vI r v0 41 ∧ vI r v0 41 ≤ 242) ∧ (vI r v0 48 = 0 → vI r v0 41 ≤ vI h v0 3)) := by
  intro n
  induction n with
  | zero => intro v0 v2 v3 v4 h T kv0 wM b0 b1 hl hl2 hN hms; have rg_at := g_Mo_41 T kv0; have hz := hqn.1; exact absurd hms (by grind)
  | succ n ih =>
    intro v0 v2 v3 v4 h T kv0 wM b0 b1 hl hl2 hN hms
    obtain ⟨hq1, hq2, hq3⟩ := hqn.2 n
    rw [f_Mod_set_78]
    refine r_Mo_48 T kv0 ?_
    intro x1 ex1
    subst ex1
    refine qk_if (fun cc1 => ?_) (fun cc1 => ?_)
    · skip
      refine qk_if (fun cc2 => ?_) (fun cc2 => ?_)
      · skip
        unfold f_Mod_set_99
        refine r_Mo_o T kv0 ?_
        refine c_Mod_isMember (v0 := v0) T kv0 wM ?_
        intro yr2i3 hr2i3 Tr2i3 gr2i3_0 gr2i3_1 gr2i3_2 gr2i3_3 gr2i3_4
        dsimp only
        refine qk_bs ?_
        refine qk_if (fun cc4 => ?_) (fun cc4 => ?_)
        · skip
          refine qk_some ?_
          have o5 : vI hr2i3 v0 41 = vI h v0 41 := (by rw [gr2i3_1 v0 41 (by omega)])
          exact ⟨Tr2i3, (by clear ih; show ∀ a k, ¬ (a = v0 ∧ (k = 5 ∨ k = 48 ∨ k = 41)) → vI hr2i3 a k = vI h a k; intro a k n0; rw [gr2i3_1 a k (by omega)]), (by clear ih; show ∀ a j, vA hr2i3 a j = vA h a j; intro a j ; rw [gr2i3_2 a j]), (zz_2de7cda5ad o5 hl), (zz_929a56614c o5 hl2 cc1)⟩
        · skip
          refine r_Mo_o Tr2i3 kv0 ?_
          refine c_Mod_here2 (v0 := v0) Tr2i3 kv0 ?_
          intro yr6i3 gr6i3_0 gr6i3_1 gr6i3_2 gr6i3_3 gr6i3_4
          dsimp only
          refine qk_bs ?_
          refine r_Mo_41 Tr2i3 kv0 ?_
          intro x8i3 ex8i3 lx8i3 ux8i3
          have sx8i3 : (vI h v0 41) = x8i3 := (ex8i3.trans (by rw [gr2i3_1 v0 41 (by omega)])).symm
          subst sx8i3
          have o6 := g_Mo_41 T kv0
          refine w_Mo_41 Tr2i3 kv0 (wM _ (by omega) (by omega)) (zz_5664edf06b o6) (zz_f1fb509712 hl o6) ?_
          intro h9i3 Th9i3 ih9i3 ah9i3
          refine r_Mo_o Th9i3 kv0 ?_
          refine c_Mod_here2 (v0 := v0) Th9i3 kv0 ?_
          intro yr11i3 gr11i3_0 gr11i3_1 gr11i3_2 gr11i3_3 gr11i3_4
          dsimp only
          refine qk_if (fun cc7 => ?_) (fun cc7 => ?_)
          · skip
            refine r_Mo_o Th9i3 kv0 ?_
            refine c_Mod_behind (v0 := v0) Th9i3 kv0 ?_
            intro yr14i3 gr14i3_0 gr14i3_1
            dsimp only
            refine qk_if (fun cc8 => ?_) (fun cc8 => ?_)
            · skip
              unfold f_Mod_set_202
              refine r_Mo_o Th9i3 kv0 ?_
              have o10 : vI hr2i3 v0 3 = vI h v0 3 := (by rw [gr2i3_1 v0 3 (by omega)])
              have o11 : vI hr2i3 v0 41 = vI h v0 41 := (by rw [gr2i3_1 v0 41 (by omega)])
              have o12 : vA hr2i3 (v0 + 1) (vI hr2i3 v0 41) = vA h (v0 + 1) (vI hr2i3 v0 41) := (by rw [gr2i3_2 (v0 + 1) (vI hr2i3 v0 41)])
              have o13 := g_Mo_e1 T kv0 (vI hr2i3 v0 41)
              have o14 : vI h9i3 v0 3 = vI h v0 3 := (by rw [ih9i3 v0 3, if_neg (fun z => absurd z.2 (by decide)), gr2i3_1 v0 3 (by omega)])
              have o15 : vI h9i3 v0 41 = (vI h v0 41) + 1 := (by rw [ih9i3 v0 41, if_pos ⟨rfl, rfl⟩])
              refine c_Mod_put (v0 := v0) (v1 := v2) (v2 := (yr6i3)) (v3 := (yr6i3)) Th9i3 kv0 wM b0 b1 (zz_4e0f39b9c2 gr6i3_0) (zz_3e7f52646d gr6i3_1 o10 o11 gr6i3_4 o12 o13 o14 o15 gr11i3_2 cc7 o6) (zz_ef9a138b5a gr6i3_0) hN ?_
              intro r2i9 Tr2i9 gr2i9_0 gr2i9_1
              have o16 : vI r2i9 v0 41 = (vI h v0 41) + 1 := (by rw [gr2i9_0 v0 41, ih9i3 v0 41, if_pos ⟨rfl, rfl⟩])
              have o17 := g_Mo_3 T kv0
              have o18 : vI r2i9 v0 3 = vI h v0 3 := (by rw [gr2i9_0 v0 3, ih9i3 v0 3, if_neg (fun z => absurd z.2 (by decide)), gr2i3_1 v0 3 (by omega)])
              refine qk_mono (ih (v0) (v2) (v3) (1) r2i9 Tr2i9 kv0 wM b0 b1 (zz_e8dadabc96 o16 o17 o14 o15 gr11i3_2 cc7 o6) (zz_1fc57365c6 o16 o18 o14 o15 gr11i3_2 cc7 o6) hN (zz_d2863a9f4e o16 o17 hms hq1 o14 o15 gr14i3_1 cc1 cc8 o6 hq2 hq3)) ?_
              rintro hz ⟨Tz, g0, g1, g2, g3⟩
              try dsimp only at *
              exact ⟨Tz, (by clear ih; show ∀ a k, ¬ (a = v0 ∧ (k = 5 ∨ k = 48 ∨ k = 41)) → vI hz a k = vI h a k; intro a k n0; rw [g0 a k (by omega), gr2i9_0 a k, ih9i3, if_neg (by omega), gr2i3_1 a k (by omega)]), (by clear ih; show ∀ a j, vA hz a j = vA h a j; intro a j ; rw [g1 a j, gr2i9_1 a j, ah9i3, gr2i3_2 a j]), (zz_3b17fbe48e g2 o16 o6), (zz_414e53aaf7 g3 o18)⟩
            · skip
              refine r_Mo_41 Th9i3 kv0 ?_
              intro x16i3 ex16i3 lx16i3 ux16i3
              have sx16i3 : (vI h v0 41) + 1 = x16i3 := (ex16i3.trans (by rw [ih9i3 v0 41, if_pos ⟨rfl, rfl⟩])).symm
              subst sx16i3
              refine w_Mo_41 Th9i3 kv0 (wM _ (by omega) (by omega)) (zz_cc5027473f o6) (zz_22d0628e10 hl o6) ?_
              intro h17i3 Th17i3 ih17i3 ah17i3
              refine r_Mo_o Th17i3 kv0 ?_
              refine c_Mod_isMember (v0 := v0) Th17i3 kv0 wM ?_
              intro yr19i3 hr19i3 Tr19i3 gr19i3_0 gr19i3_1 gr19i3_2 gr19i3_3 gr19i3_4
              dsimp only
              refine qk_bs ?_
              refine qk_if (fun cc20 => ?_) (fun cc20 => ?_)
              · skip
                refine qk_some ?_
                have o21 : vI hr19i3 v0 41 = (vI h v0 41) + 1 + 1 := (by rw [gr19i3_1 v0 41 (by omega), ih17i3 v0 41, if_pos ⟨rfl, rfl⟩])
                have o22 : vI h9i3 v0 41 = (vI h v0 41) + 1 := (by rw [ih9i3 v0 41, if_pos ⟨rfl, rfl⟩])
                have o23 : vI h9i3 v0 3 = vI h v0 3 := (by rw [ih9i3 v0 3, if_neg (fun z => absurd z.2 (by decide)), gr2i3_1 v0 3 (by omega)])
                exact ⟨Tr19i3, (by clear ih; show ∀ a k, ¬ (a = v0 ∧ (k = 5 ∨ k = 48 ∨ k = 41)) → vI hr19i3 a k = vI h a k; intro a k n0; rw [gr19i3_1 a k (by omega), ih17i3, if_neg (by omega), ih9i3, if_neg (by omega), gr2i3_1 a k (by omega)]), (by clear ih; show ∀ a j, vA hr19i3 a j = vA h a j; intro a j ; rw [gr19i3_2 a j, ah17i3, ah9i3, gr2i3_2 a j]), (zz_801209a9a4 o21 o22 gr11i3_3 cc7 o6), (zz_8c32971c1b o21 o23 o22 gr11i3_2 cc7 o6)⟩
              · skip
                refine r_Mo_o Tr19i3 kv0 ?_
                refine c_Mod_here2 (v0 := v0) Tr19i3 kv0 ?_
                intro yr23i3 gr23i3_0 gr23i3_1 gr23i3_2 gr23i3_3 gr23i3_4
                dsimp only
                refine qk_bs ?_
                refine qk_if (fun cc24 => ?_) (fun cc24 => ?_)
                · skip
                  unfold f_Mod_set_192
                  refine r_Mo_41 Tr19i3 kv0 ?_
                  intro x1i25 ex1i25 lx1i25 ux1i25
                  have sx1i25 : ((vI h v0 41) + 1) + 1 = x1i25 := (ex1i25.trans (by rw [gr19i3_1 v0 41 (by omega), ih17i3 v0 41, if_pos ⟨rfl, rfl⟩])).symm
                  subst sx1i25
                  refine w_Mo_41 Tr19i3 kv0 (wM _ (by omega) (by omega)) (zz_973c91778b o6) (zz_b4aea19308 hl o6) ?_
                  intro h2i25 Th2i25 ih2i25 ah2i25
                  unfold f_Mod_set_202
                  refine r_Mo_o Th2i25 kv0 ?_
                  have o27 : vI hr2i3 v0 3 = vI h v0 3 := (by rw [gr2i3_1 v0 3 (by omega)])
                  have o28 : vI hr2i3 v0 41 = vI h v0 41 := (by rw [gr2i3_1 v0 41 (by omega)])
                  have o29 : vA hr2i3 (v0 + 1) (vI hr2i3 v0 41) = vA h (v0 + 1) (vI hr2i3 v0 41) := (by rw [gr2i3_2 (v0 + 1) (vI hr2i3 v0 41)])
                  have o30 := g_Mo_e1 T kv0 (vI hr2i3 v0 41)
                  have o31 : vI h9i3 v0 3 = vI h v0 3 := (by rw [ih9i3 v0 3, if_neg (fun z => absurd z.2 (by decide)), gr2i3_1 v0 3 (by omega)])
                  have o32 : vI h9i3 v0 41 = (vI h v0 41) + 1 := (by rw [ih9i3 v0 41, if_pos ⟨rfl, rfl⟩])
                  refine c_Mod_put (v0 := v0) (v1 := v2) (v2 := (yr6i3)) (v3 := (yr23i3)) Th2i25 kv0 wM b0 b1 (zz_4e0f39b9c2 gr23i3_0) (zz_3e7f52646d gr6i3_1 o27 o28 gr6i3_4 o29 o30 o31 o32 gr11i3_2 cc7 o6) (zz_ef9a138b5a gr6i3_0) hN ?_
                  intro r2i26 Tr2i26 gr2i26_0 gr2i26_1
                  have o33 : vI r2i26 v0 41 = (vI h v0 41) + 1 + 1 + 1 := (by rw [gr2i26_0 v0 41, ih2i25 v0 41, if_pos ⟨rfl, rfl⟩])
                  have o34 := g_Mo_3 T kv0
                  have o35 : vI r2i26 v0 3 = vI h v0 3 := (by rw [gr2i26_0 v0 3, ih2i25 v0 3, if_neg (fun z => absurd z.2 (by decide)), gr19i3_1 v0 3 (by omega), ih17i3 v0 3, if_neg (fun z => absurd z.2 (by decide)), ih9i3 v0 3, if_neg (fun z => absurd z.2 (by decide)), gr2i3_1 v0 3 (by omega)])
                  have o36 : vI hr19i3 v0 3 = vI h v0 3 := (by rw [gr19i3_1 v0 3 (by omega), ih17i3 v0 3, if_neg (fun z => absurd z.2 (by decide)), ih9i3 v0 3, if_neg (fun z => absurd z.2 (by decide)), gr2i3_1 v0 3 (by omega)])
                  have o37 : vI hr19i3 v0 41 = (vI h v0 41) + 1 + 1 := (by rw [gr19i3_1 v0 41 (by omega), ih17i3 v0 41, if_pos ⟨rfl, rfl⟩])
                  refine qk_mono (ih (v0) (v2) (v3) (1) r2i26 Tr2i26 kv0 wM b0 b1 (zz_d666d8b6cd o33 o34 o31 o32 gr11i3_2 cc7 o6) (zz_dd7eeaac14 o33 o35 gr6i3_1 o27 o28 o31 o32 gr11i3_2 o36 o37 gr23i3_2 gr6i3_4 o29 o30 cc7 cc24 o6) hN (zz_ffbf0bf384 o33 hms hq1 gr6i3_1 o27 o28 o31 o32 gr11i3_2 o37 gr23i3_3 cc1 gr6i3_0 cc7 cc24 o6 hq2 hq3)) ?_
                  rintro hz ⟨Tz, g0, g1, g2, g3⟩
                  try dsimp only at *
                  exact ⟨Tz, (by clear ih; show ∀ a k, ¬ (a = v0 ∧ (k = 5 ∨ k = 48 ∨ k = 41)) → vI hz a k = vI h a k; intro a k n0; rw [g0 a k (by omega), gr2i26_0 a k, ih2i25, if_neg (by omega), gr19i3_1 a k (by omega), ih17i3, if_neg (by omega), ih9i3, if_neg (by omega), gr2i3_1 a k (by omega)]), (by clear ih; show ∀ a j, vA hz a j = vA h a j; intro a j ; rw [g1 a j, gr2i26_1 a j, ah2i25, gr19i3_2 a j, ah17i3, ah9i3, gr2i3_2 a j]), (zz_8c80a5c55b g2 o33 o6), (zz_414e53aaf7 g3 o35)⟩
                · skip
                  refine r_Mo_41 Tr19i3 kv0 ?_
                  intro x26i3 ex26i3 lx26i3 ux26i3
                  have sx26i3 : ((vI h v0 41) + 1) + 1 = x26i3 := (ex26i3.trans (by rw [gr19i3_1 v0 41 (by omega), ih17i3 v0 41, if_pos ⟨rfl, rfl⟩])).symm
                  subst sx26i3
                  refine r_Mo_o Tr19i3 kv0 ?_
                  refine c_Mod_wrong (v0 := v0) (v1 := (((vI h v0 41) + 1) + 1)) Tr19i3 kv0 wM ?_
                  intro r28i3 Tr28i3 gr28i3_0 gr28i3_1 gr28i3_2
                  unfold f_Mod_set_192
                  refine r_Mo_41 Tr28i3 kv0 ?_
                  intro x1i39 ex1i39 lx1i39 ux1i39
                  have sx1i39 : ((vI h v0 41) + 1) + 1 = x1i39 := (ex1i39.trans (by rw [gr28i3_0 v0 41 (by omega), gr19i3_1 v0 41 (by omega), ih17i3 v0 41, if_pos ⟨rfl, rfl⟩])).symm
                  subst sx1i39
                  refine w_Mo_41 Tr28i3 kv0 (wM _ (by omega) (by omega)) (zz_973c91778b o6) (zz_b4aea19308 hl o6) ?_
                  intro h2i39 Th2i39 ih2i39 ah2i39
                  unfold f_Mod_set_202
                  refine r_Mo_o Th2i39 kv0 ?_
                  refine c_Mod_put (v0 := v0) (v1 := v2) (v2 := (yr6i3)) (v3 := (yr23i3)) Th2i39 kv0 wM b0 b1 (zz_4e0f39b9c2 gr23i3_0) (zz_e60f71d0ab cc24 gr23i3_0) (zz_ef9a138b5a gr6i3_0) hN ?_
                  intro r2i40 Tr2i40 gr2i40_0 gr2i40_1
                  have o41 : vI r2i40 v0 41 = (vI h v0 41) + 1 + 1 + 1 := (by rw [gr2i40_0 v0 41, ih2i39 v0 41, if_pos ⟨rfl, rfl⟩])
                  have o42 := g_Mo_3 T kv0
                  have o43 : vI h9i3 v0 3 = vI h v0 3 := (by rw [ih9i3 v0 3, if_neg (fun z => absurd z.2 (by decide)), gr2i3_1 v0 3 (by omega)])
                  have o44 : vI h9i3 v0 41 = (vI h v0 41) + 1 := (by rw [ih9i3 v0 41, if_pos ⟨rfl, rfl⟩])
                  have o45 : vI r2i40 v0 48 = 1 := (by rw [gr2i40_0 v0 48, ih2i39 v0 48, if_neg (fun z => absurd z.2 (by decide)), gr28i3_1])
                  refine qk_mono (ih (v0) (v2) (v3) (1) r2i40 Tr2i40 kv0 wM b0 b1 (zz_d666d8b6cd o41 o42 o43 o44 gr11i3_2 cc7 o6) (zz_72bcbc58f7 o45) hN (zz_0484ef9e16 o45 hms hq1 o44 gr11i3_3 cc1 cc7 o6 hq2 hq3)) ?_
                  rintro hz ⟨Tz, g0, g1, g2, g3⟩
                  try dsimp only at *
                  have o47 : vI r2i40 v0 3 = vI h v0 3 := (by rw [gr2i40_0 v0 3, ih2i39 v0 3, if_neg (fun z => absurd z.2 (by decide)), gr28i3_0 v0 3 (by omega), gr19i3_1 v0 3 (by omega), ih17i3 v0 3, if_neg (fun z => absurd z.2 (by decide)), ih9i3 v0 3, if_neg (fun z => absurd z.2 (by decide)), gr2i3_1 v0 3 (by omega)])
                  exact ⟨Tz, (by clear ih; show ∀ a k, ¬ (a = v0 ∧ (k = 5 ∨ k = 48 ∨ k = 41)) → vI hz a k = vI h a k; intro a k n0; rw [g0 a k (by omega), gr2i40_0 a k, ih2i39, if_neg (by omega), gr28i3_0 a k (by omega), gr19i3_1 a k (by omega), ih17i3, if_neg (by omega), ih9i3, if_neg (by omega), gr2i3_1 a k (by omega)]), (by clear ih; show ∀ a j, vA hz a j = vA h a j; intro a j ; rw [g1 a j, gr2i40_1 a j, ah2i39, gr28i3_2 a j, gr19i3_2 a j, ah17i3, ah9i3, gr2i3_2 a j]), (zz_8c80a5c55b g2 o41 o6), (zz_414e53aaf7 g3 o47)⟩
          · skip
            unfold f_Mod_set_202
            refine r_Mo_o Th9i3 kv0 ?_
            have o49 : vI hr2i3 v0 3 = vI h v0 3 := (by rw [gr2i3_1 v0 3 (by omega)])
            have o50 : vI hr2i3 v0 41 = vI h v0 41 := (by rw [gr2i3_1 v0 41 (by omega)])
            have o51 : vA hr2i3 (v0 + 1) (vI hr2i3 v0 41) = vA h (v0 + 1) (vI hr2i3 v0 41) := (by rw [gr2i3_2 (v0 + 1) (vI hr2i3 v0 41)])
            have o52 := g_Mo_e1 T kv0 (vI hr2i3 v0 41)
            refine c_Mod_put (v0 := v0) (v1 := v2) (v2 := (yr6i3)) (v3 := (yr6i3)) Th9i3 kv0 wM b0 b1 (zz_4e0f39b9c2 gr6i3_0) (zz_df011663ca gr6i3_1 o49 o50 gr6i3_4 o51 o52 gr2i3_3 gr2i3_0 cc4) (zz_ef9a138b5a gr6i3_0) hN ?_
            intro r2i48 Tr2i48 gr2i48_0 gr2i48_1
            have o53 : vI r2i48 v0 41 = (vI h v0 41) + 1 := (by rw [gr2i48_0 v0 41, ih9i3 v0 41, if_pos ⟨rfl, rfl⟩])
            have o54 := g_Mo_3 T kv0
            have o55 : vI r2i48 v0 3 = vI h v0 3 := (by rw [gr2i48_0 v0 3, ih9i3 v0 3, if_neg (fun z => absurd z.2 (by decide)), gr2i3_1 v0 3 (by omega)])
            refine qk_mono (ih (v0) (v2) (v3) (1) r2i48 Tr2i48 kv0 wM b0 b1 (zz_cd03833297 o53 hl2 o54 cc1 o6) (zz_f8e6578deb o53 o55 gr2i3_3 gr2i3_0 cc4 o6) hN (zz_6fa47c1856 o53 hms hq1 gr2i3_3 gr6i3_1 o49 o50 gr6i3_3 cc1 gr2i3_0 cc4 hq2 hq3 o6)) ?_
            rintro hz ⟨Tz, g0, g1, g2, g3⟩
            try dsimp only at *
            exact ⟨Tz, (by clear ih; show ∀ a k, ¬ (a = v0 ∧ (k = 5 ∨ k = 48 ∨ k = 41)) → vI hz a k = vI h a k; intro a k n0; rw [g0 a k (by omega), gr2i48_0 a k, ih9i3, if_neg (by omega), gr2i3_1 a k (by omega)]), (by clear ih; show ∀ a j, vA hz a j = vA h a j; intro a j ; rw [g1 a j, gr2i48_1 a j, ah9i3, gr2i3_2 a j]), (zz_3b17fbe48e g2 o53 o6), (zz_414e53aaf7 g3 o55)⟩
      · skip
        refine r_Mo_o T kv0 ?_
        refine c_Mod_here2 (v0 := v0) T kv0 ?_
        intro yr5 gr5_0 gr5_1 gr5_2 gr5_3 gr5_4
        dsimp only
        refine qk_if (fun cc57 => ?_) (fun cc57 => ?_)
        · skip
          unfold f_Mod_set_217
          refine r_Mo_41 T kv0 ?_
          intro x1i58 ex1i58 lx1i58 ux1i58
          subst ex1i58
          have o59 := g_Mo_41 T kv0
          refine w_Mo_41 T kv0 (wM _ (by omega) (by omega)) (zz_5664edf06b o59) (zz_f1fb509712 hl o59) ?_
          intro h2i58 Th2i58 ih2i58 ah2i58
          refine qk_if (fun cc60 => ?_) (fun cc60 => ?_)
          · skip
            refine qk_some ?_
            have o61 : vI h2i58 v0 41 = (vI h v0 41) + 1 := (by rw [ih2i58 v0 41, if_pos ⟨rfl, rfl⟩])
            exact ⟨Th2i58, (by clear ih; show ∀ a k, ¬ (a = v0 ∧ (k = 5 ∨ k = 48 ∨ k = 41)) → vI h2i58 a k = vI h a k; intro a k n0; rw [ih2i58, if_neg (by omega)]), (by clear ih; show ∀ a j, vA h2i58 a j = vA h a j; intro a j ; rw [ah2i58]), (zz_8cf0a68e79 o61 hl o59), (zz_27e8ff4dd6 o61 gr5_2 cc57 o59)⟩
          · skip
            refine r_Mo_37 Th2i58 kv0 ?_
            refine r_Mo_37 Th2i58 kv0 ?_
            refine r_Mo_e32 Th2i58 kv0 b0 b1 ?_
            intro x6i58
            refine w_Mo_e32 Th2i58 kv0 (wM _ (by omega) (by omega)) b0 b1 ?_
            intro h7i58 Th7i58 ih7i58 ah7i58
            refine r_Mo_38 Th7i58 kv0 ?_
            refine r_Mo_38 Th7i58 kv0 ?_
            refine r_Mo_e33 Th7i58 kv0 b0 b1 ?_
            intro x10i58
            refine w_Mo_e33 Th7i58 kv0 (wM _ (by omega) (by omega)) b0 b1 ?_
            intro h11i58 Th11i58 ih11i58 ah11i58
            refine qk_some ?_
            have o62 : vI h11i58 v0 41 = (vI h v0 41) + 1 := (by rw [ih11i58 v0 41, ih7i58 v0 41, ih2i58 v0 41, if_pos ⟨rfl, rfl⟩])
            exact ⟨Th11i58, (by clear ih; show ∀ a k, ¬ (a = v0 ∧ (k = 5 ∨ k = 48 ∨ k = 41)) → vI h11i58 a k = vI h a k; intro a k n0; rw [ih11i58, ih7i58, ih2i58, if_neg (by omega)]), (by clear ih; show ∀ a j, vA h11i58 a j = vA h a j; intro a j ; rw [ah11i58, ah7i58, ah2i58]), (zz_8cf0a68e79 o62 hl o59), (zz_27e8ff4dd6 o62 gr5_2 cc57 o59)⟩
        · skip
          unfold f_Mod_set_99
          refine r_Mo_o T kv0 ?_
          refine c_Mod_isMember (v0 := v0) T kv0 wM ?_
          intro yr2i63 hr2i63 Tr2i63 gr2i63_0 gr2i63_1 gr2i63_2 gr2i63_3 gr2i63_4
          dsimp only
          refine qk_bs ?_
          refine qk_if (fun cc64 => ?_) (fun cc64 => ?_)
          · skip
            refine qk_some ?_
            have o65 : vI hr2i63 v0 41 = vI h v0 41 := (by rw [gr2i63_1 v0 41 (by omega)])
            exact ⟨Tr2i63, (by clear ih; show ∀ a k, ¬ (a = v0 ∧ (k = 5 ∨ k = 48 ∨ k = 41)) → vI hr2i63 a k = vI h a k; intro a k n0; rw [gr2i63_1 a k (by omega)]), (by clear ih; show ∀ a j, vA hr2i63 a j = vA h a j; intro a j ; rw [gr2i63_2 a j]), (zz_2de7cda5ad o65 hl), (zz_929a56614c o65 hl2 cc1)⟩
          · skip
            refine r_Mo_o Tr2i63 kv0 ?_
            refine c_Mod_here2 (v0 := v0) Tr2i63 kv0 ?_
            intro yr6i63 gr6i63_0 gr6i63_1 gr6i63_2 gr6i63_3 gr6i63_4
            dsimp only
            refine qk_bs ?_
            refine r_Mo_41 Tr2i63 kv0 ?_
            intro x8i63 ex8i63 lx8i63 ux8i63
            have sx8i63 : (vI h v0 41) = x8i63 := (ex8i63.trans (by rw [gr2i63_1 v0 41 (by omega)])).symm
            subst sx8i63
            have o66 := g_Mo_41 T kv0
            refine w_Mo_41 Tr2i63 kv0 (wM _ (by omega) (by omega)) (zz_5664edf06b o66) (zz_f1fb509712 hl o66) ?_
            intro h9i63 Th9i63 ih9i63 ah9i63
            refine r_Mo_o Th9i63 kv0 ?_
            refine c_Mod_here2 (v0 := v0) Th9i63 kv0 ?_
            intro yr11i63 gr11i63_0 gr11i63_1 gr11i63_2 gr11i63_3 gr11i63_4
            dsimp only
            refine qk_if (fun cc67 => ?_) (fun cc67 => ?_)
            · skip
              refine r_Mo_o Th9i63 kv0 ?_
              refine c_Mod_behind (v0 := v0) Th9i63 kv0 ?_
              intro yr14i63 gr14i63_0 gr14i63_1
              dsimp only
              refine qk_if (fun cc68 => ?_) (fun cc68 => ?_)
              · skip
                unfold f_Mod_set_202
                refine r_Mo_o Th9i63 kv0 ?_
                have o70 : vI hr2i63 v0 3 = vI h v0 3 := (by rw [gr2i63_1 v0 3 (by omega)])
                have o71 : vI hr2i63 v0 41 = vI h v0 41 := (by rw [gr2i63_1 v0 41 (by omega)])
                have o72 : vA hr2i63 (v0 + 1) (vI hr2i63 v0 41) = vA h (v0 + 1) (vI hr2i63 v0 41) := (by rw [gr2i63_2 (v0 + 1) (vI hr2i63 v0 41)])
                have o73 := g_Mo_e1 T kv0 (vI hr2i63 v0 41)
                have o74 : vI h9i63 v0 3 = vI h v0 3 := (by rw [ih9i63 v0 3, if_neg (fun z => absurd z.2 (by decide)), gr2i63_1 v0 3 (by omega)])
                have o75 : vI h9i63 v0 41 = (vI h v0 41) + 1 := (by rw [ih9i63 v0 41, if_pos ⟨rfl, rfl⟩])
                refine c_Mod_put (v0 := v0) (v1 := v2) (v2 := (yr6i63)) (v3 := (yr6i63)) Th9i63 kv0 wM b0 b1 (zz_4e0f39b9c2 gr6i63_0) (zz_3e7f52646d gr6i63_1 o70 o71 gr6i63_4 o72 o73 o74 o75 gr11i63_2 cc67 o66) (zz_ef9a138b5a gr6i63_0) hN ?_
                intro r2i69 Tr2i69 gr2i69_0 gr2i69_1
                have o76 : vI r2i69 v0 41 = (vI h v0 41) + 1 := (by rw [gr2i69_0 v0 41, ih9i63 v0 41, if_pos ⟨rfl, rfl⟩])
                have o77 := g_Mo_3 T kv0
                have o78 : vI r2i69 v0 3 = vI h v0 3 := (by rw [gr2i69_0 v0 3, ih9i63 v0 3, if_neg (fun z => absurd z.2 (by decide)), gr2i63_1 v0 3 (by omega)])
                refine qk_mono (ih (v0) (v2) (v3) (1) r2i69 Tr2i69 kv0 wM b0 b1 (zz_e8dadabc96 o76 o77 o74 o75 gr11i63_2 cc67 o66) (zz_1fc57365c6 o76 o78 o74 o75 gr11i63_2 cc67 o66) hN (zz_d2863a9f4e o76 o77 hms hq1 o74 o75 gr14i63_1 cc1 cc68 o66 hq2 hq3)) ?_
                rintro hz ⟨Tz, g0, g1, g2, g3⟩
                try dsimp only at *
                exact ⟨Tz, (by clear ih; show ∀ a k, ¬ (a = v0 ∧ (k = 5 ∨ k = 48 ∨ k = 41)) → vI hz a k = vI h a k; intro a k n0; rw [g0 a k (by omega), gr2i69_0 a k, ih9i63, if_neg (by omega), gr2i63_1 a k (by omega)]), (by clear ih; show ∀ a j, vA hz a j = vA h a j; intro a j ; rw [g1 a j, gr2i69_1 a j, ah9i63, gr2i63_2 a j]), (zz_3b17fbe48e g2 o76 o66), (zz_414e53aaf7 g3 o78)⟩
              · skip
                refine r_Mo_41 Th9i63 kv0 ?_
                intro x16i63 ex16i63 lx16i63 ux16i63
                have sx16i63 : (vI h v0 41) + 1 = x16i63 := (ex16i63.trans (by rw [ih9i63 v0 41, if_pos ⟨rfl, rfl⟩])).symm
                subst sx16i63
                refine w_Mo_41 Th9i63 kv0 (wM _ (by omega) (by omega)) (zz_cc5027473f o66) (zz_22d0628e10 hl o66) ?_
                intro h17i63 Th17i63 ih17i63 ah17i63
                refine r_Mo_o Th17i63 kv0 ?_
                refine c_Mod_isMember (v0 := v0) Th17i63 kv0 wM ?_
                intro yr19i63 hr19i63 Tr19i63 gr19i63_0 gr19i63_1 gr19i63_2 gr19i63_3 gr19i63_4
                dsimp only
                refine qk_bs ?_
                refine qk_if (fun cc80 => ?_) (fun cc80 => ?_)
                · skip
                  refine qk_some ?_
                  have o81 : vI hr19i63 v0 41 = (vI h v0 41) + 1 + 1 := (by rw [gr19i63_1 v0 41 (by omega), ih17i63 v0 41, if_pos ⟨rfl, rfl⟩])
                  have o82 : vI h9i63 v0 41 = (vI h v0 41) + 1 := (by rw [ih9i63 v0 41, if_pos ⟨rfl, rfl⟩])
                  have o83 : vI h9i63 v0 3 = vI h v0 3 := (by rw [ih9i63 v0 3, if_neg (fun z => absurd z.2 (by decide)), gr2i63_1 v0 3 (by omega)])
                  exact ⟨Tr19i63, (by clear ih; show ∀ a k, ¬ (a = v0 ∧ (k = 5 ∨ k = 48 ∨ k = 41)) → vI hr19i63 a k = vI h a k; intro a k n0; rw [gr19i63_1 a k (by omega), ih17i63, if_neg (by omega), ih9i63, if_neg (by omega), gr2i63_1 a k (by omega)]), (by clear ih; show ∀ a j, vA hr19i63 a j = vA h a j; intro a j ; rw [gr19i63_2 a j, ah17i63, ah9i63, gr2i63_2 a j]), (zz_801209a9a4 o81 o82 gr11i63_3 cc67 o66), (zz_8c32971c1b o81 o83 o82 gr11i63_2 cc67 o66)⟩
                · skip
                  refine r_Mo_o Tr19i63 kv0 ?_
                  refine c_Mod_here2 (v0 := v0) Tr19i63 kv0 ?_
                  intro yr23i63 gr23i63_0 gr23i63_1 gr23i63_2 gr23i63_3 gr23i63_4
                  dsimp only
                  refine qk_bs ?_
                  refine qk_if (fun cc84 => ?_) (fun cc84 => ?_)
                  · skip
                    unfold f_Mod_set_192
                    refine r_Mo_41 Tr19i63 kv0 ?_
                    intro x1i85 ex1i85 lx1i85 ux1i85
                    have sx1i85 : ((vI h v0 41) + 1) + 1 = x1i85 := (ex1i85.trans (by rw [gr19i63_1 v0 41 (by omega), ih17i63 v0 41, if_pos ⟨rfl, rfl⟩])).symm
                    subst sx1i85
                    refine w_Mo_41 Tr19i63 kv0 (wM _ (by omega) (by omega)) (zz_973c91778b o66) (zz_b4aea19308 hl o66) ?_
                    intro h2i85 Th2i85 ih2i85 ah2i85
                    unfold f_Mod_set_202
                    refine r_Mo_o Th2i85 kv0 ?_
                    have o87 : vI hr2i63 v0 3 = vI h v0 3 := (by rw [gr2i63_1 v0 3 (by omega)])
                    have o88 : vI hr2i63 v0 41 = vI h v0 41 := (by rw [gr2i63_1 v0 41 (by omega)])
                    have o89 : vA hr2i63 (v0 + 1) (vI hr2i63 v0 41) = vA h (v0 + 1) (vI hr2i63 v0 41) := (by rw [gr2i63_2 (v0 + 1) (vI hr2i63 v0 41)])
                    have o90 := g_Mo_e1 T kv0 (vI hr2i63 v0 41)
                    have o91 : vI h9i63 v0 3 = vI h v0 3 := (by rw [ih9i63 v0 3, if_neg (fun z => absurd z.2 (by decide)), gr2i63_1 v0 3 (by omega)])
                    have o92 : vI h9i63 v0 41 = (vI h v0 41) + 1 := (by rw [ih9i63 v0 41, if_pos ⟨rfl, rfl⟩])
                    refine c_Mod_put (v0 := v0) (v1 := v2) (v2 := (yr6i63)) (v3 := (yr23i63)) Th2i85 kv0 wM b0 b1 (zz_4e0f39b9c2 gr23i63_0) (zz_3e7f52646d gr6i63_1 o87 o88 gr6i63_4 o89 o90 o91 o92 gr11i63_2 cc67 o66) (zz_ef9a138b5a gr6i63_0) hN ?_
                    intro r2i86 Tr2i86 gr2i86_0 gr2i86_1
                    have o93 : vI r2i86 v0 41 = (vI h v0 41) + 1 + 1 + 1 := (by rw [gr2i86_0 v0 41, ih2i85 v0 41, if_pos ⟨rfl, rfl⟩])
                    have o94 := g_Mo_3 T kv0
                    have o95 : vI r2i86 v0 3 = vI h v0 3 := (by rw [gr2i86_0 v0 3, ih2i85 v0 3, if_neg (fun z => absurd z.2 (by decide)), gr19i63_1 v0 3 (by omega), ih17i63 v0 3, if_neg (fun z => absurd z.2 (by decide)), ih9i63 v0 3, if_neg (fun z => absurd z.2 (by decide)), gr2i63_1 v0 3 (by omega)])
                    have o96 : vI hr19i63 v0 3 = vI h v0 3 := (by rw [gr19i63_1 v0 3 (by omega), ih17i63 v0 3, if_neg (fun z => absurd z.2 (by decide)), ih9i63 v0 3, if_neg (fun z => absurd z.2 (by decide)), gr2i63_1 v0 3 (by omega)])
                    have o97 : vI hr19i63 v0 41 = (vI h v0 41) + 1 + 1 := (by rw [gr19i63_1 v0 41 (by omega), ih17i63 v0 41, if_pos ⟨rfl, rfl⟩])
                    refine qk_mono (ih (v0) (v2) (v3) (1) r2i86 Tr2i86 kv0 wM b0 b1 (zz_d666d8b6cd o93 o94 o91 o92 gr11i63_2 cc67 o66) (zz_dd7eeaac14 o93 o95 gr6i63_1 o87 o88 o91 o92 gr11i63_2 o96 o97 gr23i63_2 gr6i63_4 o89 o90 cc67 cc84 o66) hN (zz_ffbf0bf384 o93 hms hq1 gr6i63_1 o87 o88 o91 o92 gr11i63_2 o97 gr23i63_3 cc1 gr6i63_0 cc67 cc84 o66 hq2 hq3)) ?_
                    rintro hz ⟨Tz, g0, g1, g2, g3⟩
                    try dsimp only at *
                    exact ⟨Tz, (by clear ih; show ∀ a k, ¬ (a = v0 ∧ (k = 5 ∨ k = 48 ∨ k = 41)) → vI hz a k = vI h a k; intro a k n0; rw [g0 a k (by omega), gr2i86_0 a k, ih2i85, if_neg (by omega), gr19i63_1 a k (by omega), ih17i63, if_neg (by omega), ih9i63, if_neg (by omega), gr2i63_1 a k (by omega)]), (by clear ih; show ∀ a j, vA hz a j = vA h a j; intro a j ; rw [g1 a j, gr2i86_1 a j, ah2i85, gr19i63_2 a j, ah17i63, ah9i63, gr2i63_2 a j]), (zz_8c80a5c55b g2 o93 o66), (zz_414e53aaf7 g3 o95)⟩
                  · skip
                    refine r_Mo_41 Tr19i63 kv0 ?_
                    intro x26i63 ex26i63 lx26i63 ux26i63
                    have sx26i63 : ((vI h v0 41) + 1) + 1 = x26i63 := (ex26i63.trans (by rw [gr19i63_1 v0 41 (by omega), ih17i63 v0 41, if_pos ⟨rfl, rfl⟩])).symm
                    subst sx26i63
                    refine r_Mo_o Tr19i63 kv0 ?_
                    refine c_Mod_wrong (v0 := v0) (v1 := (((vI h v0 41) + 1) + 1)) Tr19i63 kv0 wM ?_
                    intro r28i63 Tr28i63 gr28i63_0 gr28i63_1 gr28i63_2
                    unfold f_Mod_set_192
                    refine r_Mo_41 Tr28i63 kv0 ?_
                    intro x1i99 ex1i99 lx1i99 ux1i99
                    have sx1i99 : ((vI h v0 41) + 1) + 1 = x1i99 := (ex1i99.trans (by rw [gr28i63_0 v0 41 (by omega), gr19i63_1 v0 41 (by omega), ih17i63 v0 41, if_pos ⟨rfl, rfl⟩])).symm
                    subst sx1i99
                    refine w_Mo_41 Tr28i63 kv0 (wM _ (by omega) (by omega)) (zz_973c91778b o66) (zz_b4aea19308 hl o66) ?_
                    intro h2i99 Th2i99 ih2i99 ah2i99
                    unfold f_Mod_set_202
                    refine r_Mo_o Th2i99 kv0 ?_
                    refine c_Mod_put (v0 := v0) (v1 := v2) (v2 := (yr6i63)) (v3 := (yr23i63)) Th2i99 kv0 wM b0 b1 (zz_4e0f39b9c2 gr23i63_0) (zz_e60f71d0ab cc84 gr23i63_0) (zz_ef9a138b5a gr6i63_0) hN ?_
                    intro r2i100 Tr2i100 gr2i100_0 gr2i100_1
                    have o101 : vI r2i100 v0 41 = (vI h v0 41) + 1 + 1 + 1 := (by rw [gr2i100_0 v0 41, ih2i99 v0 41, if_pos ⟨rfl, rfl⟩])
                    have o102 := g_Mo_3 T kv0
                    have o103 : vI h9i63 v0 3 = vI h v0 3 := (by rw [ih9i63 v0 3, if_neg (fun z => absurd z.2 (by decide)), gr2i63_1 v0 3 (by omega)])
                    have o104 : vI h9i63 v0 41 = (vI h v0 41) + 1 := (by rw [ih9i63 v0 41, if_pos ⟨rfl, rfl⟩])
                    have o105 : vI r2i100 v0 48 = 1 := (by rw [gr2i100_0 v0 48, ih2i99 v0 48, if_neg (fun z => absurd z.2 (by decide)), gr28i63_1])
                    refine qk_mono (ih (v0) (v2) (v3) (1) r2i100 Tr2i100 kv0 wM b0 b1 (zz_d666d8b6cd o101 o102 o103 o104 gr11i63_2 cc67 o66) (zz_72bcbc58f7 o105) hN (zz_0484ef9e16 o105 hms hq1 o104 gr11i63_3 cc1 cc67 o66 hq2 hq3)) ?_
                    rintro hz ⟨Tz, g0, g1, g2, g3⟩
                    try dsimp only at *
                    have o107 : vI r2i100 v0 3 = vI h v0 3 := (by rw [gr2i100_0 v0 3, ih2i99 v0 3, if_neg (fun z => absurd z.2 (by decide)), gr28i63_0 v0 3 (by omega), gr19i63_1 v0 3 (by omega), ih17i63 v0 3, if_neg (fun z => absurd z.2 (by decide)), ih9i63 v0 3, if_neg (fun z => absurd z.2 (by decide)), gr2i63_1 v0 3 (by omega)])
                    exact ⟨Tz, (by clear ih; show ∀ a k, ¬ (a = v0 ∧ (k = 5 ∨ k = 48 ∨ k = 41)) → vI hz a k = vI h a k; intro a k n0; rw [g0 a k (by omega), gr2i100_0 a k, ih2i99, if_neg (by omega), gr28i63_0 a k (by omega), gr19i63_1 a k (by omega), ih17i63, if_neg (by omega), ih9i63, if_neg (by omega), gr2i63_1 a k (by omega)]), (by clear ih; show ∀ a j, vA hz a j = vA h a j; intro a j ; rw [g1 a j, gr2i100_1 a j, ah2i99, gr28i63_2 a j, gr19i63_2 a j, ah17i63, ah9i63, gr2i63_2 a j]), (zz_8c80a5c55b g2 o101 o66), (zz_414e53aaf7 g3 o107)⟩
            · skip
              unfold f_Mod_set_202
              refine r_Mo_o Th9i63 kv0 ?_
              have o109 : vI hr2i63 v0 3 = vI h v0 3 := (by rw [gr2i63_1 v0 3 (by omega)])
              have o110 : vI hr2i63 v0 41 = vI h v0 41 := (by rw [gr2i63_1 v0 41 (by omega)])
              have o111 : vA hr2i63 (v0 + 1) (vI hr2i63 v0 41) = vA h (v0 + 1) (vI hr2i63 v0 41) := (by rw [gr2i63_2 (v0 + 1) (vI hr2i63 v0 41)])
              have o112 := g_Mo_e1 T kv0 (vI hr2i63 v0 41)
              refine c_Mod_put (v0 := v0) (v1 := v2) (v2 := (yr6i63)) (v3 := (yr6i63)) Th9i63 kv0 wM b0 b1 (zz_4e0f39b9c2 gr6i63_0) (zz_df011663ca gr6i63_1 o109 o110 gr6i63_4 o111 o112 gr2i63_3 gr2i63_0 cc64) (zz_ef9a138b5a gr6i63_0) hN ?_
              intro r2i108 Tr2i108 gr2i108_0 gr2i108_1
              have o113 : vI r2i108 v0 41 = (vI h v0 41) + 1 := (by rw [gr2i108_0 v0 41, ih9i63 v0 41, if_pos ⟨rfl, rfl⟩])
              have o114 := g_Mo_3 T kv0
              have o115 : vI r2i108 v0 3 = vI h v0 3 := (by rw [gr2i108_0 v0 3, ih9i63 v0 3, if_neg (fun z => absurd z.2 (by decide)), gr2i63_1 v0 3 (by omega)])
              refine qk_mono (ih (v0) (v2) (v3) (1) r2i108 Tr2i108 kv0 wM b0 b1 (zz_cd03833297 o113 hl2 o114 cc1 o66) (zz_f8e6578deb o113 o115 gr2i63_3 gr2i63_0 cc64 o66) hN (zz_ea7c98ece2 o113 hms hq1 gr5_1 gr5_3 gr2i63_3 cc1 gr2i63_0 cc64 hq2 hq3 o66)) ?_
              rintro hz ⟨Tz, g0, g1, g2, g3⟩
              try dsimp only at *
              exact ⟨Tz, (by clear ih; show ∀ a k, ¬ (a = v0 ∧ (k = 5 ∨ k = 48 ∨ k = 41)) → vI hz a k = vI h a k; intro a k n0; rw [g0 a k (by omega), gr2i108_0 a k, ih9i63, if_neg (by omega), gr2i63_1 a k (by omega)]), (by clear ih; show ∀ a j, vA hz a j = vA h a j; intro a j ; rw [g1 a j, gr2i108_1 a j, ah9i63, gr2i63_2 a j]), (zz_3b17fbe48e g2 o113 o66), (zz_414e53aaf7 g3 o115)⟩
    · skip
      unfold f_Mod_set_217
      refine r_Mo_41 T kv0 ?_
      intro x1i117 ex1i117 lx1i117 ux1i117
      subst ex1i117
      have o118 := g_Mo_41 T kv0
      refine w_Mo_41 T kv0 (wM _ (by omega) (by omega)) (zz_5664edf06b o118) (zz_f1fb509712 hl o118) ?_
      intro h2i117 Th2i117 ih2i117 ah2i117
      refine qk_if (fun cc119 => ?_) (fun cc119 => ?_)
      · skip
        refine qk_some ?_
        have o120 : vI h2i117 v0 41 = (vI h v0 41) + 1 := (by rw [ih2i117 v0 41, if_pos ⟨rfl, rfl⟩])
        have o121 : vI h2i117 v0 48 = vI h v0 48 := (by rw [ih2i117 v0 48, if_neg (fun z => absurd z.2 (by decide))])
        exact ⟨Th2i117, (by clear ih; show ∀ a k, ¬ (a = v0 ∧ (k = 5 ∨ k = 48 ∨ k = 41)) → vI h2i117 a k = vI h a k; intro a k n0; rw [ih2i117, if_neg (by omega)]), (by clear ih; show ∀ a j, vA h2i117 a j = vA h a j; intro a j ; rw [ah2i117]), (zz_8cf0a68e79 o120 hl o118), (zz_efa94eccad o121 cc1)⟩
      · skip
        refine r_Mo_37 Th2i117 kv0 ?_
        refine r_Mo_37 Th2i117 kv0 ?_
        refine r_Mo_e32 Th2i117 kv0 b0 b1 ?_
        intro x6i117
        refine w_Mo_e32 Th2i117 kv0 (wM _ (by omega) (by omega)) b0 b1 ?_
        intro h7i117 Th7i117 ih7i117 ah7i117
        refine r_Mo_38 Th7i117 kv0 ?_
        refine r_Mo_38 Th7i117 kv0 ?_
        refine r_Mo_e33 Th7i117 kv0 b0 b1 ?_
        intro x10i117
        refine w_Mo_e33 Th7i117 kv0 (wM _ (by omega) (by omega)) b0 b1 ?_
        intro h11i117 Th11i117 ih11i117 ah11i117
        refine qk_some ?_
        have o122 : vI h11i117 v0 41 = (vI h v0 41) + 1 := (by rw [ih11i117 v0 41, ih7i117 v0 41, ih2i117 v0 41, if_pos ⟨rfl, rfl⟩])
        have o123 : vI h11i117 v0 48 = vI h v0 48 := (by rw [ih11i117 v0 48, ih7i117 v0 48, ih2i117 v0 48, if_neg (fun z => absurd z.2 (by decide))])
        exact ⟨Th11i117, (by clear ih; show ∀ a k, ¬ (a = v0 ∧ (k = 5 ∨ k = 48 ∨ k = 41)) → vI h11i117 a k = vI h a k; intro a k n0; rw [ih11i117, ih7i117, ih2i117, if_neg (by omega)]), (by clear ih; show ∀ a j, vA h11i117 a j = vA h a j; intro a j ; rw [ah11i117, ah7i117, ah2i117]), (zz_8cf0a68e79 o122 hl o118), (zz_efa94eccad o123 cc1)⟩
theorem p_Mod_set_78 {L : q_L} {W : Nat → Prop} {h0 : z_H} {π : Nat → Nat → Option Nat} {N : Nat} {h : z_H} {v0 : Nat} {v2 : Int32} {v3 : Int32} {v4 : Int32} (T : q_U L W h0 π h) (kv0 : q_M L π v0) (wM : ∀ a, v0 ≤ a → a < v0 + 46 → W a) (b0 : 0 ≤ v2) (b1 : v2 < 520) (hl : vI h v0 41 ≤ 241) (hl2 : vI h v0 48 = 0 → vI h v0 41 ≤ vI h v0 3) (hN : 100000 ≤ N) : qk (f_Mod_set_78 N  N v0 v2 v3 v4 h) (fun r => q_U L W h0 π r ∧ (∀ a k, ¬ (a = v0 ∧ (k = 5 ∨ k = 48 ∨ k = 41)) → vI r a k = vI h a k) ∧ (∀ a j, vA r a j = vA h a j) ∧ (vI h v0 41 ≤ vI r v0 41 ∧ vI r v0 41 ≤ 242) ∧ (vI r v0 48 = 0 → vI r v0 41 ≤ vI h v0 3)) := by
  have hq := q_qnN hN
  have rg_at := g_Mo_41 T kv0
  refine p_Mod_set_78_n (q_lo (M := 301) (by decide) (by decide)) N v0 v2 v3 v4 h T kv0 wM b0 b1 hl hl2 hN ?_ 
  show 301 - q_n N ≤ _
  rw [hq]
  split <;> lia
