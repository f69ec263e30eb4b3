theorem zz_66a8b72997 {a1 : Int32} (h0 : a1 = -1) : -1 ≤ a1 := by simp only [Int32.le_iff_toInt_le, Int32.lt_iff_toInt_lt, ← Int32.toInt_inj, ne_eq] at *; have l0 : (-1 : Int32).toInt = -1 := (by decide); omega
theorem zz_0cd813e035 {a1 : Int32} (h0 : a1 = -1) : a1 ≤ 203 := by simp only [Int32.le_iff_toInt_le, Int32.lt_iff_toInt_lt, ← Int32.toInt_inj, ne_eq] at *; have l0 : (-1 : Int32).toInt = -1 := (by decide); have l1 : (203 : Int32).toInt = 203 := (by decide); omega
theorem zz_cc4ff5f1a7 {a1 a2 a3 : Int32} (h0 : a1 = a2) (h1 : a2 ≤ a3) (h2 : (0 ≤ a3) ∧ (a3 ≤ 250)) : a1 ≤ 260 := by simp only [Int32.le_iff_toInt_le, Int32.lt_iff_toInt_lt, ← Int32.toInt_inj, ne_eq] at *; have l0 : (0 : Int32).toInt = 0 := (by decide); have l1 : (250 : Int32).toInt = 250 := (by decide); have l2 : (260 : Int32).toInt = 260 := (by decide); omega
theorem zz_72c91f6afd {a1 : Int32} (h0 : a1 ≤ 244) (h1 : (0 ≤ a1) ∧ (a1 ≤ 250)) : a1 + 1 ≤ 250 := by simp only [Int32.le_iff_toInt_le, Int32.lt_iff_toInt_lt, ← Int32.toInt_inj, ne_eq] at *; have l0 : (244 : Int32).toInt = 244 := (by decide); have l1 : (0 : Int32).toInt = 0 := (by decide); have l2 : (250 : Int32).toInt = 250 := (by decide); have l3 : (1 : Int32).toInt = 1 := (by decide); have s0 : (a1 + 1).toInt = a1.toInt + 1 := q_tA (by decide) (by omega) (by omega); omega
theorem zz_f54652bfe2 {a1 a2 a3 a4 a5 : Int32} (h0 : a1 = a2 + 1) (h1 : a2 = a3) (h2 : a4 = a5 + 1) (h3 : a3 ≤ a5) (h4 : (0 ≤ a5) ∧ (a5 ≤ 250)) (h5 : (0 ≤ a3) ∧ (a3 ≤ 299)) : a1 ≤ a4 := by simp only [Int32.le_iff_toInt_le, Int32.lt_iff_toInt_lt, ← Int32.toInt_inj, ne_eq] at *; have l0 : (1 : Int32).toInt = 1 := (by decide); have l1 : (0 : Int32).toInt = 0 := (by decide); have l2 : (250 : Int32).toInt = 250 := (by decide); have l3 : (299 : Int32).toInt = 299 := (by decide); have s0 : (a2 + 1).toInt = a2.toInt + 1 := q_tA (by decide) (by omega) (by omega); have s1 : (a5 + 1).toInt = a5.toInt + 1 := q_tA (by decide) (by omega) (by omega); omega
theorem zz_8c6aae1ddf {a1 a2 a3 a4 : Int32} (h0 : a1 = a2 + 1) (h1 : (a3 = 0) → (a2 ≤ a4)) (h2 : (0 ≤ a4) ∧ (a4 ≤ 240)) (h3 : a3 = 0) (h4 : (0 ≤ a2) ∧ (a2 ≤ 250)) : a1 ≤ 244 := by simp only [Int32.le_iff_toInt_le, Int32.lt_iff_toInt_lt, ← Int32.toInt_inj, ne_eq] at *; have l0 : (1 : Int32).toInt = 1 := (by decide); have l1 : (0 : Int32).toInt = 0 := (by decide); have l2 : (240 : Int32).toInt = 240 := (by decide); have l3 : (250 : Int32).toInt = 250 := (by decide); have l4 : (244 : Int32).toInt = 244 := (by decide); have s0 : (a2 + 1).toInt = a2.toInt + 1 := q_tA (by decide) (by omega) (by omega); omega
theorem zz_cea4584d83 {a1 : Int32} (h0 : 0 ≤ a1) (h1 : a1 ≤ 301) : 0 ≤ a1 + 1 := by simp only [Int32.le_iff_toInt_le, Int32.lt_iff_toInt_lt, ← Int32.toInt_inj, ne_eq] at *; have l0 : (0 : Int32).toInt = 0 := (by decide); have l1 : (301 : Int32).toInt = 301 := (by decide); have l2 : (1 : Int32).toInt = 1 := (by decide); have s0 : (a1 + 1).toInt = a1.toInt + 1 := q_tA (by decide) (by omega) (by omega); omega
theorem zz_30c5e08d9e {a1 a2 a3 : Int32} (h0 : a1 = 1) (h1 : 0 ≤ a2) (h2 : a3 ≤ 300) (h3 : a2 < a3) : (a1 = 0) → (a2 + 1 ≤ a3) := by simp only [Int32.le_iff_toInt_le, Int32.lt_iff_toInt_lt, ← Int32.toInt_inj, ne_eq] at *; have l0 : (1 : Int32).toInt = 1 := (by decide); have l1 : (0 : Int32).toInt = 0 := (by decide); have l2 : (300 : Int32).toInt = 300 := (by decide); have s0 : (a2 + 1).toInt = a2.toInt + 1 := q_tA (by decide) (by omega) (by omega); omega
theorem zz_4a95925f97 {a1 a2 : Int32} (h0 : a1 < a2) (h1 : a2 ≤ 300) (h2 : 0 ≤ a1) : a1 + 1 ≤ 301 := by simp only [Int32.le_iff_toInt_le, Int32.lt_iff_toInt_lt, ← Int32.toInt_inj, ne_eq] at *; have l0 : (300 : Int32).toInt = 300 := (by decide); have l1 : (0 : Int32).toInt = 0 := (by decide); have l2 : (1 : Int32).toInt = 1 := (by decide); have l3 : (301 : Int32).toInt = 301 := (by decide); have s0 : (a1 + 1).toInt = a1.toInt + 1 := q_tA (by decide) (by omega) (by omega); omega
theorem zz_ef5a34e4fb {a1 a2 a3 a4 a5 a6 a7 : Int32} (h0 : a1 = a2 + 1) (h1 : a2 = a3) (h2 : a4 = a5) (h3 : (300 * a6) + a3 = a5 + a7) (h4 : (0 ≤ a6) ∧ (a6 ≤ 1)) (h5 : (0 ≤ a3) ∧ (a3 ≤ 299)) (h6 : (0 ≤ a5) ∧ (a5 ≤ 600)) (h7 : 0 ≤ a7) (h8 : a7 ≤ 301) : (300 * a6) + a1 = a4 + (a7 + 1) := by simp only [Int32.le_iff_toInt_le, Int32.lt_iff_toInt_lt, ← Int32.toInt_inj, ne_eq] at *; have l0 : (1 : Int32).toInt = 1 := (by decide); have l1 : (300 : Int32).toInt = 300 := (by decide); have l2 : (0 : Int32).toInt = 0 := (by decide); have l3 : (299 : Int32).toInt = 299 := (by decide); have l4 : (600 : Int32).toInt = 600 := (by decide); have l5 : (301 : Int32).toInt = 301 := (by decide); have s0 : (a2 + 1).toInt = a2.toInt + 1 := q_tA (by decide) (by omega) (by omega); have s1 : (300 * a6).toInt = 300 * a6.toInt := q_tM (by decide) (by omega) (by omega); have s2 : ((300 * a6) + a3).toInt = (300 * a6).toInt + a3.toInt := q_tA rfl (by omega) (by omega); have s3 : (a5 + a7).toInt = a5.toInt + a7.toInt := q_tA rfl (by omega) (by omega); have s4 : ((300 * a6) + a1).toInt = (300 * a6).toInt + a1.toInt := q_tA rfl (by omega) (by omega); have s5 : (a7 + 1).toInt = a7.toInt + 1 := q_tA (by decide) (by omega) (by omega); have s6 : (a4 + (a7 + 1)).toInt = a4.toInt + (a7 + 1).toInt := q_tA rfl (by omega) (by omega); omega
theorem zz_1bb889580e {a1 a2 a3 a4 a5 a6 : Int32} (h0 : a1 = 1) (h1 : a2 ≤ 244) (h2 : a3 ≤ (if a4 = 0 then a2 else 300)) (h3 : a5 ≤ a3 + 1) (h4 : a4 = 0) (h5 : -100000 ≤ a3) (h6 : a3 ≤ 100000) : a5 ≤ (if a1 = 0 then a6 else 300) := by split at h2 <;> split <;> (simp only [Int32.le_iff_toInt_le, Int32.lt_iff_toInt_lt, ← Int32.toInt_inj, ne_eq] at *; have l0 : (1 : Int32).toInt = 1 := (by decide); have l1 : (244 : Int32).toInt = 244 := (by decide); have l2 : (0 : Int32).toInt = 0 := (by decide); have l3 : (300 : Int32).toInt = 300 := (by decide); have l4 : (-100000 : Int32).toInt = -100000 := (by decide); have l5 : (100000 : Int32).toInt = 100000 := (by decide); have s0 : (a3 + 1).toInt = a3.toInt + 1 := q_tA (by decide) (by omega) (by omega); omega)
theorem zz_9dc3e8833e {a1 a2 a3 a4 a5 : Int32} (h0 : a1 = a2 + 1) (h1 : a2 = a3) (h2 : (a4 < (300 * a5) + a3) ∨ ((300 * a5) + 300 ≤ a4)) (h3 : (0 ≤ a5) ∧ (a5 ≤ 1)) (h4 : (0 ≤ a3) ∧ (a3 ≤ 299)) : (a4 < (300 * a5) + a1) ∨ ((300 * a5) + 300 ≤ a4) := by simp only [Int32.le_iff_toInt_le, Int32.lt_iff_toInt_lt, ← Int32.toInt_inj, ne_eq] at *; have l0 : (1 : Int32).toInt = 1 := (by decide); have l1 : (300 : Int32).toInt = 300 := (by decide); have l2 : (0 : Int32).toInt = 0 := (by decide); have l3 : (299 : Int32).toInt = 299 := (by decide); have s0 : (a2 + 1).toInt = a2.toInt + 1 := q_tA (by decide) (by omega) (by omega); have s1 : (300 * a5).toInt = 300 * a5.toInt := q_tM (by decide) (by omega) (by omega); have s2 : ((300 * a5) + a3).toInt = (300 * a5).toInt + a3.toInt := q_tA rfl (by omega) (by omega); have s3 : ((300 * a5) + 300).toInt = (300 * a5).toInt + 300 := q_tA (by decide) (by omega) (by omega); have s4 : ((300 * a5) + a1).toInt = (300 * a5).toInt + a1.toInt := q_tA rfl (by omega) (by omega); omega
theorem zz_cee1d7865c {a1 a2 a3 a4 a5 a6 a7 : Int32} (h0 : a1 = a2) (h1 : (a3 ≤ a4) ∧ (a4 ≤ a5)) (h2 : a3 = a1 + 1) (h3 : (0 ≤ a5) ∧ (a5 ≤ 250)) (h4 : (a6 < (300 * a7) + a2) ∨ ((300 * a7) + 300 ≤ a6)) (h5 : (0 ≤ a7) ∧ (a7 ≤ 1)) (h6 : (0 ≤ a2) ∧ (a2 ≤ 299)) : ¬ (a6 = (300 * a7) + a1) := by simp only [Int32.le_iff_toInt_le, Int32.lt_iff_toInt_lt, ← Int32.toInt_inj, ne_eq] at *; have l0 : (1 : Int32).toInt = 1 := (by decide); have l1 : (0 : Int32).toInt = 0 := (by decide); have l2 : (250 : Int32).toInt = 250 := (by decide); have l3 : (300 : Int32).toInt = 300 := (by decide); have l4 : (299 : Int32).toInt = 299 := (by decide); have s0 : (a1 + 1).toInt = a1.toInt + 1 := q_tA (by decide) (by omega) (by omega); have s1 : (300 * a7).toInt = 300 * a7.toInt := q_tM (by decide) (by omega) (by omega); have s2 : ((300 * a7) + a2).toInt = (300 * a7).toInt + a2.toInt := q_tA rfl (by omega) (by omega); have s3 : ((300 * a7) + 300).toInt = (300 * a7).toInt + 300 := q_tA (by decide) (by omega) (by omega); have s4 : ((300 * a7) + a1).toInt = (300 * a7).toInt + a1.toInt := q_tA rfl (by omega) (by omega); omega
theorem zz_159c870883 {a1 a2 a3 a4 a5 : Int32} (h0 : (a1 ≤ a2) ∧ (a2 ≤ a3)) (h1 : a1 = a4 + 1) (h2 : a4 = a5) (h3 : (0 ≤ a5) ∧ (a5 ≤ 299)) : (a5 ≤ a2) ∧ (a2 ≤ a3) := by simp only [Int32.le_iff_toInt_le, Int32.lt_iff_toInt_lt, ← Int32.toInt_inj, ne_eq] at *; have l0 : (1 : Int32).toInt = 1 := (by decide); have l1 : (0 : Int32).toInt = 0 := (by decide); have l2 : (299 : Int32).toInt = 299 := (by decide); have s0 : (a4 + 1).toInt = a4.toInt + 1 := q_tA (by decide) (by omega) (by omega); omega
theorem zz_21402187de {a1 a2 a3 a4 a5 : Int32} (h0 : (a1 = 0) → (a2 = a3 + a4)) (h1 : a3 = a5) (h2 : 0 ≤ a4) (h3 : a4 ≤ 300) (h4 : (0 ≤ a5) ∧ (a5 ≤ 600)) : (a1 = 0) → (a2 = a5 + a4) := by simp only [Int32.le_iff_toInt_le, Int32.lt_iff_toInt_lt, ← Int32.toInt_inj, ne_eq] at *; have l0 : (0 : Int32).toInt = 0 := (by decide); have l1 : (300 : Int32).toInt = 300 := (by decide); have l2 : (600 : Int32).toInt = 600 := (by decide); have s0 : (a3 + a4).toInt = a3.toInt + a4.toInt := q_tA rfl (by omega) (by omega); have s1 : (a5 + a4).toInt = a5.toInt + a4.toInt := q_tA rfl (by omega) (by omega); omega
theorem zz_a910293429 {a1 : Int32} (h0 : a1 = 10) : -1 ≤ a1 := by simp only [Int32.le_iff_toInt_le, Int32.lt_iff_toInt_lt, ← Int32.toInt_inj, ne_eq] at *; have l0 : (10 : Int32).toInt = 10 := (by decide); have l1 : (-1 : Int32).toInt = -1 := (by decide); omega
theorem zz_462f0fbb08 {a1 : Int32} (h0 : a1 = 10) : a1 ≤ 203 := by simp only [Int32.le_iff_toInt_le, Int32.lt_iff_toInt_lt, ← Int32.toInt_inj, ne_eq] at *; have l0 : (10 : Int32).toInt = 10 := (by decide); have l1 : (203 : Int32).toInt = 203 := (by decide); omega
theorem zz_c740e3330a {a1 a2 a3 a4 : Int32} (h0 : a1 = a2 + 1) (h1 : (0 ≤ a3) ∧ (a3 ≤ 240)) (h2 : (a4 ≠ -1) → (a2 < a3)) (h3 : a4 = 10) (h4 : (0 ≤ a2) ∧ (a2 ≤ 250)) : a1 ≤ 244 := by simp only [Int32.le_iff_toInt_le, Int32.lt_iff_toInt_lt, ← Int32.toInt_inj, ne_eq] at *; have l0 : (1 : Int32).toInt = 1 := (by decide); have l1 : (0 : Int32).toInt = 0 := (by decide); have l2 : (240 : Int32).toInt = 240 := (by decide); have l3 : (-1 : Int32).toInt = -1 := (by decide); have l4 : (10 : Int32).toInt = 10 := (by decide); have l5 : (250 : Int32).toInt = 250 := (by decide); have l6 : (244 : Int32).toInt = 244 := (by decide); have s0 : (a2 + 1).toInt = a2.toInt + 1 := q_tA (by decide) (by omega) (by omega); omega
theorem zz_73e40b9380 {a1 a2 a3 a4 a5 a6 a7 : Int32} (h0 : a1 = 1) (h1 : a2 ≤ (if a3 = 0 then a4 else 300)) (h2 : a5 ≤ a2 + 1) (h3 : (a6 ≠ -1) → (a4 < 240)) (h4 : a3 = 0) (h5 : a6 = 10) (h6 : -100000 ≤ a2) (h7 : a2 ≤ 100000) : a5 ≤ (if a1 = 0 then a7 else 300) := by split at h1 <;> split <;> (simp only [Int32.le_iff_toInt_le, Int32.lt_iff_toInt_lt, ← Int32.toInt_inj, ne_eq] at *; have l0 : (1 : Int32).toInt = 1 := (by decide); have l1 : (0 : Int32).toInt = 0 := (by decide); have l2 : (300 : Int32).toInt = 300 := (by decide); have l3 : (-1 : Int32).toInt = -1 := (by decide); have l4 : (240 : Int32).toInt = 240 := (by decide); have l5 : (10 : Int32).toInt = 10 := (by decide); have l6 : (-100000 : Int32).toInt = -100000 := (by decide); have l7 : (100000 : Int32).toInt = 100000 := (by decide); have s0 : (a2 + 1).toInt = a2.toInt + 1 := q_tA (by decide) (by omega) (by omega); omega)
theorem zz_f10b8af160 {a1 a2 a3 a4 : Int32} (h0 : a1 = a2 + 1) (h1 : (0 ≤ a3) ∧ (a3 ≤ 240)) (h2 : (a4 ≠ -1) → (a2 < a3)) (h3 : a4 = 92) (h4 : (0 ≤ a2) ∧ (a2 ≤ 250)) : a1 ≤ 244 := by simp only [Int32.le_iff_toInt_le, Int32.lt_iff_toInt_lt, ← Int32.toInt_inj, ne_eq] at *; have l0 : (1 : Int32).toInt = 1 := (by decide); have l1 : (0 : Int32).toInt = 0 := (by decide); have l2 : (240 : Int32).toInt = 240 := (by decide); have l3 : (-1 : Int32).toInt = -1 := (by decide); have l4 : (92 : Int32).toInt = 92 := (by decide); have l5 : (250 : Int32).toInt = 250 := (by decide); have l6 : (244 : Int32).toInt = 244 := (by decide); have s0 : (a2 + 1).toInt = a2.toInt + 1 := q_tA (by decide) (by omega) (by omega); omega
theorem zz_89290bbe16 {a1 a2 a3 a4 : Int32} (h0 : a1 = a2 + 1) (h1 : (0 ≤ a3) ∧ (a3 ≤ 240)) (h2 : (a4 ≠ -1) → (a2 < a3)) (h3 : a4 = 47) (h4 : (0 ≤ a2) ∧ (a2 ≤ 250)) : a1 ≤ 244 := by simp only [Int32.le_iff_toInt_le, Int32.lt_iff_toInt_lt, ← Int32.toInt_inj, ne_eq] at *; have l0 : (1 : Int32).toInt = 1 := (by decide); have l1 : (0 : Int32).toInt = 0 := (by decide); have l2 : (240 : Int32).toInt = 240 := (by decide); have l3 : (-1 : Int32).toInt = -1 := (by decide); have l4 : (47 : Int32).toInt = 47 := (by decide); have l5 : (250 : Int32).toInt = 250 := (by decide); have l6 : (244 : Int32).toInt = 244 := (by decide); have s0 : (a2 + 1).toInt = a2.toInt + 1 := q_tA (by decide) (by omega) (by omega); omega
theorem zz_cb5c06eb34 {a1 a2 a3 a4 a5 a6 a7 : Int32} (h0 : a1 = 1) (h1 : a2 ≤ (if a3 = 0 then a4 else 300)) (h2 : a5 ≤ a2 + 1) (h3 : (a6 ≠ -1) → (a4 < 240)) (h4 : a3 = 0) (h5 : a6 = 47) (h6 : -100000 ≤ a2) (h7 : a2 ≤ 100000) : a5 ≤ (if a1 = 0 then a7 else 300) := by split at h1 <;> split <;> (simp only [Int32.le_iff_toInt_le, Int32.lt_iff_toInt_lt, ← Int32.toInt_inj, ne_eq] at *; have l0 : (1 : Int32).toInt = 1 := (by decide); have l1 : (0 : Int32).toInt = 0 := (by decide); have l2 : (300 : Int32).toInt = 300 := (by decide); have l3 : (-1 : Int32).toInt = -1 := (by decide); have l4 : (240 : Int32).toInt = 240 := (by decide); have l5 : (47 : Int32).toInt = 47 := (by decide); have l6 : (-100000 : Int32).toInt = -100000 := (by decide); have l7 : (100000 : Int32).toInt = 100000 := (by decide); have s0 : (a2 + 1).toInt = a2.toInt + 1 := q_tA (by decide) (by omega) (by omega); omega)
theorem zz_646853efa5 {a1 a2 a3 : Int32} (h0 : a1 = a2 + 1) (h1 : (a3 ≠ -1) → (a2 < 240)) (h2 : ¬ (a3 = -1)) (h3 : (0 ≤ a2) ∧ (a2 ≤ 250)) : a1 ≤ 244 := by simp only [Int32.le_iff_toInt_le, Int32.lt_iff_toInt_lt, ← Int32.toInt_inj, ne_eq] at *; have l0 : (1 : Int32).toInt = 1 := (by decide); have l1 : (-1 : Int32).toInt = -1 := (by decide); have l2 : (240 : Int32).toInt = 240 := (by decide); have l3 : (0 : Int32).toInt = 0 := (by decide); have l4 : (250 : Int32).toInt = 250 := (by decide); have l5 : (244 : Int32).toInt = 244 := (by decide); have s0 : (a2 + 1).toInt = a2.toInt + 1 := q_tA (by decide) (by omega) (by omega); omega
theorem zz_eb2b82910c {a1 a2 : Int32} (h0 : a1 < a2) (h1 : a1 = a2) : 0 ≤ a1 + 1 := by simp only [Int32.le_iff_toInt_le, Int32.lt_iff_toInt_lt, ← Int32.toInt_inj, ne_eq] at *; have l0 : (0 : Int32).toInt = 0 := (by decide); have l1 : (1 : Int32).toInt = 1 := (by decide); have s0 : (a1 + 1).toInt = a1.toInt + 1 := q_tA (by decide) (by omega) (by omega); omega
theorem zz_7a962750f5 {a1 a2 a3 : Int32} (h0 : a1 = 1) (h1 : a2 < a3) (h2 : a2 = a3) : (a1 = 0) → (a2 + 1 ≤ a3) := by simp only [Int32.le_iff_toInt_le, Int32.lt_iff_toInt_lt, ← Int32.toInt_inj, ne_eq] at *; have l0 : (1 : Int32).toInt = 1 := (by decide); have l1 : (0 : Int32).toInt = 0 := (by decide); have s0 : (a2 + 1).toInt = a2.toInt + 1 := q_tA (by decide) (by omega) (by omega); omega
theorem zz_5b49881034 {a1 a2 : Int32} (h0 : a1 < a2) (h1 : a1 = a2) : a1 + 1 ≤ 301 := by simp only [Int32.le_iff_toInt_le, Int32.lt_iff_toInt_lt, ← Int32.toInt_inj, ne_eq] at *; have l0 : (1 : Int32).toInt = 1 := (by decide); have l1 : (301 : Int32).toInt = 301 := (by decide); have s0 : (a1 + 1).toInt = a1.toInt + 1 := q_tA (by decide) (by omega) (by omega); omega
theorem zz_523b0fe170 {a1 a2 a3 a4 a5 a6 a7 a8 : Int32} (h0 : a1 < a2) (h1 : a1 = a2) (h2 : (0 ≤ a3) ∧ (a3 ≤ 1)) (h3 : a4 = a5 + 1) (h4 : a6 = a7) (h5 : (0 ≤ a7) ∧ (a7 ≤ 600)) (h6 : a5 = a8) (h7 : (0 ≤ a8) ∧ (a8 ≤ 299)) : (300 * a3) + a4 = a6 + (a1 + 1) := by simp only [Int32.le_iff_toInt_le, Int32.lt_iff_toInt_lt, ← Int32.toInt_inj, ne_eq] at *; have l0 : (0 : Int32).toInt = 0 := (by decide); have l1 : (1 : Int32).toInt = 1 := (by decide); have l2 : (600 : Int32).toInt = 600 := (by decide); have l3 : (299 : Int32).toInt = 299 := (by decide); have l4 : (300 : Int32).toInt = 300 := (by decide); have s0 : (a5 + 1).toInt = a5.toInt + 1 := q_tA (by decide) (by omega) (by omega); have s1 : (300 * a3).toInt = 300 * a3.toInt := q_tM (by decide) (by omega) (by omega); have s2 : ((300 * a3) + a4).toInt = (300 * a3).toInt + a4.toInt := q_tA rfl (by omega) (by omega); have s3 : (a1 + 1).toInt = a1.toInt + 1 := q_tA (by decide) (by omega) (by omega); have s4 : (a6 + (a1 + 1)).toInt = a6.toInt + (a1 + 1).toInt := q_tA rfl (by omega) (by omega); omega
theorem zz_ed025be86d {a1 a2 a3 a4 a5 a6 a7 : Int32} (h0 : a1 = 1) (h1 : a2 ≤ (if a3 = 0 then a4 else 300)) (h2 : a5 ≤ a2 + 1) (h3 : (a6 ≠ -1) → (a4 < 240)) (h4 : a3 = 0) (h5 : ¬ (a6 = -1)) (h6 : -100000 ≤ a2) (h7 : a2 ≤ 100000) : a5 ≤ (if a1 = 0 then a7 else 300) := by split at h1 <;> split <;> (simp only [Int32.le_iff_toInt_le, Int32.lt_iff_toInt_lt, ← Int32.toInt_inj, ne_eq] at *; have l0 : (1 : Int32).toInt = 1 := (by decide); have l1 : (0 : Int32).toInt = 0 := (by decide); have l2 : (300 : Int32).toInt = 300 := (by decide); have l3 : (-1 : Int32).toInt = -1 := (by decide); have l4 : (240 : Int32).toInt = 240 := (by decide); have l5 : (-100000 : Int32).toInt = -100000 := (by decide); have l6 : (100000 : Int32).toInt = 100000 := (by decide); have s0 : (a2 + 1).toInt = a2.toInt + 1 := q_tA (by decide) (by omega) (by omega); omega)
theorem zz_cd32671eea {a1 a2 a3 a4 a5 : Int32} (h0 : a1 < a2) (h1 : a1 = a2) (h2 : (0 ≤ a3) ∧ (a3 ≤ 600)) : (a4 = 0) → (a5 = a3 + a2) := by simp only [Int32.le_iff_toInt_le, Int32.lt_iff_toInt_lt, ← Int32.toInt_inj, ne_eq] at *; have l0 : (0 : Int32).toInt = 0 := (by decide); have l1 : (600 : Int32).toInt = 600 := (by decide); have s0 : (a3 + a2).toInt = a3.toInt + a2.toInt := q_tA rfl (by omega) (by omega); omega
theorem zz_4272a238fa {a1 a2 a3 : Int32} (h0 : a1 < a2) (h1 : 0 ≤ a1) (h2 : a2 ≤ 300) : (a3 = 0) → (a1 + 1 ≤ a2) := by simp only [Int32.le_iff_toInt_le, Int32.lt_iff_toInt_lt, ← Int32.toInt_inj, ne_eq] at *; have l0 : (0 : Int32).toInt = 0 := (by decide); have l1 : (300 : Int32).toInt = 300 := (by decide); have l2 : (1 : Int32).toInt = 1 := (by decide); have s0 : (a1 + 1).toInt = a1.toInt + 1 := q_tA (by decide) (by omega) (by omega); omega
theorem zz_76c9121b04 {a1 a2 a3 a4 a5 a6 : Int32} (h0 : a1 = a2 + 1) (h1 : a3 = a4) (h2 : (300 * a5) + a2 = a4 + a6) (h3 : (0 ≤ a5) ∧ (a5 ≤ 1)) (h4 : (0 ≤ a2) ∧ (a2 ≤ 299)) (h5 : (0 ≤ a4) ∧ (a4 ≤ 600)) (h6 : 0 ≤ a6) (h7 : a6 ≤ 301) : (300 * a5) + a1 = a3 + (a6 + 1) := by simp only [Int32.le_iff_toInt_le, Int32.lt_iff_toInt_lt, ← Int32.toInt_inj, ne_eq] at *; have l0 : (1 : Int32).toInt = 1 := (by decide); have l1 : (300 : Int32).toInt = 300 := (by decide); have l2 : (0 : Int32).toInt = 0 := (by decide); have l3 : (299 : Int32).toInt = 299 := (by decide); have l4 : (600 : Int32).toInt = 600 := (by decide); have l5 : (301 : Int32).toInt = 301 := (by decide); have s0 : (a2 + 1).toInt = a2.toInt + 1 := q_tA (by decide) (by omega) (by omega); have s1 : (300 * a5).toInt = 300 * a5.toInt := q_tM (by decide) (by omega) (by omega); have s2 : ((300 * a5) + a2).toInt = (300 * a5).toInt + a2.toInt := q_tA rfl (by omega) (by omega); have s3 : (a4 + a6).toInt = a4.toInt + a6.toInt := q_tA rfl (by omega) (by omega); have s4 : ((300 * a5) + a1).toInt = (300 * a5).toInt + a1.toInt := q_tA rfl (by omega) (by omega); have s5 : (a6 + 1).toInt = a6.toInt + 1 := q_tA (by decide) (by omega) (by omega); have s6 : (a3 + (a6 + 1)).toInt = a3.toInt + (a6 + 1).toInt := q_tA rfl (by omega) (by omega); omega
theorem zz_b707699252 {a1 a2 a3 a4 a5 a6 : Int32} (h0 : a1 = a2 + 1) (h1 : a2 ≤ 244) (h2 : a3 ≤ (if a4 = 0 then a2 else 300)) (h3 : a5 ≤ a3 + 1) (h4 : a4 = 0) (h5 : -100000 ≤ a3) (h6 : a3 ≤ 100000) (h7 : (0 ≤ a2) ∧ (a2 ≤ 250)) : a5 ≤ (if a6 = 0 then a1 else 300) := by split at h2 <;> split <;> (simp only [Int32.le_iff_toInt_le, Int32.lt_iff_toInt_lt, ← Int32.toInt_inj, ne_eq] at *; have l0 : (1 : Int32).toInt = 1 := (by decide); have l1 : (244 : Int32).toInt = 244 := (by decide); have l2 : (0 : Int32).toInt = 0 := (by decide); have l3 : (300 : Int32).toInt = 300 := (by decide); have l4 : (-100000 : Int32).toInt = -100000 := (by decide); have l5 : (100000 : Int32).toInt = 100000 := (by decide); have l6 : (250 : Int32).toInt = 250 := (by decide); have s0 : (a2 + 1).toInt = a2.toInt + 1 := q_tA (by decide) (by omega) (by omega); have s1 : (a3 + 1).toInt = a3.toInt + 1 := q_tA (by decide) (by omega) (by omega); omega)
theorem zz_dd9c00b3fd {a1 a2 a3 a4 a5 a6 : Int32} (h0 : (a1 ≤ a2) ∧ (a2 ≤ a3)) (h1 : a1 = a4 + 1) (h2 : (0 ≤ a3) ∧ (a3 ≤ 250)) (h3 : (a5 < (300 * a6) + a4) ∨ ((300 * a6) + 300 ≤ a5)) (h4 : (0 ≤ a6) ∧ (a6 ≤ 1)) (h5 : (0 ≤ a4) ∧ (a4 ≤ 299)) : ¬ (a5 = (300 * a6) + a4) := by simp only [Int32.le_iff_toInt_le, Int32.lt_iff_toInt_lt, ← Int32.toInt_inj, ne_eq] at *; have l0 : (1 : Int32).toInt = 1 := (by decide); have l1 : (0 : Int32).toInt = 0 := (by decide); have l2 : (250 : Int32).toInt = 250 := (by decide); have l3 : (300 : Int32).toInt = 300 := (by decide); have l4 : (299 : Int32).toInt = 299 := (by decide); have s0 : (a4 + 1).toInt = a4.toInt + 1 := q_tA (by decide) (by omega) (by omega); have s1 : (300 * a6).toInt = 300 * a6.toInt := q_tM (by decide) (by omega) (by omega); have s2 : ((300 * a6) + a4).toInt = (300 * a6).toInt + a4.toInt := q_tA rfl (by omega) (by omega); have s3 : ((300 * a6) + 300).toInt = (300 * a6).toInt + 300 := q_tA (by decide) (by omega) (by omega); omega
theorem zz_f3d52f0c13 {a1 a2 : Int32} (h0 : a1 = a2 + 1) (h1 : a2 ≤ 244) (h2 : (0 ≤ a2) ∧ (a2 ≤ 250)) : (a2 ≤ a1) ∧ (a1 ≤ 246) := by simp only [Int32.le_iff_toInt_le, Int32.lt_iff_toInt_lt, ← Int32.toInt_inj, ne_eq] at *; have l0 : (1 : Int32).toInt = 1 := (by decide); have l1 : (244 : Int32).toInt = 244 := (by decide); have l2 : (0 : Int32).toInt = 0 := (by decide); have l3 : (250 : Int32).toInt = 250 := (by decide); have l4 : (246 : Int32).toInt = 246 := (by decide); have s0 : (a2 + 1).toInt = a2.toInt + 1 := q_tA (by decide) (by omega) (by omega); omega
theorem zz_c07958d10a {a1 a2 a3 a4 a5 a6 a7 a8 a9 a10 : Int32} (h0 : a1 = a2) (h1 : (a3 = 0) → (a4 ≤ a5)) (h2 : (300 * a6) + a7 = a8 + a4) (h3 : a3 = 0) (h4 : ¬ (a4 < a5)) (h5 : a2 = (300 * a6) + a9) (h6 : a9 = a7) (h7 : (0 ≤ a6) ∧ (a6 ≤ 1)) (h8 : (0 ≤ a7) ∧ (a7 ≤ 299)) (h9 : (0 ≤ a8) ∧ (a8 ≤ 600)) (h10 : 0 ≤ a5) (h11 : a5 ≤ 300) : (a10 = 0) → (a1 = a8 + a5) := by simp only [Int32.le_iff_toInt_le, Int32.lt_iff_toInt_lt, ← Int32.toInt_inj, ne_eq] at *; have l0 : (0 : Int32).toInt = 0 := (by decide); have l1 : (300 : Int32).toInt = 300 := (by decide); have l2 : (1 : Int32).toInt = 1 := (by decide); have l3 : (299 : Int32).toInt = 299 := (by decide); have l4 : (600 : Int32).toInt = 600 := (by decide); have s0 : (300 * a6).toInt = 300 * a6.toInt := q_tM (by decide) (by omega) (by omega); have s1 : ((300 * a6) + a7).toInt = (300 * a6).toInt + a7.toInt := q_tA rfl (by omega) (by omega); have s2 : (a8 + a4).toInt = a8.toInt + a4.toInt := q_tA rfl (by omega) (by omega); have s3 : ((300 * a6) + a9).toInt = (300 * a6).toInt + a9.toInt := q_tA rfl (by omega) (by omega); have s4 : (a8 + a5).toInt = a8.toInt + a5.toInt := q_tA rfl (by omega) (by omega); omega
theorem zz_c60b4c2b78 {a1 a2 a3 : Int32} (h0 : a1 = 1) (h1 : 0 ≤ a2) (h2 : a2 ≤ 301) : (a1 = 0) → (a2 + 1 ≤ a3) := by simp only [Int32.le_iff_toInt_le, Int32.lt_iff_toInt_lt, ← Int32.toInt_inj, ne_eq] at *; have l0 : (1 : Int32).toInt = 1 := (by decide); have l1 : (0 : Int32).toInt = 0 := (by decide); have l2 : (301 : Int32).toInt = 301 := (by decide); have s0 : (a2 + 1).toInt = a2.toInt + 1 := q_tA (by decide) (by omega) (by omega); omega
theorem zz_18643b1e90 {a1 a2 a3 : Int32} (h0 : (a1 = 0) → (a2 ≤ a3)) (h1 : a3 ≤ 300) (h2 : a1 = 0) (h3 : 0 ≤ a2) (h4 : a2 ≤ 301) : a2 + 1 ≤ 301 := by simp only [Int32.le_iff_toInt_le, Int32.lt_iff_toInt_lt, ← Int32.toInt_inj, ne_eq] at *; have l0 : (0 : Int32).toInt = 0 := (by decide); have l1 : (300 : Int32).toInt = 300 := (by decide); have l2 : (301 : Int32).toInt = 301 := (by decide); have l3 : (1 : Int32).toInt = 1 := (by decide); have s0 : (a2 + 1).toInt = a2.toInt + 1 := q_tA (by decide) (by omega) (by omega); omega
theorem zz_25ed52cd76 {a1 a2 a3 a4 a5 a6 a7 a8 : Int32} (h0 : (a1 = -1) → (a2 ≤ a3)) (h1 : (a4 ≠ -1) → (a3 < a2)) (h2 : (a1 ≠ -1) → (a1 = a5)) (h3 : ¬ (a1 = 47)) (h4 : (a4 ≠ -1) → (a4 = a5)) (h5 : a4 = 47) : a6 ≤ (if a7 = 0 then a8 else 300) := by split <;> (simp only [Int32.le_iff_toInt_le, Int32.lt_iff_toInt_lt, ← Int32.toInt_inj, ne_eq] at *; have l0 : (-1 : Int32).toInt = -1 := (by decide); have l1 : (47 : Int32).toInt = 47 := (by decide); have l2 : (0 : Int32).toInt = 0 := (by decide); have l3 : (300 : Int32).toInt = 300 := (by decide); omega)
theorem zz_dca3156ea5 {a1 a2 : Int32} (h0 : 0 ≤ a1) (h1 : a1 = a2) (h2 : a1 ≤ 301) : 0 ≤ a1 + 1 := by simp only [Int32.le_iff_toInt_le, Int32.lt_iff_toInt_lt, ← Int32.toInt_inj, ne_eq] at *; have l0 : (0 : Int32).toInt = 0 := (by decide); have l1 : (301 : Int32).toInt = 301 := (by decide); have l2 : (1 : Int32).toInt = 1 := (by decide); have s0 : (a1 + 1).toInt = a1.toInt + 1 := q_tA (by decide) (by omega) (by omega); omega
theorem zz_63f0a3af1b {a1 a2 a3 : Int32} (h0 : a1 = 1) (h1 : 0 ≤ a2) (h2 : a3 = a2) (h3 : a2 ≤ 300) : (a1 = 0) → (a3 + 1 ≤ a2) := by simp only [Int32.le_iff_toInt_le, Int32.lt_iff_toInt_lt, ← Int32.toInt_inj, ne_eq] at *; have l0 : (1 : Int32).toInt = 1 := (by decide); have l1 : (0 : Int32).toInt = 0 := (by decide); have l2 : (300 : Int32).toInt = 300 := (by decide); have s0 : (a3 + 1).toInt = a3.toInt + 1 := q_tA (by decide) (by omega) (by omega); omega
theorem zz_dfdcbd8a5a {a1 a2 : Int32} (h0 : a1 = a2) (h1 : a2 ≤ 300) (h2 : 0 ≤ a1) : a1 + 1 ≤ 301 := by simp only [Int32.le_iff_toInt_le, Int32.lt_iff_toInt_lt, ← Int32.toInt_inj, ne_eq] at *; have l0 : (300 : Int32).toInt = 300 := (by decide); have l1 : (0 : Int32).toInt = 0 := (by decide); have l2 : (1 : Int32).toInt = 1 := (by decide); have l3 : (301 : Int32).toInt = 301 := (by decide); have s0 : (a1 + 1).toInt = a1.toInt + 1 := q_tA (by decide) (by omega) (by omega); omega
theorem zz_9628d28879 {a1 a2 a3 a4 a5 a6 a7 a8 : Int32} (h0 : a1 = a2 + 1) (h1 : a2 = a3) (h2 : a4 = a5) (h3 : (300 * a6) + a3 = a5 + a7) (h4 : (0 ≤ a6) ∧ (a6 ≤ 1)) (h5 : (0 ≤ a3) ∧ (a3 ≤ 299)) (h6 : (0 ≤ a5) ∧ (a5 ≤ 600)) (h7 : 0 ≤ a7) (h8 : a7 = a8) (h9 : a7 ≤ 301) : (300 * a6) + a1 = a4 + (a7 + 1) := by simp only [Int32.le_iff_toInt_le, Int32.lt_iff_toInt_lt, ← Int32.toInt_inj, ne_eq] at *; have l0 : (1 : Int32).toInt = 1 := (by decide); have l1 : (300 : Int32).toInt = 300 := (by decide); have l2 : (0 : Int32).toInt = 0 := (by decide); have l3 : (299 : Int32).toInt = 299 := (by decide); have l4 : (600 : Int32).toInt = 600 := (by decide); have l5 : (301 : Int32).toInt = 301 := (by decide); have s0 : (a2 + 1).toInt = a2.toInt + 1 := q_tA (by decide) (by omega) (by omega); have s1 : (300 * a6).toInt = 300 * a6.toInt := q_tM (by decide) (by omega) (by omega); have s2 : ((300 * a6) + a3).toInt = (300 * a6).toInt + a3.toInt := q_tA rfl (by omega) (by omega); have s3 : (a5 + a7).toInt = a5.toInt + a7.toInt := q_tA rfl (by omega) (by omega); have s4 : ((300 * a6) + a1).toInt = (300 * a6).toInt + a1.toInt := q_tA rfl (by omega) (by omega); have s5 : (a7 + 1).toInt = a7.toInt + 1 := q_tA (by decide) (by omega) (by omega); have s6 : (a4 + (a7 + 1)).toInt = a4.toInt + (a7 + 1).toInt := q_tA rfl (by omega) (by omega); omega
theorem zz_e2fdb7105f {a1 a2 a3 a4 : Int32} (h0 : (a1 = 0) → (a2 ≤ a3)) (h1 : a1 = 0) (h2 : ¬ (a2 = a3)) (h3 : 0 ≤ a2) (h4 : a2 ≤ 301) : (a4 = 0) → (a2 + 1 ≤ a3) := by simp only [Int32.le_iff_toInt_le, Int32.lt_iff_toInt_lt, ← Int32.toInt_inj, ne_eq] at *; have l0 : (0 : Int32).toInt = 0 := (by decide); have l1 : (301 : Int32).toInt = 301 := (by decide); have l2 : (1 : Int32).toInt = 1 := (by decide); have s0 : (a2 + 1).toInt = a2.toInt + 1 := q_tA (by decide) (by omega) (by omega); omega
theorem zz_3dd66cb384 {a1 a2 a3 a4 a5 : Int32} (h0 : a1 = a2) (h1 : ¬ (a2 = 0)) (h2 : (0 ≤ a3) ∧ (a3 ≤ 600)) (h3 : 0 ≤ a4) (h4 : a4 ≤ 300) : (a1 = 0) → (a5 = a3 + a4) := by simp only [Int32.le_iff_toInt_le, Int32.lt_iff_toInt_lt, ← Int32.toInt_inj, ne_eq] at *; have l0 : (0 : Int32).toInt = 0 := (by decide); have l1 : (600 : Int32).toInt = 600 := (by decide); have l2 : (300 : Int32).toInt = 300 := (by decide); have s0 : (a3 + a4).toInt = a3.toInt + a4.toInt := q_tA rfl (by omega) (by omega); omega
set_option maxHeartbeats 4000000 in
theorem p_Mod_exchange_174_n {L : q_L} {W : Nat → Prop} {h0 : z_H} {π : Nat → Nat → Option Nat} {N : Nat} {lo : Nat → Int32} (hqn : q_Q lo 301) : ∀ (n : Nat) (v0 : Nat) (v1 : Int32) (v2 : Int32) (v3 : Int32) (h : z_H), q_U L W h0 π h → q_M L π v0 → (∀ a, v0 ≤ a → a < v0 + 46 → W a) → (0 ≤ v1) → (v1 < 80) → (vI h v0 48 = 0 → vI h v0 41 ≤ vI h v0 3) → (vA h (v0 + 22) (vI h v0 42) ≤ vI h v0 41) → (vI h v0 41 ≤ 244) → (0 ≤ v2) → (v2 ≤ 300) → (0 ≤ v3) → (vI h v0 48 = 0 → v3 ≤ v2) → (v3 ≤ 301) → (300 * vI h v0 42 + vA h (v0 + 22) (vI h v0 42) = vA h (v0 + 12) v1 + v3) → (100000 ≤ N) → (lo n ≤ (if vI h v0 48 = 0 then vI h v0 41 else 300)) → qk (f_Mod_exchange_174 N  n v0 v1 v2 v3 h) (fun r => q_U L W h0 π r ∧ (∀ a k, ¬ (a = v0 ∧ (k = 5 ∨ k = 48 ∨ k = 41)) → vI r a k = vI h a k) ∧ (∀ a j, 0 ≤ j → ¬ (a = v0 + 11 ∨ a = v0 + 22 ∨ a = v0 + 28) → vA r a j = vA h a j) ∧ (∀ j, 0 ≤ j → j ≠ vI h v0 42 → vA r (v0 + 22) j = vA h (v0 + 22) j) ∧ (∀ j, 0 ≤ j → (j < (300 * vI h v0 42 + vA h (v0 + 22) (vI h v0 42)) ∨ 300 * vI h v0 42 + 300 ≤ j) → vA r (v0 + 28) j = vA h (v0 + 28) j) ∧ (∀ j, 0 ≤ j → j ≠ v1 → vA r (v0 + 11) j = vA h (v0 + 11) j) ∧ (vI r v0 48 = 0 → vI h v0 41 < vI r v0 41 ∧ vI r v0 41 ≤ vI h v0 3) ∧ (vA h (v0 + 22) (vI h v0 42) ≤ vA r (v0 + 22) (vI h v0 42) ∧ vA r (v0 + 22) (vI h v0 42) ≤ vI r v0 41) ∧ (vI h v0 41 ≤ vI r v0 41 ∧ vI r v0 41 ≤ 246) ∧ (vA r (v0 + 11) v1 = 300 * vI h v0 42 + vA r (v0 + 22) (vI h v0 42)) ∧ (vI r v0 48 = 0 → vA r (v0 + 11) v1 = vA h (v0 + 12) v1 + v2)) := by
  intro n
  induction n with
  | zero => intro v0 v1 v2 v3 h T kv0 wM s0 s1 hl hc ab n0_ n1_ k0 k1 km mo hN hms; have rg_at := g_Mo_41 T kv0; have hz := hqn.1; exact absurd hms (by grind)
  | succ n ih =>
    intro v0 v1 v2 v3 h T kv0 wM s0 s1 hl hc ab n0_ n1_ k0 k1 km mo hN hms
    obtain ⟨hq1, hq2, hq3⟩ := hqn.2 n
    rw [f_Mod_exchange_174]
    refine r_Mo_48 T kv0 ?_
    intro x1 ex1
    subst ex1
    refine qk_if (fun cc1 => ?_) (fun cc1 => ?_)
    · skip
      refine qk_if (fun cc2 => ?_) (fun cc2 => ?_)
      · skip
        unfold f_Mod_exchange_195
        refine r_Mo_o T kv0 ?_
        refine c_Mod_here2 (v0 := v0) T kv0 ?_
        intro yr2i3 gr2i3_0 gr2i3_1 gr2i3_2 gr2i3_3 gr2i3_4
        dsimp only
        refine qk_bs ?_
        refine qk_if (fun cc4 => ?_) (fun cc4 => ?_)
        · skip
          refine r_Mo_3 T kv0 ?_
          intro x9i3 ex9i3 lx9i3 ux9i3
          subst ex9i3
          refine r_Mo_o T kv0 ?_
          refine c_Mod_wrong (v0 := v0) (v1 := (vI h v0 3)) T kv0 wM ?_
          intro r11i3 Tr11i3 gr11i3_0 gr11i3_1 gr11i3_2
          unfold f_Mod_exchange_252
          refine r_Mo_o Tr11i3 kv0 ?_
          have o6 : vA r11i3 (v0 + 22) (vI h v0 42) = vA h (v0 + 22) (vI h v0 42) := (by rw [gr11i3_2 (v0 + 22) (vI h v0 42)])
          have o7 := g_Mo_41 T kv0
          refine c_Mod_keep (v0 := v0) (v1 := (yr2i3)) Tr11i3 kv0 wM (zz_66a8b72997 cc4) (zz_0cd813e035 cc4) (by show vA r11i3 (v0 + 22) (vI r11i3 v0 42) ≤ 260; have qc1 : vI r11i3 v0 42 = (vI h v0 42) := (by rw [gr11i3_0 v0 42 (by omega)]); rw [qc1]; exact zz_cc4ff5f1a7 o6 hc o7) ?_
          intro r2i5 Tr2i5 gr2i5_0 gr2i5_1
          have qh42_gr2i5_0 : vI r11i3 v0 42 = (vI h v0 42) := by rw [gr11i3_0 v0 42 (by omega)]
          rw [qh42_gr2i5_0] at gr2i5_1
          refine qk_bs ?_
          refine r_Mo_41 Tr2i5 kv0 ?_
          intro x4i5 ex4i5 lx4i5 ux4i5
          have sx4i5 : (vI h v0 41) = x4i5 := (ex4i5.trans (by rw [gr2i5_0 v0 41, gr11i3_0 v0 41 (by omega)])).symm
          subst sx4i5
          refine w_Mo_41 Tr2i5 kv0 (wM _ (by omega) (by omega)) (zz_5664edf06b o7) (zz_72c91f6afd ab o7) ?_
          intro h5i5 Th5i5 ih5i5 ah5i5
          have o8 : vI h5i5 v0 48 = 1 := (by rw [ih5i5 v0 48, if_neg (fun z => absurd z.2 (by decide)), gr2i5_0 v0 48, gr11i3_1])
          have o9 : vA h5i5 (v0 + 22) (vI h v0 42) = (vA r11i3 (v0 + 22) (vI h v0 42)) + 1 := (by rw [ah5i5 (v0 + 22) (vI h v0 42), gr2i5_1 (v0 + 22) (vI h v0 42) (g_Mo_42 T kv0).1, if_pos ⟨rfl, rfl⟩])
          have o10 : vI h5i5 v0 41 = (vI h v0 41) + 1 := (by rw [ih5i5 v0 41, if_pos ⟨rfl, rfl⟩])
          have o11 := g_Mo_e22 T kv0 (vI h v0 42)
          have o12 := g_Mo_3 T kv0
          have o13 : vA h5i5 (v0 + 12) v1 = vA h (v0 + 12) v1 := (by rw [ah5i5 (v0 + 12) v1, gr2i5_1 (v0 + 12) v1 s0, if_neg (fun z => absurd z.1 (by omega)), if_neg (fun z => absurd z.1 (by omega)), gr11i3_2 (v0 + 12) v1])
          have o14 := g_Mo_42 T kv0
          have o15 := g_Mo_e12 T kv0 v1
          refine qk_mono (ih (v0) (v1) (v2) ((v3 + 1)) h5i5 Th5i5 kv0 wM s0 s1 (zz_72bcbc58f7 o8) (by show vA h5i5 (v0 + 22) (vI h5i5 v0 42) ≤ vI h5i5 v0 41; have qc1 : vI h5i5 v0 42 = (vI h v0 42) := (by rw [ih5i5 v0 42, if_neg (fun z => absurd z.2 (by decide)), gr2i5_0 v0 42, gr11i3_0 v0 42 (by omega)]); rw [qc1]; exact zz_f54652bfe2 o9 o6 o10 hc o7 o11) (zz_8c6aae1ddf o10 hl o12 cc1 o7) n0_ n1_ (zz_cea4584d83 k0 km) (zz_30c5e08d9e o8 k0 n1_ cc2) (zz_4a95925f97 cc2 n1_ k0) (by show 300 * vI h5i5 v0 42 + vA h5i5 (v0 + 22) (vI h5i5 v0 42) = vA h5i5 (v0 + 12) v1 + (v3 + 1); have qc1 : vI h5i5 v0 42 = (vI h v0 42) := (by rw [ih5i5 v0 42, if_neg (fun z => absurd z.2 (by decide)), gr2i5_0 v0 42, gr11i3_0 v0 42 (by omega)]); rw [qc1]; exact zz_ef5a34e4fb o9 o6 o13 mo o14 o11 o15 k0 km) hN (zz_1bb889580e o8 ab hms hq1 cc1 hq2 hq3)) ?_
          rintro hz ⟨Tz, g0, g1, g2, g3, g4, g5, g6, g7, g8, g9⟩
          try dsimp only at *
          have qh42_g0 : vI h5i5 v0 42 = (vI h v0 42) := by rw [ih5i5 v0 42, if_neg (fun z => absurd z.2 (by decide)), gr2i5_0 v0 42, gr11i3_0 v0 42 (by omega)]
          rw [qh42_g0] at g2
          rw [qh42_g0] at g3
          rw [qh42_g0] at g6
          rw [qh42_g0] at g8
          have o17 := g_Mo_41 Tz kv0
          have o18 : vI h5i5 v0 3 = vI h v0 3 := (by rw [ih5i5 v0 3, if_neg (fun z => absurd z.2 (by decide)), gr2i5_0 v0 3, gr11i3_0 v0 3 (by omega)])
          have o19 := g_Mo_e22 Tz kv0 (vI h v0 42)
          exact ⟨Tz, (by clear ih; show ∀ a k, ¬ (a = v0 ∧ (k = 5 ∨ k = 48 ∨ k = 41)) → vI hz a k = vI h a k; intro a k n0; rw [g0 a k (by omega), ih5i5, if_neg (by omega), gr2i5_0 a k, gr11i3_0 a k (by omega)]), (by clear ih; show ∀ a j, 0 ≤ j → ¬ (a = v0 + 11 ∨ a = v0 + 22 ∨ a = v0 + 28) → vA hz a j = vA h a j; intro a j j0 n0; rw [g1 a j j0 (by omega), ah5i5, gr2i5_1 a j j0, if_neg (by omega), if_neg (by omega), gr11i3_2 a j]), (by clear ih; show ∀ j, 0 ≤ j → j ≠ vI h v0 42 → vA hz (v0 + 22) j = vA h (v0 + 22) j; intro j j0 n0; rw [g2 j j0 n0, ah5i5 (v0 + 22) j, gr2i5_1 (v0 + 22) j j0, if_neg (fun z => absurd z.2 (zz_946771669d n0)), if_neg (fun z => absurd z.1 (by omega)), gr11i3_2 (v0 + 22) j]), (by clear ih; show ∀ j, 0 ≤ j → (j < (300 * vI h v0 42 + vA h (v0 + 22) (vI h v0 42)) ∨ 300 * vI h v0 42 + 300 ≤ j) → vA hz (v0 + 28) j = vA h (v0 + 28) j; intro j j0 n0; rw [g3 j j0 (zz_9dc3e8833e o9 o6 n0 o14 o11), ah5i5 (v0 + 28) j, gr2i5_1 (v0 + 28) j j0, if_neg (fun z => absurd z.1 (by omega)), if_neg (fun z => absurd z.2 (zz_cee1d7865c o6 g6 o9 o17 n0 o14 o11)), gr11i3_2 (v0 + 28) j]), (by clear ih; show ∀ j, 0 ≤ j → j ≠ v1 → vA hz (v0 + 11) j = vA h (v0 + 11) j; intro j j0 n0; rw [g4 j j0 n0, ah5i5 (v0 + 11) j, gr2i5_1 (v0 + 11) j j0, if_neg (fun z => absurd z.1 (by omega)), if_neg (fun z => absurd z.1 (by omega)), gr11i3_2 (v0 + 11) j]), (zz_a5143cc316 g5 o10 o18 o7), (zz_159c870883 g6 o9 o6 o11), (zz_90b9611921 o10 g7 o7), (zz_3e1d7f49dd g8 o14 o19), (zz_21402187de g9 o13 n0_ n1_ o15)⟩
        · skip
          refine qk_if (fun cc20 => ?_) (fun cc20 => ?_)
          · skip
            unfold f_Mod_exchange_244
            refine r_Mo_41 T kv0 ?_
            intro x1i21 ex1i21 lx1i21 ux1i21
            subst ex1i21
            refine r_Mo_o T kv0 ?_
            refine c_Mod_wrong (v0 := v0) (v1 := (vI h v0 41)) T kv0 wM ?_
            intro r3i21 Tr3i21 gr3i21_0 gr3i21_1 gr3i21_2
            unfold f_Mod_exchange_252
            refine r_Mo_o Tr3i21 kv0 ?_
            have o23 : vA r3i21 (v0 + 22) (vI h v0 42) = vA h (v0 + 22) (vI h v0 42) := (by rw [gr3i21_2 (v0 + 22) (vI h v0 42)])
            have o24 := g_Mo_41 T kv0
            refine c_Mod_keep (v0 := v0) (v1 := (yr2i3)) Tr3i21 kv0 wM (zz_a910293429 cc20) (zz_462f0fbb08 cc20) (by show vA r3i21 (v0 + 22) (vI r3i21 v0 42) ≤ 260; have qc1 : vI r3i21 v0 42 = (vI h v0 42) := (by rw [gr3i21_0 v0 42 (by omega)]); rw [qc1]; exact zz_cc4ff5f1a7 o23 hc o24) ?_
            intro r2i22 Tr2i22 gr2i22_0 gr2i22_1
            have qh42_gr2i22_0 : vI r3i21 v0 42 = (vI h v0 42) := by rw [gr3i21_0 v0 42 (by omega)]
            rw [qh42_gr2i22_0] at gr2i22_1
            refine qk_bs ?_
            refine r_Mo_41 Tr2i22 kv0 ?_
            intro x4i22 ex4i22 lx4i22 ux4i22
            have sx4i22 : (vI h v0 41) = x4i22 := (ex4i22.trans (by rw [gr2i22_0 v0 41, gr3i21_0 v0 41 (by omega)])).symm
            subst sx4i22
            refine w_Mo_41 Tr2i22 kv0 (wM _ (by omega) (by omega)) (zz_5664edf06b o24) (zz_72c91f6afd ab o24) ?_
            intro h5i22 Th5i22 ih5i22 ah5i22
            have o25 : vI h5i22 v0 48 = 1 := (by rw [ih5i22 v0 48, if_neg (fun z => absurd z.2 (by decide)), gr2i22_0 v0 48, gr3i21_1])
            have o26 : vA h5i22 (v0 + 22) (vI h v0 42) = (vA r3i21 (v0 + 22) (vI h v0 42)) + 1 := (by rw [ah5i22 (v0 + 22) (vI h v0 42), gr2i22_1 (v0 + 22) (vI h v0 42) (g_Mo_42 T kv0).1, if_pos ⟨rfl, rfl⟩])
            have o27 : vI h5i22 v0 41 = (vI h v0 41) + 1 := (by rw [ih5i22 v0 41, if_pos ⟨rfl, rfl⟩])
            have o28 := g_Mo_e22 T kv0 (vI h v0 42)
            have o29 := g_Mo_3 T kv0
            have o30 : vA h5i22 (v0 + 12) v1 = vA h (v0 + 12) v1 := (by rw [ah5i22 (v0 + 12) v1, gr2i22_1 (v0 + 12) v1 s0, if_neg (fun z => absurd z.1 (by omega)), if_neg (fun z => absurd z.1 (by omega)), gr3i21_2 (v0 + 12) v1])
            have o31 := g_Mo_42 T kv0
            have o32 := g_Mo_e12 T kv0 v1
            refine qk_mono (ih (v0) (v1) (v2) ((v3 + 1)) h5i22 Th5i22 kv0 wM s0 s1 (zz_72bcbc58f7 o25) (by show vA h5i22 (v0 + 22) (vI h5i22 v0 42) ≤ vI h5i22 v0 41; have qc1 : vI h5i22 v0 42 = (vI h v0 42) := (by rw [ih5i22 v0 42, if_neg (fun z => absurd z.2 (by decide)), gr2i22_0 v0 42, gr3i21_0 v0 42 (by omega)]); rw [qc1]; exact zz_f54652bfe2 o26 o23 o27 hc o24 o28) (zz_c740e3330a o27 o29 gr2i3_2 cc20 o24) n0_ n1_ (zz_cea4584d83 k0 km) (zz_30c5e08d9e o25 k0 n1_ cc2) (zz_4a95925f97 cc2 n1_ k0) (by show 300 * vI h5i22 v0 42 + vA h5i22 (v0 + 22) (vI h5i22 v0 42) = vA h5i22 (v0 + 12) v1 + (v3 + 1); have qc1 : vI h5i22 v0 42 = (vI h v0 42) := (by rw [ih5i22 v0 42, if_neg (fun z => absurd z.2 (by decide)), gr2i22_0 v0 42, gr3i21_0 v0 42 (by omega)]); rw [qc1]; exact zz_ef5a34e4fb o26 o23 o30 mo o31 o28 o32 k0 km) hN (zz_73e40b9380 o25 hms hq1 gr2i3_3 cc1 cc20 hq2 hq3)) ?_
            rintro hz ⟨Tz, g0, g1, g2, g3, g4, g5, g6, g7, g8, g9⟩
            try dsimp only at *
            have qh42_g0 : vI h5i22 v0 42 = (vI h v0 42) := by rw [ih5i22 v0 42, if_neg (fun z => absurd z.2 (by decide)), gr2i22_0 v0 42, gr3i21_0 v0 42 (by omega)]
            rw [qh42_g0] at g2
            rw [qh42_g0] at g3
            rw [qh42_g0] at g6
            rw [qh42_g0] at g8
            have o34 := g_Mo_41 Tz kv0
            have o35 : vI h5i22 v0 3 = vI h v0 3 := (by rw [ih5i22 v0 3, if_neg (fun z => absurd z.2 (by decide)), gr2i22_0 v0 3, gr3i21_0 v0 3 (by omega)])
            have o36 := g_Mo_e22 Tz kv0 (vI h v0 42)
            exact ⟨Tz, (by clear ih; show ∀ a k, ¬ (a = v0 ∧ (k = 5 ∨ k = 48 ∨ k = 41)) → vI hz a k = vI h a k; intro a k n0; rw [g0 a k (by omega), ih5i22, if_neg (by omega), gr2i22_0 a k, gr3i21_0 a k (by omega)]), (by clear ih; show ∀ a j, 0 ≤ j → ¬ (a = v0 + 11 ∨ a = v0 + 22 ∨ a = v0 + 28) → vA hz a j = vA h a j; intro a j j0 n0; rw [g1 a j j0 (by omega), ah5i22, gr2i22_1 a j j0, if_neg (by omega), if_neg (by omega), gr3i21_2 a j]), (by clear ih; show ∀ j, 0 ≤ j → j ≠ vI h v0 42 → vA hz (v0 + 22) j = vA h (v0 + 22) j; intro j j0 n0; rw [g2 j j0 n0, ah5i22 (v0 + 22) j, gr2i22_1 (v0 + 22) j j0, if_neg (fun z => absurd z.2 (zz_946771669d n0)), if_neg (fun z => absurd z.1 (by omega)), gr3i21_2 (v0 + 22) j]), (by clear ih; show ∀ j, 0 ≤ j → (j < (300 * vI h v0 42 + vA h (v0 + 22) (vI h v0 42)) ∨ 300 * vI h v0 42 + 300 ≤ j) → vA hz (v0 + 28) j = vA h (v0 + 28) j; intro j j0 n0; rw [g3 j j0 (zz_9dc3e8833e o26 o23 n0 o31 o28), ah5i22 (v0 + 28) j, gr2i22_1 (v0 + 28) j j0, if_neg (fun z => absurd z.1 (by omega)), if_neg (fun z => absurd z.2 (zz_cee1d7865c o23 g6 o26 o34 n0 o31 o28)), gr3i21_2 (v0 + 28) j]), (by clear ih; show ∀ j, 0 ≤ j → j ≠ v1 → vA hz (v0 + 11) j = vA h (v0 + 11) j; intro j j0 n0; rw [g4 j j0 n0, ah5i22 (v0 + 11) j, gr2i22_1 (v0 + 11) j j0, if_neg (fun z => absurd z.1 (by omega)), if_neg (fun z => absurd z.1 (by omega)), gr3i21_2 (v0 + 11) j]), (zz_a5143cc316 g5 o27 o35 o24), (zz_159c870883 g6 o26 o23 o28), (zz_90b9611921 o27 g7 o24), (zz_3e1d7f49dd g8 o31 o36), (zz_21402187de g9 o30 n0_ n1_ o32)⟩
          · skip
            refine qk_if (fun cc37 => ?_) (fun cc37 => ?_)
            · skip
              unfold f_Mod_exchange_244
              refine r_Mo_41 T kv0 ?_
              intro x1i38 ex1i38 lx1i38 ux1i38
              subst ex1i38
              refine r_Mo_o T kv0 ?_
              refine c_Mod_wrong (v0 := v0) (v1 := (vI h v0 41)) T kv0 wM ?_
              intro r3i38 Tr3i38 gr3i38_0 gr3i38_1 gr3i38_2
              unfold f_Mod_exchange_252
              refine r_Mo_o Tr3i38 kv0 ?_
              have o40 : vA r3i38 (v0 + 22) (vI h v0 42) = vA h (v0 + 22) (vI h v0 42) := (by rw [gr3i38_2 (v0 + 22) (vI h v0 42)])
              have o41 := g_Mo_41 T kv0
              refine c_Mod_keep (v0 := v0) (v1 := (yr2i3)) Tr3i38 kv0 wM (zz_8c2a257ba7 cc37) (zz_6bd0cf1b3d cc37) (by show vA r3i38 (v0 + 22) (vI r3i38 v0 42) ≤ 260; have qc1 : vI r3i38 v0 42 = (vI h v0 42) := (by rw [gr3i38_0 v0 42 (by omega)]); rw [qc1]; exact zz_cc4ff5f1a7 o40 hc o41) ?_
              intro r2i39 Tr2i39 gr2i39_0 gr2i39_1
              have qh42_gr2i39_0 : vI r3i38 v0 42 = (vI h v0 42) := by rw [gr3i38_0 v0 42 (by omega)]
              rw [qh42_gr2i39_0] at gr2i39_1
              refine qk_bs ?_
              refine r_Mo_41 Tr2i39 kv0 ?_
              intro x4i39 ex4i39 lx4i39 ux4i39
              have sx4i39 : (vI h v0 41) = x4i39 := (ex4i39.trans (by rw [gr2i39_0 v0 41, gr3i38_0 v0 41 (by omega)])).symm
              subst sx4i39
              refine w_Mo_41 Tr2i39 kv0 (wM _ (by omega) (by omega)) (zz_5664edf06b o41) (zz_72c91f6afd ab o41) ?_
              intro h5i39 Th5i39 ih5i39 ah5i39
              have o42 : vI h5i39 v0 48 = 1 := (by rw [ih5i39 v0 48, if_neg (fun z => absurd z.2 (by decide)), gr2i39_0 v0 48, gr3i38_1])
              have o43 : vA h5i39 (v0 + 22) (vI h v0 42) = (vA r3i38 (v0 + 22) (vI h v0 42)) + 1 := (by rw [ah5i39 (v0 + 22) (vI h v0 42), gr2i39_1 (v0 + 22) (vI h v0 42) (g_Mo_42 T kv0).1, if_pos ⟨rfl, rfl⟩])
              have o44 : vI h5i39 v0 41 = (vI h v0 41) + 1 := (by rw [ih5i39 v0 41, if_pos ⟨rfl, rfl⟩])
              have o45 := g_Mo_e22 T kv0 (vI h v0 42)
              have o46 := g_Mo_3 T kv0
              have o47 : vA h5i39 (v0 + 12) v1 = vA h (v0 + 12) v1 := (by rw [ah5i39 (v0 + 12) v1, gr2i39_1 (v0 + 12) v1 s0, if_neg (fun z => absurd z.1 (by omega)), if_neg (fun z => absurd z.1 (by omega)), gr3i38_2 (v0 + 12) v1])
              have o48 := g_Mo_42 T kv0
              have o49 := g_Mo_e12 T kv0 v1
              refine qk_mono (ih (v0) (v1) (v2) ((v3 + 1)) h5i39 Th5i39 kv0 wM s0 s1 (zz_72bcbc58f7 o42) (by show vA h5i39 (v0 + 22) (vI h5i39 v0 42) ≤ vI h5i39 v0 41; have qc1 : vI h5i39 v0 42 = (vI h v0 42) := (by rw [ih5i39 v0 42, if_neg (fun z => absurd z.2 (by decide)), gr2i39_0 v0 42, gr3i38_0 v0 42 (by omega)]); rw [qc1]; exact zz_f54652bfe2 o43 o40 o44 hc o41 o45) (zz_f10b8af160 o44 o46 gr2i3_2 cc37 o41) n0_ n1_ (zz_cea4584d83 k0 km) (zz_30c5e08d9e o42 k0 n1_ cc2) (zz_4a95925f97 cc2 n1_ k0) (by show 300 * vI h5i39 v0 42 + vA h5i39 (v0 + 22) (vI h5i39 v0 42) = vA h5i39 (v0 + 12) v1 + (v3 + 1); have qc1 : vI h5i39 v0 42 = (vI h v0 42) := (by rw [ih5i39 v0 42, if_neg (fun z => absurd z.2 (by decide)), gr2i39_0 v0 42, gr3i38_0 v0 42 (by omega)]); rw [qc1]; exact zz_ef5a34e4fb o43 o40 o47 mo o48 o45 o49 k0 km) hN (zz_8846049fc9 o42 hms hq1 gr2i3_3 cc1 cc37 hq2 hq3)) ?_
              rintro hz ⟨Tz, g0, g1, g2, g3, g4, g5, g6, g7, g8, g9⟩
              try dsimp only at *
              have qh42_g0 : vI h5i39 v0 42 = (vI h v0 42) := by rw [ih5i39 v0 42, if_neg (fun z => absurd z.2 (by decide)), gr2i39_0 v0 42, gr3i38_0 v0 42 (by omega)]
              rw [qh42_g0] at g2
              rw [qh42_g0] at g3
              rw [qh42_g0] at g6
              rw [qh42_g0] at g8
              have o51 := g_Mo_41 Tz kv0
              have o52 : vI h5i39 v0 3 = vI h v0 3 := (by rw [ih5i39 v0 3, if_neg (fun z => absurd z.2 (by decide)), gr2i39_0 v0 3, gr3i38_0 v0 3 (by omega)])
              have o53 := g_Mo_e22 Tz kv0 (vI h v0 42)
              exact ⟨Tz, (by clear ih; show ∀ a k, ¬ (a = v0 ∧ (k = 5 ∨ k = 48 ∨ k = 41)) → vI hz a k = vI h a k; intro a k n0; rw [g0 a k (by omega), ih5i39, if_neg (by omega), gr2i39_0 a k, gr3i38_0 a k (by omega)]), (by clear ih; show ∀ a j, 0 ≤ j → ¬ (a = v0 + 11 ∨ a = v0 + 22 ∨ a = v0 + 28) → vA hz a j = vA h a j; intro a j j0 n0; rw [g1 a j j0 (by omega), ah5i39, gr2i39_1 a j j0, if_neg (by omega), if_neg (by omega), gr3i38_2 a j]), (by clear ih; show ∀ j, 0 ≤ j → j ≠ vI h v0 42 → vA hz (v0 + 22) j = vA h (v0 + 22) j; intro j j0 n0; rw [g2 j j0 n0, ah5i39 (v0 + 22) j, gr2i39_1 (v0 + 22) j j0, if_neg (fun z => absurd z.2 (zz_946771669d n0)), if_neg (fun z => absurd z.1 (by omega)), gr3i38_2 (v0 + 22) j]), (by clear ih; show ∀ j, 0 ≤ j → (j < (300 * vI h v0 42 + vA h (v0 + 22) (vI h v0 42)) ∨ 300 * vI h v0 42 + 300 ≤ j) → vA hz (v0 + 28) j = vA h (v0 + 28) j; intro j j0 n0; rw [g3 j j0 (zz_9dc3e8833e o43 o40 n0 o48 o45), ah5i39 (v0 + 28) j, gr2i39_1 (v0 + 28) j j0, if_neg (fun z => absurd z.1 (by omega)), if_neg (fun z => absurd z.2 (zz_cee1d7865c o40 g6 o43 o51 n0 o48 o45)), gr3i38_2 (v0 + 28) j]), (by clear ih; show ∀ j, 0 ≤ j → j ≠ v1 → vA hz (v0 + 11) j = vA h (v0 + 11) j; intro j j0 n0; rw [g4 j j0 n0, ah5i39 (v0 + 11) j, gr2i39_1 (v0 + 11) j j0, if_neg (fun z => absurd z.1 (by omega)), if_neg (fun z => absurd z.1 (by omega)), gr3i38_2 (v0 + 11) j]), (zz_a5143cc316 g5 o44 o52 o41), (zz_159c870883 g6 o43 o40 o45), (zz_90b9611921 o44 g7 o41), (zz_3e1d7f49dd g8 o48 o53), (zz_21402187de g9 o47 n0_ n1_ o49)⟩
            · skip
              refine qk_if (fun cc54 => ?_) (fun cc54 => ?_)
              · skip
                unfold f_Mod_exchange_244
                refine r_Mo_41 T kv0 ?_
                intro x1i55 ex1i55 lx1i55 ux1i55
                subst ex1i55
                refine r_Mo_o T kv0 ?_
                refine c_Mod_wrong (v0 := v0) (v1 := (vI h v0 41)) T kv0 wM ?_
                intro r3i55 Tr3i55 gr3i55_0 gr3i55_1 gr3i55_2
                unfold f_Mod_exchange_252
                refine r_Mo_o Tr3i55 kv0 ?_
                have o57 : vA r3i55 (v0 + 22) (vI h v0 42) = vA h (v0 + 22) (vI h v0 42) := (by rw [gr3i55_2 (v0 + 22) (vI h v0 42)])
                have o58 := g_Mo_41 T kv0
                refine c_Mod_keep (v0 := v0) (v1 := (yr2i3)) Tr3i55 kv0 wM (zz_68802f2aaa cc54) (zz_b0bef9a10e cc54) (by show vA r3i55 (v0 + 22) (vI r3i55 v0 42) ≤ 260; have qc1 : vI r3i55 v0 42 = (vI h v0 42) := (by rw [gr3i55_0 v0 42 (by omega)]); rw [qc1]; exact zz_cc4ff5f1a7 o57 hc o58) ?_
                intro r2i56 Tr2i56 gr2i56_0 gr2i56_1
                have qh42_gr2i56_0 : vI r3i55 v0 42 = (vI h v0 42) := by rw [gr3i55_0 v0 42 (by omega)]
                rw [qh42_gr2i56_0] at gr2i56_1
                refine qk_bs ?_
                refine r_Mo_41 Tr2i56 kv0 ?_
                intro x4i56 ex4i56 lx4i56 ux4i56
                have sx4i56 : (vI h v0 41) = x4i56 := (ex4i56.trans (by rw [gr2i56_0 v0 41, gr3i55_0 v0 41 (by omega)])).symm
                subst sx4i56
                refine w_Mo_41 Tr2i56 kv0 (wM _ (by omega) (by omega)) (zz_5664edf06b o58) (zz_72c91f6afd ab o58) ?_
                intro h5i56 Th5i56 ih5i56 ah5i56
                have o59 : vI h5i56 v0 48 = 1 := (by rw [ih5i56 v0 48, if_neg (fun z => absurd z.2 (by decide)), gr2i56_0 v0 48, gr3i55_1])
                have o60 : vA h5i56 (v0 + 22) (vI h v0 42) = (vA r3i55 (v0 + 22) (vI h v0 42)) + 1 := (by rw [ah5i56 (v0 + 22) (vI h v0 42), gr2i56_1 (v0 + 22) (vI h v0 42) (g_Mo_42 T kv0).1, if_pos ⟨rfl, rfl⟩])
                have o61 : vI h5i56 v0 41 = (vI h v0 41) + 1 := (by rw [ih5i56 v0 41, if_pos ⟨rfl, rfl⟩])
                have o62 := g_Mo_e22 T kv0 (vI h v0 42)
                have o63 := g_Mo_3 T kv0
                have o64 : vA h5i56 (v0 + 12) v1 = vA h (v0 + 12) v1 := (by rw [ah5i56 (v0 + 12) v1, gr2i56_1 (v0 + 12) v1 s0, if_neg (fun z => absurd z.1 (by omega)), if_neg (fun z => absurd z.1 (by omega)), gr3i55_2 (v0 + 12) v1])
                have o65 := g_Mo_42 T kv0
                have o66 := g_Mo_e12 T kv0 v1
                refine qk_mono (ih (v0) (v1) (v2) ((v3 + 1)) h5i56 Th5i56 kv0 wM s0 s1 (zz_72bcbc58f7 o59) (by show vA h5i56 (v0 + 22) (vI h5i56 v0 42) ≤ vI h5i56 v0 41; have qc1 : vI h5i56 v0 42 = (vI h v0 42) := (by rw [ih5i56 v0 42, if_neg (fun z => absurd z.2 (by decide)), gr2i56_0 v0 42, gr3i55_0 v0 42 (by omega)]); rw [qc1]; exact zz_f54652bfe2 o60 o57 o61 hc o58 o62) (zz_89290bbe16 o61 o63 gr2i3_2 cc54 o58) n0_ n1_ (zz_cea4584d83 k0 km) (zz_30c5e08d9e o59 k0 n1_ cc2) (zz_4a95925f97 cc2 n1_ k0) (by show 300 * vI h5i56 v0 42 + vA h5i56 (v0 + 22) (vI h5i56 v0 42) = vA h5i56 (v0 + 12) v1 + (v3 + 1); have qc1 : vI h5i56 v0 42 = (vI h v0 42) := (by rw [ih5i56 v0 42, if_neg (fun z => absurd z.2 (by decide)), gr2i56_0 v0 42, gr3i55_0 v0 42 (by omega)]); rw [qc1]; exact zz_ef5a34e4fb o60 o57 o64 mo o65 o62 o66 k0 km) hN (zz_cb5c06eb34 o59 hms hq1 gr2i3_3 cc1 cc54 hq2 hq3)) ?_
                rintro hz ⟨Tz, g0, g1, g2, g3, g4, g5, g6, g7, g8, g9⟩
                try dsimp only at *
                have qh42_g0 : vI h5i56 v0 42 = (vI h v0 42) := by rw [ih5i56 v0 42, if_neg (fun z => absurd z.2 (by decide)), gr2i56_0 v0 42, gr3i55_0 v0 42 (by omega)]
                rw [qh42_g0] at g2
                rw [qh42_g0] at g3
                rw [qh42_g0] at g6
                rw [qh42_g0] at g8
                have o68 := g_Mo_41 Tz kv0
                have o69 : vI h5i56 v0 3 = vI h v0 3 := (by rw [ih5i56 v0 3, if_neg (fun z => absurd z.2 (by decide)), gr2i56_0 v0 3, gr3i55_0 v0 3 (by omega)])
                have o70 := g_Mo_e22 Tz kv0 (vI h v0 42)
                exact ⟨Tz, (by clear ih; show ∀ a k, ¬ (a = v0 ∧ (k = 5 ∨ k = 48 ∨ k = 41)) → vI hz a k = vI h a k; intro a k n0; rw [g0 a k (by omega), ih5i56, if_neg (by omega), gr2i56_0 a k, gr3i55_0 a k (by omega)]), (by clear ih; show ∀ a j, 0 ≤ j → ¬ (a = v0 + 11 ∨ a = v0 + 22 ∨ a = v0 + 28) → vA hz a j = vA h a j; intro a j j0 n0; rw [g1 a j j0 (by omega), ah5i56, gr2i56_1 a j j0, if_neg (by omega), if_neg (by omega), gr3i55_2 a j]), (by clear ih; show ∀ j, 0 ≤ j → j ≠ vI h v0 42 → vA hz (v0 + 22) j = vA h (v0 + 22) j; intro j j0 n0; rw [g2 j j0 n0, ah5i56 (v0 + 22) j, gr2i56_1 (v0 + 22) j j0, if_neg (fun z => absurd z.2 (zz_946771669d n0)), if_neg (fun z => absurd z.1 (by omega)), gr3i55_2 (v0 + 22) j]), (by clear ih; show ∀ j, 0 ≤ j → (j < (300 * vI h v0 42 + vA h (v0 + 22) (vI h v0 42)) ∨ 300 * vI h v0 42 + 300 ≤ j) → vA hz (v0 + 28) j = vA h (v0 + 28) j; intro j j0 n0; rw [g3 j j0 (zz_9dc3e8833e o60 o57 n0 o65 o62), ah5i56 (v0 + 28) j, gr2i56_1 (v0 + 28) j j0, if_neg (fun z => absurd z.1 (by omega)), if_neg (fun z => absurd z.2 (zz_cee1d7865c o57 g6 o60 o68 n0 o65 o62)), gr3i55_2 (v0 + 28) j]), (by clear ih; show ∀ j, 0 ≤ j → j ≠ v1 → vA hz (v0 + 11) j = vA h (v0 + 11) j; intro j j0 n0; rw [g4 j j0 n0, ah5i56 (v0 + 11) j, gr2i56_1 (v0 + 11) j j0, if_neg (fun z => absurd z.1 (by omega)), if_neg (fun z => absurd z.1 (by omega)), gr3i55_2 (v0 + 11) j]), (zz_a5143cc316 g5 o61 o69 o58), (zz_159c870883 g6 o60 o57 o62), (zz_90b9611921 o61 g7 o58), (zz_3e1d7f49dd g8 o65 o70), (zz_21402187de g9 o64 n0_ n1_ o66)⟩
              · skip
                refine qk_if (fun cc71 => ?_) (fun cc71 => ?_)
                · skip
                  unfold f_Mod_exchange_244
                  refine r_Mo_41 T kv0 ?_
                  intro x1i72 ex1i72 lx1i72 ux1i72
                  subst ex1i72
                  refine r_Mo_o T kv0 ?_
                  refine c_Mod_wrong (v0 := v0) (v1 := (vI h v0 41)) T kv0 wM ?_
                  intro r3i72 Tr3i72 gr3i72_0 gr3i72_1 gr3i72_2
                  unfold f_Mod_exchange_252
                  refine r_Mo_o Tr3i72 kv0 ?_
                  have o74 : vA r3i72 (v0 + 22) (vI h v0 42) = vA h (v0 + 22) (vI h v0 42) := (by rw [gr3i72_2 (v0 + 22) (vI h v0 42)])
                  have o75 := g_Mo_41 T kv0
                  refine c_Mod_keep (v0 := v0) (v1 := (yr2i3)) Tr3i72 kv0 wM (zz_265a939049 gr2i3_0) (zz_26ae85129d gr2i3_0) (by show vA r3i72 (v0 + 22) (vI r3i72 v0 42) ≤ 260; have qc1 : vI r3i72 v0 42 = (vI h v0 42) := (by rw [gr3i72_0 v0 42 (by omega)]); rw [qc1]; exact zz_cc4ff5f1a7 o74 hc o75) ?_
                  intro r2i73 Tr2i73 gr2i73_0 gr2i73_1
                  have qh42_gr2i73_0 : vI r3i72 v0 42 = (vI h v0 42) := by rw [gr3i72_0 v0 42 (by omega)]
                  rw [qh42_gr2i73_0] at gr2i73_1
                  refine qk_bs ?_
                  refine r_Mo_41 Tr2i73 kv0 ?_
                  intro x4i73 ex4i73 lx4i73 ux4i73
                  have sx4i73 : (vI h v0 41) = x4i73 := (ex4i73.trans (by rw [gr2i73_0 v0 41, gr3i72_0 v0 41 (by omega)])).symm
                  subst sx4i73
                  refine w_Mo_41 Tr2i73 kv0 (wM _ (by omega) (by omega)) (zz_5664edf06b o75) (zz_72c91f6afd ab o75) ?_
                  intro h5i73 Th5i73 ih5i73 ah5i73
                  have o76 : vI h5i73 v0 48 = 1 := (by rw [ih5i73 v0 48, if_neg (fun z => absurd z.2 (by decide)), gr2i73_0 v0 48, gr3i72_1])
                  have o77 : vA h5i73 (v0 + 22) (vI h v0 42) = (vA r3i72 (v0 + 22) (vI h v0 42)) + 1 := (by rw [ah5i73 (v0 + 22) (vI h v0 42), gr2i73_1 (v0 + 22) (vI h v0 42) (g_Mo_42 T kv0).1, if_pos ⟨rfl, rfl⟩])
                  have o78 : vI h5i73 v0 41 = (vI h v0 41) + 1 := (by rw [ih5i73 v0 41, if_pos ⟨rfl, rfl⟩])
                  have o79 := g_Mo_e22 T kv0 (vI h v0 42)
                  have o80 := g_Mo_42 T kv0
                  have o81 : vA h5i73 (v0 + 12) v1 = vA h (v0 + 12) v1 := (by rw [ah5i73 (v0 + 12) v1, gr2i73_1 (v0 + 12) v1 s0, if_neg (fun z => absurd z.1 (by omega)), if_neg (fun z => absurd z.1 (by omega)), gr3i72_2 (v0 + 12) v1])
                  have o82 := g_Mo_e12 T kv0 v1
                  refine qk_mono (ih (v0) (v1) (v2) ((v3 + 1)) h5i73 Th5i73 kv0 wM s0 s1 (zz_72bcbc58f7 o76) (by show vA h5i73 (v0 + 22) (vI h5i73 v0 42) ≤ vI h5i73 v0 41; have qc1 : vI h5i73 v0 42 = (vI h v0 42) := (by rw [ih5i73 v0 42, if_neg (fun z => absurd z.2 (by decide)), gr2i73_0 v0 42, gr3i72_0 v0 42 (by omega)]); rw [qc1]; exact zz_f54652bfe2 o77 o74 o78 hc o75 o79) (zz_646853efa5 o78 gr2i3_3 cc4 o75) n0_ n1_ (zz_eb2b82910c cc2 cc71) (zz_7a962750f5 o76 cc2 cc71) (zz_5b49881034 cc2 cc71) (by show 300 * vI h5i73 v0 42 + vA h5i73 (v0 + 22) (vI h5i73 v0 42) = vA h5i73 (v0 + 12) v1 + (v3 + 1); have qc1 : vI h5i73 v0 42 = (vI h v0 42) := (by rw [ih5i73 v0 42, if_neg (fun z => absurd z.2 (by decide)), gr2i73_0 v0 42, gr3i72_0 v0 42 (by omega)]); rw [qc1]; exact zz_523b0fe170 cc2 cc71 o80 o77 o81 o82 o74 o79) hN (zz_ed025be86d o76 hms hq1 gr2i3_3 cc1 cc4 hq2 hq3)) ?_
                  rintro hz ⟨Tz, g0, g1, g2, g3, g4, g5, g6, g7, g8, g9⟩
                  try dsimp only at *
                  have qh42_g0 : vI h5i73 v0 42 = (vI h v0 42) := by rw [ih5i73 v0 42, if_neg (fun z => absurd z.2 (by decide)), gr2i73_0 v0 42, gr3i72_0 v0 42 (by omega)]
                  rw [qh42_g0] at g2
                  rw [qh42_g0] at g3
                  rw [qh42_g0] at g6
                  rw [qh42_g0] at g8
                  have o84 := g_Mo_41 Tz kv0
                  have o85 : vI h5i73 v0 3 = vI h v0 3 := (by rw [ih5i73 v0 3, if_neg (fun z => absurd z.2 (by decide)), gr2i73_0 v0 3, gr3i72_0 v0 3 (by omega)])
                  have o86 := g_Mo_e22 Tz kv0 (vI h v0 42)
                  exact ⟨Tz, (by clear ih; show ∀ a k, ¬ (a = v0 ∧ (k = 5 ∨ k = 48 ∨ k = 41)) → vI hz a k = vI h a k; intro a k n0; rw [g0 a k (by omega), ih5i73, if_neg (by omega), gr2i73_0 a k, gr3i72_0 a k (by omega)]), (by clear ih; show ∀ a j, 0 ≤ j → ¬ (a = v0 + 11 ∨ a = v0 + 22 ∨ a = v0 + 28) → vA hz a j = vA h a j; intro a j j0 n0; rw [g1 a j j0 (by omega), ah5i73, gr2i73_1 a j j0, if_neg (by omega), if_neg (by omega), gr3i72_2 a j]), (by clear ih; show ∀ j, 0 ≤ j → j ≠ vI h v0 42 → vA hz (v0 + 22) j = vA h (v0 + 22) j; intro j j0 n0; rw [g2 j j0 n0, ah5i73 (v0 + 22) j, gr2i73_1 (v0 + 22) j j0, if_neg (fun z => absurd z.2 (zz_946771669d n0)), if_neg (fun z => absurd z.1 (by omega)), gr3i72_2 (v0 + 22) j]), (by clear ih; show ∀ j, 0 ≤ j → (j < (300 * vI h v0 42 + vA h (v0 + 22) (vI h v0 42)) ∨ 300 * vI h v0 42 + 300 ≤ j) → vA hz (v0 + 28) j = vA h (v0 + 28) j; intro j j0 n0; rw [g3 j j0 (zz_9dc3e8833e o77 o74 n0 o80 o79), ah5i73 (v0 + 28) j, gr2i73_1 (v0 + 28) j j0, if_neg (fun z => absurd z.1 (by omega)), if_neg (fun z => absurd z.2 (zz_cee1d7865c o74 g6 o77 o84 n0 o80 o79)), gr3i72_2 (v0 + 28) j]), (by clear ih; show ∀ j, 0 ≤ j → j ≠ v1 → vA hz (v0 + 11) j = vA h (v0 + 11) j; intro j j0 n0; rw [g4 j j0 n0, ah5i73 (v0 + 11) j, gr2i73_1 (v0 + 11) j j0, if_neg (fun z => absurd z.1 (by omega)), if_neg (fun z => absurd z.1 (by omega)), gr3i72_2 (v0 + 11) j]), (zz_a5143cc316 g5 o78 o85 o75), (zz_159c870883 g6 o77 o74 o79), (zz_90b9611921 o78 g7 o75), (zz_3e1d7f49dd g8 o80 o86), (zz_cd32671eea cc2 cc71 o82)⟩
                · skip
                  unfold f_Mod_exchange_252
                  refine r_Mo_o T kv0 ?_
                  have o88 := g_Mo_41 T kv0
                  refine c_Mod_keep (v0 := v0) (v1 := (yr2i3)) T kv0 wM (zz_265a939049 gr2i3_0) (zz_26ae85129d gr2i3_0) (zz_b4b1647785 hc o88) ?_
                  intro r2i87 Tr2i87 gr2i87_0 gr2i87_1
                  refine qk_bs ?_
                  refine r_Mo_41 Tr2i87 kv0 ?_
                  intro x4i87 ex4i87 lx4i87 ux4i87
                  have sx4i87 : (vI h v0 41) = x4i87 := (ex4i87.trans (by rw [gr2i87_0 v0 41])).symm
                  subst sx4i87
                  refine w_Mo_41 Tr2i87 kv0 (wM _ (by omega) (by omega)) (zz_5664edf06b o88) (zz_72c91f6afd ab o88) ?_
                  intro h5i87 Th5i87 ih5i87 ah5i87
                  have o89 : vI h5i87 v0 41 = (vI h v0 41) + 1 := (by rw [ih5i87 v0 41, if_pos ⟨rfl, rfl⟩])
                  have o90 : vI h5i87 v0 3 = vI h v0 3 := (by rw [ih5i87 v0 3, if_neg (fun z => absurd z.2 (by decide)), gr2i87_0 v0 3])
                  have o91 : vA h5i87 (v0 + 22) (vI h v0 42) = (vA h (v0 + 22) (vI h v0 42)) + 1 := (by rw [ah5i87 (v0 + 22) (vI h v0 42), gr2i87_1 (v0 + 22) (vI h v0 42) (g_Mo_42 T kv0).1, if_pos ⟨rfl, rfl⟩])
                  have o92 := g_Mo_e22 T kv0 (vI h v0 42)
                  have o93 : vA h5i87 (v0 + 12) v1 = vA h (v0 + 12) v1 := (by rw [ah5i87 (v0 + 12) v1, gr2i87_1 (v0 + 12) v1 s0, if_neg (fun z => absurd z.1 (by omega)), if_neg (fun z => absurd z.1 (by omega))])
                  have o94 := g_Mo_42 T kv0
                  have o95 := g_Mo_e12 T kv0 v1
                  refine qk_mono (ih (v0) (v1) (v2) ((v3 + 1)) h5i87 Th5i87 kv0 wM s0 s1 (zz_ddd39f7a20 o89 o90 gr2i3_2 cc4 o88) (by show vA h5i87 (v0 + 22) (vI h5i87 v0 42) ≤ vI h5i87 v0 41; have qc1 : vI h5i87 v0 42 = (vI h v0 42) := (by rw [ih5i87 v0 42, if_neg (fun z => absurd z.2 (by decide)), gr2i87_0 v0 42]); rw [qc1]; exact zz_e0bdb35105 o91 o89 hc o88 o92) (zz_646853efa5 o89 gr2i3_3 cc4 o88) n0_ n1_ (zz_cea4584d83 k0 km) (zz_4272a238fa cc2 k0 n1_) (zz_4a95925f97 cc2 n1_ k0) (by show 300 * vI h5i87 v0 42 + vA h5i87 (v0 + 22) (vI h5i87 v0 42) = vA h5i87 (v0 + 12) v1 + (v3 + 1); have qc1 : vI h5i87 v0 42 = (vI h v0 42) := (by rw [ih5i87 v0 42, if_neg (fun z => absurd z.2 (by decide)), gr2i87_0 v0 42]); rw [qc1]; exact zz_76c9121b04 o91 o93 mo o94 o92 o95 k0 km) hN (zz_b707699252 o89 ab hms hq1 cc1 hq2 hq3 o88)) ?_
                  rintro hz ⟨Tz, g0, g1, g2, g3, g4, g5, g6, g7, g8, g9⟩
                  try dsimp only at *
                  have qh42_g0 : vI h5i87 v0 42 = (vI h v0 42) := by rw [ih5i87 v0 42, if_neg (fun z => absurd z.2 (by decide)), gr2i87_0 v0 42]
                  rw [qh42_g0] at g2
                  rw [qh42_g0] at g3
                  rw [qh42_g0] at g6
                  rw [qh42_g0] at g8
                  have o97 := g_Mo_41 Tz kv0
                  have o98 := g_Mo_e22 Tz kv0 (vI h v0 42)
                  exact ⟨Tz, (by clear ih; show ∀ a k, ¬ (a = v0 ∧ (k = 5 ∨ k = 48 ∨ k = 41)) → vI hz a k = vI h a k; intro a k n0; rw [g0 a k (by omega), ih5i87, if_neg (by omega), gr2i87_0 a k]), (by clear ih; show ∀ a j, 0 ≤ j → ¬ (a = v0 + 11 ∨ a = v0 + 22 ∨ a = v0 + 28) → vA hz a j = vA h a j; intro a j j0 n0; rw [g1 a j j0 (by omega), ah5i87, gr2i87_1 a j j0, if_neg (by omega), if_neg (by omega)]), (by clear ih; show ∀ j, 0 ≤ j → j ≠ vI h v0 42 → vA hz (v0 + 22) j = vA h (v0 + 22) j; intro j j0 n0; rw [g2 j j0 n0, ah5i87 (v0 + 22) j, gr2i87_1 (v0 + 22) j j0, if_neg (fun z => absurd z.2 (zz_946771669d n0)), if_neg (fun z => absurd z.1 (by omega))]), (by clear ih; show ∀ j, 0 ≤ j → (j < (300 * vI h v0 42 + vA h (v0 + 22) (vI h v0 42)) ∨ 300 * vI h v0 42 + 300 ≤ j) → vA hz (v0 + 28) j = vA h (v0 + 28) j; intro j j0 n0; rw [g3 j j0 (zz_d5e09a6e7f o91 n0 o94 o92), ah5i87 (v0 + 28) j, gr2i87_1 (v0 + 28) j j0, if_neg (fun z => absurd z.1 (by omega)), if_neg (fun z => absurd z.2 (zz_dd9c00b3fd g6 o91 o97 n0 o94 o92))]), (by clear ih; show ∀ j, 0 ≤ j → j ≠ v1 → vA hz (v0 + 11) j = vA h (v0 + 11) j; intro j j0 n0; rw [g4 j j0 n0, ah5i87 (v0 + 11) j, gr2i87_1 (v0 + 11) j j0, if_neg (fun z => absurd z.1 (by omega)), if_neg (fun z => absurd z.1 (by omega))]), (zz_a5143cc316 g5 o89 o90 o88), (zz_926e2567f5 g6 o91 o92), (zz_90b9611921 o89 g7 o88), (zz_3e1d7f49dd g8 o94 o98), (zz_21402187de g9 o93 n0_ n1_ o95)⟩
      · skip
        refine r_Mo_o T kv0 ?_
        refine c_Mod_here2 (v0 := v0) T kv0 ?_
        intro yr5 gr5_0 gr5_1 gr5_2 gr5_3 gr5_4
        dsimp only
        refine qk_if (fun cc99 => ?_) (fun cc99 => ?_)
        · skip
          unfold f_Mod_exchange_274
          refine r_Mo_41 T kv0 ?_
          intro x1i100 ex1i100 lx1i100 ux1i100
          subst ex1i100
          have o101 := g_Mo_41 T kv0
          refine w_Mo_41 T kv0 (wM _ (by omega) (by omega)) (zz_5664edf06b o101) (zz_72c91f6afd ab o101) ?_
          intro h2i100 Th2i100 ih2i100 ah2i100
          refine r_Mo_16 Th2i100 kv0 ?_
          refine r_Mo_o Th2i100 kv0 ?_
          refine c_Mod_stored (v0 := v0) Th2i100 kv0 ?_
          intro yr5i100 gr5i100_0
          have qh42_gr5i100_0 : vI h2i100 v0 42 = (vI h v0 42) := by rw [ih2i100 v0 42, if_neg (fun z => absurd z.2 (by decide))]
          rw [qh42_gr5i100_0] at gr5i100_0
          dsimp only
          have o102 := g_Mo_42 T kv0
          have o103 : vA h2i100 (v0 + 22) (vI h v0 42) = vA h (v0 + 22) (vI h v0 42) := (by rw [ah2i100 (v0 + 22) (vI h v0 42)])
          have o104 := g_Mo_e22 T kv0 (vI h v0 42)
          refine w_Mo_e11 Th2i100 kv0 (wM _ (by omega) (by omega)) s0 s1 (zz_5c2d5e4809 gr5i100_0 o102 o103 o104) (zz_cfc7a49901 gr5i100_0 o102 o103 o104) ?_
          intro h6i100 Th6i100 ih6i100 ah6i100
          refine qk_some ?_
          have o105 : vI h6i100 v0 41 = (vI h v0 41) + 1 := (by rw [ih6i100 v0 41, ih2i100 v0 41, if_pos ⟨rfl, rfl⟩])
          have o106 : vA h6i100 (v0 + 22) (vI h v0 42) = vA h (v0 + 22) (vI h v0 42) := (by rw [ah6i100 (v0 + 22) (vI h v0 42) (g_Mo_42 T kv0).1, if_neg (fun z => absurd z.1 (by omega)), ah2i100 (v0 + 22) (vI h v0 42)])
          have o107 : vA h6i100 (v0 + 11) v1 = yr5i100 := (by rw [ah6i100 (v0 + 11) v1 s0, if_pos ⟨rfl, rfl⟩])
          have o108 := g_Mo_e12 T kv0 v1
          exact ⟨Th6i100, (by clear ih; show ∀ a k, ¬ (a = v0 ∧ (k = 5 ∨ k = 48 ∨ k = 41)) → vI h6i100 a k = vI h a k; intro a k n0; rw [ih6i100, ih2i100, if_neg (by omega)]), (by clear ih; show ∀ a j, 0 ≤ j → ¬ (a = v0 + 11 ∨ a = v0 + 22 ∨ a = v0 + 28) → vA h6i100 a j = vA h a j; intro a j j0 n0; rw [ah6i100 a j j0, if_neg (by omega), ah2i100]), (by clear ih; show ∀ j, 0 ≤ j → j ≠ vI h v0 42 → vA h6i100 (v0 + 22) j = vA h (v0 + 22) j; intro j j0 n0; rw [ah6i100 (v0 + 22) j j0, if_neg (fun z => absurd z.1 (by omega)), ah2i100 (v0 + 22) j]), (by clear ih; show ∀ j, 0 ≤ j → (j < (300 * vI h v0 42 + vA h (v0 + 22) (vI h v0 42)) ∨ 300 * vI h v0 42 + 300 ≤ j) → vA h6i100 (v0 + 28) j = vA h (v0 + 28) j; intro j j0 n0; rw [ah6i100 (v0 + 28) j j0, if_neg (fun z => absurd z.1 (by omega)), ah2i100 (v0 + 28) j]), (by clear ih; show ∀ j, 0 ≤ j → j ≠ v1 → vA h6i100 (v0 + 11) j = vA h (v0 + 11) j; intro j j0 n0; rw [ah6i100 (v0 + 11) j j0, if_neg (fun z => absurd z.2 (zz_946771669d n0)), ah2i100 (v0 + 11) j]), (zz_810949327d o105 gr5_2 cc99 o101), (zz_2a5cdb1247 o106 o105 hc o101), (zz_f3d52f0c13 o105 ab o101), (zz_fa851e07c4 o107 o106 gr5i100_0 o103 o102 o104), (zz_c07958d10a o107 k1 mo cc1 cc2 gr5i100_0 o103 o102 o104 o108 n0_ n1_)⟩
        · skip
          unfold f_Mod_exchange_195
          refine r_Mo_o T kv0 ?_
          refine c_Mod_here2 (v0 := v0) T kv0 ?_
          intro yr2i109 gr2i109_0 gr2i109_1 gr2i109_2 gr2i109_3 gr2i109_4
          dsimp only
          refine qk_bs ?_
          refine qk_if (fun cc110 => ?_) (fun cc110 => ?_)
          · skip
            refine r_Mo_3 T kv0 ?_
            intro x9i109 ex9i109 lx9i109 ux9i109
            subst ex9i109
            refine r_Mo_o T kv0 ?_
            refine c_Mod_wrong (v0 := v0) (v1 := (vI h v0 3)) T kv0 wM ?_
            intro r11i109 Tr11i109 gr11i109_0 gr11i109_1 gr11i109_2
            unfold f_Mod_exchange_252
            refine r_Mo_o Tr11i109 kv0 ?_
            have o112 : vA r11i109 (v0 + 22) (vI h v0 42) = vA h (v0 + 22) (vI h v0 42) := (by rw [gr11i109_2 (v0 + 22) (vI h v0 42)])
            have o113 := g_Mo_41 T kv0
            refine c_Mod_keep (v0 := v0) (v1 := (yr2i109)) Tr11i109 kv0 wM (zz_66a8b72997 cc110) (zz_0cd813e035 cc110) (by show vA r11i109 (v0 + 22) (vI r11i109 v0 42) ≤ 260; have qc1 : vI r11i109 v0 42 = (vI h v0 42) := (by rw [gr11i109_0 v0 42 (by omega)]); rw [qc1]; exact zz_cc4ff5f1a7 o112 hc o113) ?_
            intro r2i111 Tr2i111 gr2i111_0 gr2i111_1
            have qh42_gr2i111_0 : vI r11i109 v0 42 = (vI h v0 42) := by rw [gr11i109_0 v0 42 (by omega)]
            rw [qh42_gr2i111_0] at gr2i111_1
            refine qk_bs ?_
            refine r_Mo_41 Tr2i111 kv0 ?_
            intro x4i111 ex4i111 lx4i111 ux4i111
            have sx4i111 : (vI h v0 41) = x4i111 := (ex4i111.trans (by rw [gr2i111_0 v0 41, gr11i109_0 v0 41 (by omega)])).symm
            subst sx4i111
            refine w_Mo_41 Tr2i111 kv0 (wM _ (by omega) (by omega)) (zz_5664edf06b o113) (zz_72c91f6afd ab o113) ?_
            intro h5i111 Th5i111 ih5i111 ah5i111
            have o114 : vI h5i111 v0 48 = 1 := (by rw [ih5i111 v0 48, if_neg (fun z => absurd z.2 (by decide)), gr2i111_0 v0 48, gr11i109_1])
            have o115 : vA h5i111 (v0 + 22) (vI h v0 42) = (vA r11i109 (v0 + 22) (vI h v0 42)) + 1 := (by rw [ah5i111 (v0 + 22) (vI h v0 42), gr2i111_1 (v0 + 22) (vI h v0 42) (g_Mo_42 T kv0).1, if_pos ⟨rfl, rfl⟩])
            have o116 : vI h5i111 v0 41 = (vI h v0 41) + 1 := (by rw [ih5i111 v0 41, if_pos ⟨rfl, rfl⟩])
            have o117 := g_Mo_e22 T kv0 (vI h v0 42)
            have o118 := g_Mo_3 T kv0
            have o119 : vA h5i111 (v0 + 12) v1 = vA h (v0 + 12) v1 := (by rw [ah5i111 (v0 + 12) v1, gr2i111_1 (v0 + 12) v1 s0, if_neg (fun z => absurd z.1 (by omega)), if_neg (fun z => absurd z.1 (by omega)), gr11i109_2 (v0 + 12) v1])
            have o120 := g_Mo_42 T kv0
            have o121 := g_Mo_e12 T kv0 v1
            refine qk_mono (ih (v0) (v1) (v2) ((v3 + 1)) h5i111 Th5i111 kv0 wM s0 s1 (zz_72bcbc58f7 o114) (by show vA h5i111 (v0 + 22) (vI h5i111 v0 42) ≤ vI h5i111 v0 41; have qc1 : vI h5i111 v0 42 = (vI h v0 42) := (by rw [ih5i111 v0 42, if_neg (fun z => absurd z.2 (by decide)), gr2i111_0 v0 42, gr11i109_0 v0 42 (by omega)]); rw [qc1]; exact zz_f54652bfe2 o115 o112 o116 hc o113 o117) (zz_8c6aae1ddf o116 hl o118 cc1 o113) n0_ n1_ (zz_cea4584d83 k0 km) (zz_c60b4c2b78 o114 k0 km) (zz_18643b1e90 k1 n1_ cc1 k0 km) (by show 300 * vI h5i111 v0 42 + vA h5i111 (v0 + 22) (vI h5i111 v0 42) = vA h5i111 (v0 + 12) v1 + (v3 + 1); have qc1 : vI h5i111 v0 42 = (vI h v0 42) := (by rw [ih5i111 v0 42, if_neg (fun z => absurd z.2 (by decide)), gr2i111_0 v0 42, gr11i109_0 v0 42 (by omega)]); rw [qc1]; exact zz_ef5a34e4fb o115 o112 o119 mo o120 o117 o121 k0 km) hN (zz_1bb889580e o114 ab hms hq1 cc1 hq2 hq3)) ?_
            rintro hz ⟨Tz, g0, g1, g2, g3, g4, g5, g6, g7, g8, g9⟩
            try dsimp only at *
            have qh42_g0 : vI h5i111 v0 42 = (vI h v0 42) := by rw [ih5i111 v0 42, if_neg (fun z => absurd z.2 (by decide)), gr2i111_0 v0 42, gr11i109_0 v0 42 (by omega)]
            rw [qh42_g0] at g2
            rw [qh42_g0] at g3
            rw [qh42_g0] at g6
            rw [qh42_g0] at g8
            have o123 := g_Mo_41 Tz kv0
            have o124 : vI h5i111 v0 3 = vI h v0 3 := (by rw [ih5i111 v0 3, if_neg (fun z => absurd z.2 (by decide)), gr2i111_0 v0 3, gr11i109_0 v0 3 (by omega)])
            have o125 := g_Mo_e22 Tz kv0 (vI h v0 42)
            exact ⟨Tz, (by clear ih; show ∀ a k, ¬ (a = v0 ∧ (k = 5 ∨ k = 48 ∨ k = 41)) → vI hz a k = vI h a k; intro a k n0; rw [g0 a k (by omega), ih5i111, if_neg (by omega), gr2i111_0 a k, gr11i109_0 a k (by omega)]), (by clear ih; show ∀ a j, 0 ≤ j → ¬ (a = v0 + 11 ∨ a = v0 + 22 ∨ a = v0 + 28) → vA hz a j = vA h a j; intro a j j0 n0; rw [g1 a j j0 (by omega), ah5i111, gr2i111_1 a j j0, if_neg (by omega), if_neg (by omega), gr11i109_2 a j]), (by clear ih; show ∀ j, 0 ≤ j → j ≠ vI h v0 42 → vA hz (v0 + 22) j = vA h (v0 + 22) j; intro j j0 n0; rw [g2 j j0 n0, ah5i111 (v0 + 22) j, gr2i111_1 (v0 + 22) j j0, if_neg (fun z => absurd z.2 (zz_946771669d n0)), if_neg (fun z => absurd z.1 (by omega)), gr11i109_2 (v0 + 22) j]), (by clear ih; show ∀ j, 0 ≤ j → (j < (300 * vI h v0 42 + vA h (v0 + 22) (vI h v0 42)) ∨ 300 * vI h v0 42 + 300 ≤ j) → vA hz (v0 + 28) j = vA h (v0 + 28) j; intro j j0 n0; rw [g3 j j0 (zz_9dc3e8833e o115 o112 n0 o120 o117), ah5i111 (v0 + 28) j, gr2i111_1 (v0 + 28) j j0, if_neg (fun z => absurd z.1 (by omega)), if_neg (fun z => absurd z.2 (zz_cee1d7865c o112 g6 o115 o123 n0 o120 o117)), gr11i109_2 (v0 + 28) j]), (by clear ih; show ∀ j, 0 ≤ j → j ≠ v1 → vA hz (v0 + 11) j = vA h (v0 + 11) j; intro j j0 n0; rw [g4 j j0 n0, ah5i111 (v0 + 11) j, gr2i111_1 (v0 + 11) j j0, if_neg (fun z => absurd z.1 (by omega)), if_neg (fun z => absurd z.1 (by omega)), gr11i109_2 (v0 + 11) j]), (zz_a5143cc316 g5 o116 o124 o113), (zz_159c870883 g6 o115 o112 o117), (zz_90b9611921 o116 g7 o113), (zz_3e1d7f49dd g8 o120 o125), (zz_21402187de g9 o119 n0_ n1_ o121)⟩
          · skip
            refine qk_if (fun cc126 => ?_) (fun cc126 => ?_)
            · skip
              unfold f_Mod_exchange_244
              refine r_Mo_41 T kv0 ?_
              intro x1i127 ex1i127 lx1i127 ux1i127
              subst ex1i127
              refine r_Mo_o T kv0 ?_
              refine c_Mod_wrong (v0 := v0) (v1 := (vI h v0 41)) T kv0 wM ?_
              intro r3i127 Tr3i127 gr3i127_0 gr3i127_1 gr3i127_2
              unfold f_Mod_exchange_252
              refine r_Mo_o Tr3i127 kv0 ?_
              have o129 : vA r3i127 (v0 + 22) (vI h v0 42) = vA h (v0 + 22) (vI h v0 42) := (by rw [gr3i127_2 (v0 + 22) (vI h v0 42)])
              have o130 := g_Mo_41 T kv0
              refine c_Mod_keep (v0 := v0) (v1 := (yr2i109)) Tr3i127 kv0 wM (zz_a910293429 cc126) (zz_462f0fbb08 cc126) (by show vA r3i127 (v0 + 22) (vI r3i127 v0 42) ≤ 260; have qc1 : vI r3i127 v0 42 = (vI h v0 42) := (by rw [gr3i127_0 v0 42 (by omega)]); rw [qc1]; exact zz_cc4ff5f1a7 o129 hc o130) ?_
              intro r2i128 Tr2i128 gr2i128_0 gr2i128_1
              have qh42_gr2i128_0 : vI r3i127 v0 42 = (vI h v0 42) := by rw [gr3i127_0 v0 42 (by omega)]
              rw [qh42_gr2i128_0] at gr2i128_1
              refine qk_bs ?_
              refine r_Mo_41 Tr2i128 kv0 ?_
              intro x4i128 ex4i128 lx4i128 ux4i128
              have sx4i128 : (vI h v0 41) = x4i128 := (ex4i128.trans (by rw [gr2i128_0 v0 41, gr3i127_0 v0 41 (by omega)])).symm
              subst sx4i128
              refine w_Mo_41 Tr2i128 kv0 (wM _ (by omega) (by omega)) (zz_5664edf06b o130) (zz_72c91f6afd ab o130) ?_
              intro h5i128 Th5i128 ih5i128 ah5i128
              have o131 : vI h5i128 v0 48 = 1 := (by rw [ih5i128 v0 48, if_neg (fun z => absurd z.2 (by decide)), gr2i128_0 v0 48, gr3i127_1])
              have o132 : vA h5i128 (v0 + 22) (vI h v0 42) = (vA r3i127 (v0 + 22) (vI h v0 42)) + 1 := (by rw [ah5i128 (v0 + 22) (vI h v0 42), gr2i128_1 (v0 + 22) (vI h v0 42) (g_Mo_42 T kv0).1, if_pos ⟨rfl, rfl⟩])
              have o133 : vI h5i128 v0 41 = (vI h v0 41) + 1 := (by rw [ih5i128 v0 41, if_pos ⟨rfl, rfl⟩])
              have o134 := g_Mo_e22 T kv0 (vI h v0 42)
              have o135 := g_Mo_3 T kv0
              have o136 : vA h5i128 (v0 + 12) v1 = vA h (v0 + 12) v1 := (by rw [ah5i128 (v0 + 12) v1, gr2i128_1 (v0 + 12) v1 s0, if_neg (fun z => absurd z.1 (by omega)), if_neg (fun z => absurd z.1 (by omega)), gr3i127_2 (v0 + 12) v1])
              have o137 := g_Mo_42 T kv0
              have o138 := g_Mo_e12 T kv0 v1
              refine qk_mono (ih (v0) (v1) (v2) ((v3 + 1)) h5i128 Th5i128 kv0 wM s0 s1 (zz_72bcbc58f7 o131) (by show vA h5i128 (v0 + 22) (vI h5i128 v0 42) ≤ vI h5i128 v0 41; have qc1 : vI h5i128 v0 42 = (vI h v0 42) := (by rw [ih5i128 v0 42, if_neg (fun z => absurd z.2 (by decide)), gr2i128_0 v0 42, gr3i127_0 v0 42 (by omega)]); rw [qc1]; exact zz_f54652bfe2 o132 o129 o133 hc o130 o134) (zz_c740e3330a o133 o135 gr2i109_2 cc126 o130) n0_ n1_ (zz_cea4584d83 k0 km) (zz_c60b4c2b78 o131 k0 km) (zz_18643b1e90 k1 n1_ cc1 k0 km) (by show 300 * vI h5i128 v0 42 + vA h5i128 (v0 + 22) (vI h5i128 v0 42) = vA h5i128 (v0 + 12) v1 + (v3 + 1); have qc1 : vI h5i128 v0 42 = (vI h v0 42) := (by rw [ih5i128 v0 42, if_neg (fun z => absurd z.2 (by decide)), gr2i128_0 v0 42, gr3i127_0 v0 42 (by omega)]); rw [qc1]; exact zz_ef5a34e4fb o132 o129 o136 mo o137 o134 o138 k0 km) hN (zz_73e40b9380 o131 hms hq1 gr2i109_3 cc1 cc126 hq2 hq3)) ?_
              rintro hz ⟨Tz, g0, g1, g2, g3, g4, g5, g6, g7, g8, g9⟩
              try dsimp only at *
              have qh42_g0 : vI h5i128 v0 42 = (vI h v0 42) := by rw [ih5i128 v0 42, if_neg (fun z => absurd z.2 (by decide)), gr2i128_0 v0 42, gr3i127_0 v0 42 (by omega)]
              rw [qh42_g0] at g2
              rw [qh42_g0] at g3
              rw [qh42_g0] at g6
              rw [qh42_g0] at g8
              have o140 := g_Mo_41 Tz kv0
              have o141 : vI h5i128 v0 3 = vI h v0 3 := (by rw [ih5i128 v0 3, if_neg (fun z => absurd z.2 (by decide)), gr2i128_0 v0 3, gr3i127_0 v0 3 (by omega)])
              have o142 := g_Mo_e22 Tz kv0 (vI h v0 42)
              exact ⟨Tz, (by clear ih; show ∀ a k, ¬ (a = v0 ∧ (k = 5 ∨ k = 48 ∨ k = 41)) → vI hz a k = vI h a k; intro a k n0; rw [g0 a k (by omega), ih5i128, if_neg (by omega), gr2i128_0 a k, gr3i127_0 a k (by omega)]), (by clear ih; show ∀ a j, 0 ≤ j → ¬ (a = v0 + 11 ∨ a = v0 + 22 ∨ a = v0 + 28) → vA hz a j = vA h a j; intro a j j0 n0; rw [g1 a j j0 (by omega), ah5i128, gr2i128_1 a j j0, if_neg (by omega), if_neg (by omega), gr3i127_2 a j]), (by clear ih; show ∀ j, 0 ≤ j → j ≠ vI h v0 42 → vA hz (v0 + 22) j = vA h (v0 + 22) j; intro j j0 n0; rw [g2 j j0 n0, ah5i128 (v0 + 22) j, gr2i128_1 (v0 + 22) j j0, if_neg (fun z => absurd z.2 (zz_946771669d n0)), if_neg (fun z => absurd z.1 (by omega)), gr3i127_2 (v0 + 22) j]), (by clear ih; show ∀ j, 0 ≤ j → (j < (300 * vI h v0 42 + vA h (v0 + 22) (vI h v0 42)) ∨ 300 * vI h v0 42 + 300 ≤ j) → vA hz (v0 + 28) j = vA h (v0 + 28) j; intro j j0 n0; rw [g3 j j0 (zz_9dc3e8833e o132 o129 n0 o137 o134), ah5i128 (v0 + 28) j, gr2i128_1 (v0 + 28) j j0, if_neg (fun z => absurd z.1 (by omega)), if_neg (fun z => absurd z.2 (zz_cee1d7865c o129 g6 o132 o140 n0 o137 o134)), gr3i127_2 (v0 + 28) j]), (by clear ih; show ∀ j, 0 ≤ j → j ≠ v1 → vA hz (v0 + 11) j = vA h (v0 + 11) j; intro j j0 n0; rw [g4 j j0 n0, ah5i128 (v0 + 11) j, gr2i128_1 (v0 + 11) j j0, if_neg (fun z => absurd z.1 (by omega)), if_neg (fun z => absurd z.1 (by omega)), gr3i127_2 (v0 + 11) j]), (zz_a5143cc316 g5 o133 o141 o130), (zz_159c870883 g6 o132 o129 o134), (zz_90b9611921 o133 g7 o130), (zz_3e1d7f49dd g8 o137 o142), (zz_21402187de g9 o136 n0_ n1_ o138)⟩
            · skip
              refine qk_if (fun cc143 => ?_) (fun cc143 => ?_)
              · skip
                unfold f_Mod_exchange_244
                refine r_Mo_41 T kv0 ?_
                intro x1i144 ex1i144 lx1i144 ux1i144
                subst ex1i144
                refine r_Mo_o T kv0 ?_
                refine c_Mod_wrong (v0 := v0) (v1 := (vI h v0 41)) T kv0 wM ?_
                intro r3i144 Tr3i144 gr3i144_0 gr3i144_1 gr3i144_2
                unfold f_Mod_exchange_252
                refine r_Mo_o Tr3i144 kv0 ?_
                have o146 : vA r3i144 (v0 + 22) (vI h v0 42) = vA h (v0 + 22) (vI h v0 42) := (by rw [gr3i144_2 (v0 + 22) (vI h v0 42)])
                have o147 := g_Mo_41 T kv0
                refine c_Mod_keep (v0 := v0) (v1 := (yr2i109)) Tr3i144 kv0 wM (zz_8c2a257ba7 cc143) (zz_6bd0cf1b3d cc143) (by show vA r3i144 (v0 + 22) (vI r3i144 v0 42) ≤ 260; have qc1 : vI r3i144 v0 42 = (vI h v0 42) := (by rw [gr3i144_0 v0 42 (by omega)]); rw [qc1]; exact zz_cc4ff5f1a7 o146 hc o147) ?_
                intro r2i145 Tr2i145 gr2i145_0 gr2i145_1
                have qh42_gr2i145_0 : vI r3i144 v0 42 = (vI h v0 42) := by rw [gr3i144_0 v0 42 (by omega)]
                rw [qh42_gr2i145_0] at gr2i145_1
                refine qk_bs ?_
                refine r_Mo_41 Tr2i145 kv0 ?_
                intro x4i145 ex4i145 lx4i145 ux4i145
                have sx4i145 : (vI h v0 41) = x4i145 := (ex4i145.trans (by rw [gr2i145_0 v0 41, gr3i144_0 v0 41 (by omega)])).symm
                subst sx4i145
                refine w_Mo_41 Tr2i145 kv0 (wM _ (by omega) (by omega)) (zz_5664edf06b o147) (zz_72c91f6afd ab o147) ?_
                intro h5i145 Th5i145 ih5i145 ah5i145
                have o148 : vI h5i145 v0 48 = 1 := (by rw [ih5i145 v0 48, if_neg (fun z => absurd z.2 (by decide)), gr2i145_0 v0 48, gr3i144_1])
                have o149 : vA h5i145 (v0 + 22) (vI h v0 42) = (vA r3i144 (v0 + 22) (vI h v0 42)) + 1 := (by rw [ah5i145 (v0 + 22) (vI h v0 42), gr2i145_1 (v0 + 22) (vI h v0 42) (g_Mo_42 T kv0).1, if_pos ⟨rfl, rfl⟩])
                have o150 : vI h5i145 v0 41 = (vI h v0 41) + 1 := (by rw [ih5i145 v0 41, if_pos ⟨rfl, rfl⟩])
                have o151 := g_Mo_e22 T kv0 (vI h v0 42)
                have o152 := g_Mo_3 T kv0
                have o153 : vA h5i145 (v0 + 12) v1 = vA h (v0 + 12) v1 := (by rw [ah5i145 (v0 + 12) v1, gr2i145_1 (v0 + 12) v1 s0, if_neg (fun z => absurd z.1 (by omega)), if_neg (fun z => absurd z.1 (by omega)), gr3i144_2 (v0 + 12) v1])
                have o154 := g_Mo_42 T kv0
                have o155 := g_Mo_e12 T kv0 v1
                refine qk_mono (ih (v0) (v1) (v2) ((v3 + 1)) h5i145 Th5i145 kv0 wM s0 s1 (zz_72bcbc58f7 o148) (by show vA h5i145 (v0 + 22) (vI h5i145 v0 42) ≤ vI h5i145 v0 41; have qc1 : vI h5i145 v0 42 = (vI h v0 42) := (by rw [ih5i145 v0 42, if_neg (fun z => absurd z.2 (by decide)), gr2i145_0 v0 42, gr3i144_0 v0 42 (by omega)]); rw [qc1]; exact zz_f54652bfe2 o149 o146 o150 hc o147 o151) (zz_f10b8af160 o150 o152 gr2i109_2 cc143 o147) n0_ n1_ (zz_cea4584d83 k0 km) (zz_c60b4c2b78 o148 k0 km) (zz_18643b1e90 k1 n1_ cc1 k0 km) (by show 300 * vI h5i145 v0 42 + vA h5i145 (v0 + 22) (vI h5i145 v0 42) = vA h5i145 (v0 + 12) v1 + (v3 + 1); have qc1 : vI h5i145 v0 42 = (vI h v0 42) := (by rw [ih5i145 v0 42, if_neg (fun z => absurd z.2 (by decide)), gr2i145_0 v0 42, gr3i144_0 v0 42 (by omega)]); rw [qc1]; exact zz_ef5a34e4fb o149 o146 o153 mo o154 o151 o155 k0 km) hN (zz_8846049fc9 o148 hms hq1 gr2i109_3 cc1 cc143 hq2 hq3)) ?_
                rintro hz ⟨Tz, g0, g1, g2, g3, g4, g5, g6, g7, g8, g9⟩
                try dsimp only at *
                have qh42_g0 : vI h5i145 v0 42 = (vI h v0 42) := by rw [ih5i145 v0 42, if_neg (fun z => absurd z.2 (by decide)), gr2i145_0 v0 42, gr3i144_0 v0 42 (by omega)]
                rw [qh42_g0] at g2
                rw [qh42_g0] at g3
                rw [qh42_g0] at g6
                rw [qh42_g0] at g8
                have o157 := g_Mo_41 Tz kv0
                have o158 : vI h5i145 v0 3 = vI h v0 3 := (by rw [ih5i145 v0 3, if_neg (fun z => absurd z.2 (by decide)), gr2i145_0 v0 3, gr3i144_0 v0 3 (by omega)])
                have o159 := g_Mo_e22 Tz kv0 (vI h v0 42)
                exact ⟨Tz, (by clear ih; show ∀ a k, ¬ (a = v0 ∧ (k = 5 ∨ k = 48 ∨ k = 41)) → vI hz a k = vI h a k; intro a k n0; rw [g0 a k (by omega), ih5i145, if_neg (by omega), gr2i145_0 a k, gr3i144_0 a k (by omega)]), (by clear ih; show ∀ a j, 0 ≤ j → ¬ (a = v0 + 11 ∨ a = v0 + 22 ∨ a = v0 + 28) → vA hz a j = vA h a j; intro a j j0 n0; rw [g1 a j j0 (by omega), ah5i145, gr2i145_1 a j j0, if_neg (by omega), if_neg (by omega), gr3i144_2 a j]), (by clear ih; show ∀ j, 0 ≤ j → j ≠ vI h v0 42 → vA hz (v0 + 22) j = vA h (v0 + 22) j; intro j j0 n0; rw [g2 j j0 n0, ah5i145 (v0 + 22) j, gr2i145_1 (v0 + 22) j j0, if_neg (fun z => absurd z.2 (zz_946771669d n0)), if_neg (fun z => absurd z.1 (by omega)), gr3i144_2 (v0 + 22) j]), (by clear ih; show ∀ j, 0 ≤ j → (j < (300 * vI h v0 42 + vA h (v0 + 22) (vI h v0 42)) ∨ 300 * vI h v0 42 + 300 ≤ j) → vA hz (v0 + 28) j = vA h (v0 + 28) j; intro j j0 n0; rw [g3 j j0 (zz_9dc3e8833e o149 o146 n0 o154 o151), ah5i145 (v0 + 28) j, gr2i145_1 (v0 + 28) j j0, if_neg (fun z => absurd z.1 (by omega)), if_neg (fun z => absurd z.2 (zz_cee1d7865c o146 g6 o149 o157 n0 o154 o151)), gr3i144_2 (v0 + 28) j]), (by clear ih; show ∀ j, 0 ≤ j → j ≠ v1 → vA hz (v0 + 11) j = vA h (v0 + 11) j; intro j j0 n0; rw [g4 j j0 n0, ah5i145 (v0 + 11) j, gr2i145_1 (v0 + 11) j j0, if_neg (fun z => absurd z.1 (by omega)), if_neg (fun z => absurd z.1 (by omega)), gr3i144_2 (v0 + 11) j]), (zz_a5143cc316 g5 o150 o158 o147), (zz_159c870883 g6 o149 o146 o151), (zz_90b9611921 o150 g7 o147), (zz_3e1d7f49dd g8 o154 o159), (zz_21402187de g9 o153 n0_ n1_ o155)⟩
              · skip
                refine qk_if (fun cc160 => ?_) (fun cc160 => ?_)
                · skip
                  unfold f_Mod_exchange_244
                  refine r_Mo_41 T kv0 ?_
                  intro x1i161 ex1i161 lx1i161 ux1i161
                  subst ex1i161
                  refine r_Mo_o T kv0 ?_
                  refine c_Mod_wrong (v0 := v0) (v1 := (vI h v0 41)) T kv0 wM ?_
                  intro r3i161 Tr3i161 gr3i161_0 gr3i161_1 gr3i161_2
                  unfold f_Mod_exchange_252
                  refine r_Mo_o Tr3i161 kv0 ?_
                  have o163 : vA r3i161 (v0 + 22) (vI h v0 42) = vA h (v0 + 22) (vI h v0 42) := (by rw [gr3i161_2 (v0 + 22) (vI h v0 42)])
                  have o164 := g_Mo_41 T kv0
                  refine c_Mod_keep (v0 := v0) (v1 := (yr2i109)) Tr3i161 kv0 wM (zz_68802f2aaa cc160) (zz_b0bef9a10e cc160) (by show vA r3i161 (v0 + 22) (vI r3i161 v0 42) ≤ 260; have qc1 : vI r3i161 v0 42 = (vI h v0 42) := (by rw [gr3i161_0 v0 42 (by omega)]); rw [qc1]; exact zz_cc4ff5f1a7 o163 hc o164) ?_
                  intro r2i162 Tr2i162 gr2i162_0 gr2i162_1
                  have qh42_gr2i162_0 : vI r3i161 v0 42 = (vI h v0 42) := by rw [gr3i161_0 v0 42 (by omega)]
                  rw [qh42_gr2i162_0] at gr2i162_1
                  refine qk_bs ?_
                  refine r_Mo_41 Tr2i162 kv0 ?_
                  intro x4i162 ex4i162 lx4i162 ux4i162
                  have sx4i162 : (vI h v0 41) = x4i162 := (ex4i162.trans (by rw [gr2i162_0 v0 41, gr3i161_0 v0 41 (by omega)])).symm
                  subst sx4i162
                  refine w_Mo_41 Tr2i162 kv0 (wM _ (by omega) (by omega)) (zz_5664edf06b o164) (zz_72c91f6afd ab o164) ?_
                  intro h5i162 Th5i162 ih5i162 ah5i162
                  have o165 : vI h5i162 v0 48 = 1 := (by rw [ih5i162 v0 48, if_neg (fun z => absurd z.2 (by decide)), gr2i162_0 v0 48, gr3i161_1])
                  have o166 : vA h5i162 (v0 + 22) (vI h v0 42) = (vA r3i161 (v0 + 22) (vI h v0 42)) + 1 := (by rw [ah5i162 (v0 + 22) (vI h v0 42), gr2i162_1 (v0 + 22) (vI h v0 42) (g_Mo_42 T kv0).1, if_pos ⟨rfl, rfl⟩])
                  have o167 : vI h5i162 v0 41 = (vI h v0 41) + 1 := (by rw [ih5i162 v0 41, if_pos ⟨rfl, rfl⟩])
                  have o168 := g_Mo_e22 T kv0 (vI h v0 42)
                  have o169 := g_Mo_3 T kv0
                  have o170 : vA h5i162 (v0 + 12) v1 = vA h (v0 + 12) v1 := (by rw [ah5i162 (v0 + 12) v1, gr2i162_1 (v0 + 12) v1 s0, if_neg (fun z => absurd z.1 (by omega)), if_neg (fun z => absurd z.1 (by omega)), gr3i161_2 (v0 + 12) v1])
                  have o171 := g_Mo_42 T kv0
                  have o172 := g_Mo_e12 T kv0 v1
                  refine qk_mono (ih (v0) (v1) (v2) ((v3 + 1)) h5i162 Th5i162 kv0 wM s0 s1 (zz_72bcbc58f7 o165) (by show vA h5i162 (v0 + 22) (vI h5i162 v0 42) ≤ vI h5i162 v0 41; have qc1 : vI h5i162 v0 42 = (vI h v0 42) := (by rw [ih5i162 v0 42, if_neg (fun z => absurd z.2 (by decide)), gr2i162_0 v0 42, gr3i161_0 v0 42 (by omega)]); rw [qc1]; exact zz_f54652bfe2 o166 o163 o167 hc o164 o168) (zz_89290bbe16 o167 o169 gr2i109_2 cc160 o164) n0_ n1_ (zz_cea4584d83 k0 km) (zz_c60b4c2b78 o165 k0 km) (zz_18643b1e90 k1 n1_ cc1 k0 km) (by show 300 * vI h5i162 v0 42 + vA h5i162 (v0 + 22) (vI h5i162 v0 42) = vA h5i162 (v0 + 12) v1 + (v3 + 1); have qc1 : vI h5i162 v0 42 = (vI h v0 42) := (by rw [ih5i162 v0 42, if_neg (fun z => absurd z.2 (by decide)), gr2i162_0 v0 42, gr3i161_0 v0 42 (by omega)]); rw [qc1]; exact zz_ef5a34e4fb o166 o163 o170 mo o171 o168 o172 k0 km) hN (zz_25ed52cd76 gr5_1 gr2i109_2 gr5_4 cc99 gr2i109_4 cc160)) ?_
                  rintro hz ⟨Tz, g0, g1, g2, g3, g4, g5, g6, g7, g8, g9⟩
                  try dsimp only at *
                  have qh42_g0 : vI h5i162 v0 42 = (vI h v0 42) := by rw [ih5i162 v0 42, if_neg (fun z => absurd z.2 (by decide)), gr2i162_0 v0 42, gr3i161_0 v0 42 (by omega)]
                  rw [qh42_g0] at g2
                  rw [qh42_g0] at g3
                  rw [qh42_g0] at g6
                  rw [qh42_g0] at g8
                  have o174 := g_Mo_41 Tz kv0
                  have o175 : vI h5i162 v0 3 = vI h v0 3 := (by rw [ih5i162 v0 3, if_neg (fun z => absurd z.2 (by decide)), gr2i162_0 v0 3, gr3i161_0 v0 3 (by omega)])
                  have o176 := g_Mo_e22 Tz kv0 (vI h v0 42)
                  exact ⟨Tz, (by clear ih; show ∀ a k, ¬ (a = v0 ∧ (k = 5 ∨ k = 48 ∨ k = 41)) → vI hz a k = vI h a k; intro a k n0; rw [g0 a k (by omega), ih5i162, if_neg (by omega), gr2i162_0 a k, gr3i161_0 a k (by omega)]), (by clear ih; show ∀ a j, 0 ≤ j → ¬ (a = v0 + 11 ∨ a = v0 + 22 ∨ a = v0 + 28) → vA hz a j = vA h a j; intro a j j0 n0; rw [g1 a j j0 (by omega), ah5i162, gr2i162_1 a j j0, if_neg (by omega), if_neg (by omega), gr3i161_2 a j]), (by clear ih; show ∀ j, 0 ≤ j → j ≠ vI h v0 42 → vA hz (v0 + 22) j = vA h (v0 + 22) j; intro j j0 n0; rw [g2 j j0 n0, ah5i162 (v0 + 22) j, gr2i162_1 (v0 + 22) j j0, if_neg (fun z => absurd z.2 (zz_946771669d n0)), if_neg (fun z => absurd z.1 (by omega)), gr3i161_2 (v0 + 22) j]), (by clear ih; show ∀ j, 0 ≤ j → (j < (300 * vI h v0 42 + vA h (v0 + 22) (vI h v0 42)) ∨ 300 * vI h v0 42 + 300 ≤ j) → vA hz (v0 + 28) j = vA h (v0 + 28) j; intro j j0 n0; rw [g3 j j0 (zz_9dc3e8833e o166 o163 n0 o171 o168), ah5i162 (v0 + 28) j, gr2i162_1 (v0 + 28) j j0, if_neg (fun z => absurd z.1 (by omega)), if_neg (fun z => absurd z.2 (zz_cee1d7865c o163 g6 o166 o174 n0 o171 o168)), gr3i161_2 (v0 + 28) j]), (by clear ih; show ∀ j, 0 ≤ j → j ≠ v1 → vA hz (v0 + 11) j = vA h (v0 + 11) j; intro j j0 n0; rw [g4 j j0 n0, ah5i162 (v0 + 11) j, gr2i162_1 (v0 + 11) j j0, if_neg (fun z => absurd z.1 (by omega)), if_neg (fun z => absurd z.1 (by omega)), gr3i161_2 (v0 + 11) j]), (zz_a5143cc316 g5 o167 o175 o164), (zz_159c870883 g6 o166 o163 o168), (zz_90b9611921 o167 g7 o164), (zz_3e1d7f49dd g8 o171 o176), (zz_21402187de g9 o170 n0_ n1_ o172)⟩
                · skip
                  refine qk_if (fun cc177 => ?_) (fun cc177 => ?_)
                  · skip
                    unfold f_Mod_exchange_244
                    refine r_Mo_41 T kv0 ?_
                    intro x1i178 ex1i178 lx1i178 ux1i178
                    subst ex1i178
                    refine r_Mo_o T kv0 ?_
                    refine c_Mod_wrong (v0 := v0) (v1 := (vI h v0 41)) T kv0 wM ?_
                    intro r3i178 Tr3i178 gr3i178_0 gr3i178_1 gr3i178_2
                    unfold f_Mod_exchange_252
                    refine r_Mo_o Tr3i178 kv0 ?_
                    have o180 : vA r3i178 (v0 + 22) (vI h v0 42) = vA h (v0 + 22) (vI h v0 42) := (by rw [gr3i178_2 (v0 + 22) (vI h v0 42)])
                    have o181 := g_Mo_41 T kv0
                    refine c_Mod_keep (v0 := v0) (v1 := (yr2i109)) Tr3i178 kv0 wM (zz_265a939049 gr2i109_0) (zz_26ae85129d gr2i109_0) (by show vA r3i178 (v0 + 22) (vI r3i178 v0 42) ≤ 260; have qc1 : vI r3i178 v0 42 = (vI h v0 42) := (by rw [gr3i178_0 v0 42 (by omega)]); rw [qc1]; exact zz_cc4ff5f1a7 o180 hc o181) ?_
                    intro r2i179 Tr2i179 gr2i179_0 gr2i179_1
                    have qh42_gr2i179_0 : vI r3i178 v0 42 = (vI h v0 42) := by rw [gr3i178_0 v0 42 (by omega)]
                    rw [qh42_gr2i179_0] at gr2i179_1
                    refine qk_bs ?_
                    refine r_Mo_41 Tr2i179 kv0 ?_
                    intro x4i179 ex4i179 lx4i179 ux4i179
                    have sx4i179 : (vI h v0 41) = x4i179 := (ex4i179.trans (by rw [gr2i179_0 v0 41, gr3i178_0 v0 41 (by omega)])).symm
                    subst sx4i179
                    refine w_Mo_41 Tr2i179 kv0 (wM _ (by omega) (by omega)) (zz_5664edf06b o181) (zz_72c91f6afd ab o181) ?_
                    intro h5i179 Th5i179 ih5i179 ah5i179
                    have o182 : vI h5i179 v0 48 = 1 := (by rw [ih5i179 v0 48, if_neg (fun z => absurd z.2 (by decide)), gr2i179_0 v0 48, gr3i178_1])
                    have o183 : vA h5i179 (v0 + 22) (vI h v0 42) = (vA r3i178 (v0 + 22) (vI h v0 42)) + 1 := (by rw [ah5i179 (v0 + 22) (vI h v0 42), gr2i179_1 (v0 + 22) (vI h v0 42) (g_Mo_42 T kv0).1, if_pos ⟨rfl, rfl⟩])
                    have o184 : vI h5i179 v0 41 = (vI h v0 41) + 1 := (by rw [ih5i179 v0 41, if_pos ⟨rfl, rfl⟩])
                    have o185 := g_Mo_e22 T kv0 (vI h v0 42)
                    have o186 : vA h5i179 (v0 + 12) v1 = vA h (v0 + 12) v1 := (by rw [ah5i179 (v0 + 12) v1, gr2i179_1 (v0 + 12) v1 s0, if_neg (fun z => absurd z.1 (by omega)), if_neg (fun z => absurd z.1 (by omega)), gr3i178_2 (v0 + 12) v1])
                    have o187 := g_Mo_42 T kv0
                    have o188 := g_Mo_e12 T kv0 v1
                    refine qk_mono (ih (v0) (v1) (v2) ((v3 + 1)) h5i179 Th5i179 kv0 wM s0 s1 (zz_72bcbc58f7 o182) (by show vA h5i179 (v0 + 22) (vI h5i179 v0 42) ≤ vI h5i179 v0 41; have qc1 : vI h5i179 v0 42 = (vI h v0 42) := (by rw [ih5i179 v0 42, if_neg (fun z => absurd z.2 (by decide)), gr2i179_0 v0 42, gr3i178_0 v0 42 (by omega)]); rw [qc1]; exact zz_f54652bfe2 o183 o180 o184 hc o181 o185) (zz_646853efa5 o184 gr2i109_3 cc110 o181) n0_ n1_ (zz_dca3156ea5 k0 cc177 km) (zz_63f0a3af1b o182 n0_ cc177 n1_) (zz_dfdcbd8a5a cc177 n1_ k0) (by show 300 * vI h5i179 v0 42 + vA h5i179 (v0 + 22) (vI h5i179 v0 42) = vA h5i179 (v0 + 12) v1 + (v3 + 1); have qc1 : vI h5i179 v0 42 = (vI h v0 42) := (by rw [ih5i179 v0 42, if_neg (fun z => absurd z.2 (by decide)), gr2i179_0 v0 42, gr3i178_0 v0 42 (by omega)]); rw [qc1]; exact zz_9628d28879 o183 o180 o186 mo o187 o185 o188 k0 cc177 km) hN (zz_ed025be86d o182 hms hq1 gr2i109_3 cc1 cc110 hq2 hq3)) ?_
                    rintro hz ⟨Tz, g0, g1, g2, g3, g4, g5, g6, g7, g8, g9⟩
                    try dsimp only at *
                    have qh42_g0 : vI h5i179 v0 42 = (vI h v0 42) := by rw [ih5i179 v0 42, if_neg (fun z => absurd z.2 (by decide)), gr2i179_0 v0 42, gr3i178_0 v0 42 (by omega)]
                    rw [qh42_g0] at g2
                    rw [qh42_g0] at g3
                    rw [qh42_g0] at g6
                    rw [qh42_g0] at g8
                    have o190 := g_Mo_41 Tz kv0
                    have o191 : vI h5i179 v0 3 = vI h v0 3 := (by rw [ih5i179 v0 3, if_neg (fun z => absurd z.2 (by decide)), gr2i179_0 v0 3, gr3i178_0 v0 3 (by omega)])
                    have o192 := g_Mo_e22 Tz kv0 (vI h v0 42)
                    exact ⟨Tz, (by clear ih; show ∀ a k, ¬ (a = v0 ∧ (k = 5 ∨ k = 48 ∨ k = 41)) → vI hz a k = vI h a k; intro a k n0; rw [g0 a k (by omega), ih5i179, if_neg (by omega), gr2i179_0 a k, gr3i178_0 a k (by omega)]), (by clear ih; show ∀ a j, 0 ≤ j → ¬ (a = v0 + 11 ∨ a = v0 + 22 ∨ a = v0 + 28) → vA hz a j = vA h a j; intro a j j0 n0; rw [g1 a j j0 (by omega), ah5i179, gr2i179_1 a j j0, if_neg (by omega), if_neg (by omega), gr3i178_2 a j]), (by clear ih; show ∀ j, 0 ≤ j → j ≠ vI h v0 42 → vA hz (v0 + 22) j = vA h (v0 + 22) j; intro j j0 n0; rw [g2 j j0 n0, ah5i179 (v0 + 22) j, gr2i179_1 (v0 + 22) j j0, if_neg (fun z => absurd z.2 (zz_946771669d n0)), if_neg (fun z => absurd z.1 (by omega)), gr3i178_2 (v0 + 22) j]), (by clear ih; show ∀ j, 0 ≤ j → (j < (300 * vI h v0 42 + vA h (v0 + 22) (vI h v0 42)) ∨ 300 * vI h v0 42 + 300 ≤ j) → vA hz (v0 + 28) j = vA h (v0 + 28) j; intro j j0 n0; rw [g3 j j0 (zz_9dc3e8833e o183 o180 n0 o187 o185), ah5i179 (v0 + 28) j, gr2i179_1 (v0 + 28) j j0, if_neg (fun z => absurd z.1 (by omega)), if_neg (fun z => absurd z.2 (zz_cee1d7865c o180 g6 o183 o190 n0 o187 o185)), gr3i178_2 (v0 + 28) j]), (by clear ih; show ∀ j, 0 ≤ j → j ≠ v1 → vA hz (v0 + 11) j = vA h (v0 + 11) j; intro j j0 n0; rw [g4 j j0 n0, ah5i179 (v0 + 11) j, gr2i179_1 (v0 + 11) j j0, if_neg (fun z => absurd z.1 (by omega)), if_neg (fun z => absurd z.1 (by omega)), gr3i178_2 (v0 + 11) j]), (zz_a5143cc316 g5 o184 o191 o181), (zz_159c870883 g6 o183 o180 o185), (zz_90b9611921 o184 g7 o181), (zz_3e1d7f49dd g8 o187 o192), (zz_21402187de g9 o186 n0_ n1_ o188)⟩
                  · skip
                    unfold f_Mod_exchange_252
                    refine r_Mo_o T kv0 ?_
                    have o194 := g_Mo_41 T kv0
                    refine c_Mod_keep (v0 := v0) (v1 := (yr2i109)) T kv0 wM (zz_265a939049 gr2i109_0) (zz_26ae85129d gr2i109_0) (zz_b4b1647785 hc o194) ?_
                    intro r2i193 Tr2i193 gr2i193_0 gr2i193_1
                    refine qk_bs ?_
                    refine r_Mo_41 Tr2i193 kv0 ?_
                    intro x4i193 ex4i193 lx4i193 ux4i193
                    have sx4i193 : (vI h v0 41) = x4i193 := (ex4i193.trans (by rw [gr2i193_0 v0 41])).symm
                    subst sx4i193
                    refine w_Mo_41 Tr2i193 kv0 (wM _ (by omega) (by omega)) (zz_5664edf06b o194) (zz_72c91f6afd ab o194) ?_
                    intro h5i193 Th5i193 ih5i193 ah5i193
                    have o195 : vI h5i193 v0 41 = (vI h v0 41) + 1 := (by rw [ih5i193 v0 41, if_pos ⟨rfl, rfl⟩])
                    have o196 : vI h5i193 v0 3 = vI h v0 3 := (by rw [ih5i193 v0 3, if_neg (fun z => absurd z.2 (by decide)), gr2i193_0 v0 3])
                    have o197 : vA h5i193 (v0 + 22) (vI h v0 42) = (vA h (v0 + 22) (vI h v0 42)) + 1 := (by rw [ah5i193 (v0 + 22) (vI h v0 42), gr2i193_1 (v0 + 22) (vI h v0 42) (g_Mo_42 T kv0).1, if_pos ⟨rfl, rfl⟩])
                    have o198 := g_Mo_e22 T kv0 (vI h v0 42)
                    have o199 : vA h5i193 (v0 + 12) v1 = vA h (v0 + 12) v1 := (by rw [ah5i193 (v0 + 12) v1, gr2i193_1 (v0 + 12) v1 s0, if_neg (fun z => absurd z.1 (by omega)), if_neg (fun z => absurd z.1 (by omega))])
                    have o200 := g_Mo_42 T kv0
                    have o201 := g_Mo_e12 T kv0 v1
                    refine qk_mono (ih (v0) (v1) (v2) ((v3 + 1)) h5i193 Th5i193 kv0 wM s0 s1 (zz_ddd39f7a20 o195 o196 gr2i109_2 cc110 o194) (by show vA h5i193 (v0 + 22) (vI h5i193 v0 42) ≤ vI h5i193 v0 41; have qc1 : vI h5i193 v0 42 = (vI h v0 42) := (by rw [ih5i193 v0 42, if_neg (fun z => absurd z.2 (by decide)), gr2i193_0 v0 42]); rw [qc1]; exact zz_e0bdb35105 o197 o195 hc o194 o198) (zz_646853efa5 o195 gr2i109_3 cc110 o194) n0_ n1_ (zz_cea4584d83 k0 km) (zz_e2fdb7105f k1 cc1 cc177 k0 km) (zz_18643b1e90 k1 n1_ cc1 k0 km) (by show 300 * vI h5i193 v0 42 + vA h5i193 (v0 + 22) (vI h5i193 v0 42) = vA h5i193 (v0 + 12) v1 + (v3 + 1); have qc1 : vI h5i193 v0 42 = (vI h v0 42) := (by rw [ih5i193 v0 42, if_neg (fun z => absurd z.2 (by decide)), gr2i193_0 v0 42]); rw [qc1]; exact zz_76c9121b04 o197 o199 mo o200 o198 o201 k0 km) hN (zz_b707699252 o195 ab hms hq1 cc1 hq2 hq3 o194)) ?_
                    rintro hz ⟨Tz, g0, g1, g2, g3, g4, g5, g6, g7, g8, g9⟩
                    try dsimp only at *
                    have qh42_g0 : vI h5i193 v0 42 = (vI h v0 42) := by rw [ih5i193 v0 42, if_neg (fun z => absurd z.2 (by decide)), gr2i193_0 v0 42]
                    rw [qh42_g0] at g2
                    rw [qh42_g0] at g3
                    rw [qh42_g0] at g6
                    rw [qh42_g0] at g8
                    have o203 := g_Mo_41 Tz kv0
                    have o204 := g_Mo_e22 Tz kv0 (vI h v0 42)
                    exact ⟨Tz, (by clear ih; show ∀ a k, ¬ (a = v0 ∧ (k = 5 ∨ k = 48 ∨ k = 41)) → vI hz a k = vI h a k; intro a k n0; rw [g0 a k (by omega), ih5i193, if_neg (by omega), gr2i193_0 a k]), (by clear ih; show ∀ a j, 0 ≤ j → ¬ (a = v0 + 11 ∨ a = v0 + 22 ∨ a = v0 + 28) → vA hz a j = vA h a j; intro a j j0 n0; rw [g1 a j j0 (by omega), ah5i193, gr2i193_1 a j j0, if_neg (by omega), if_neg (by omega)]), (by clear ih; show ∀ j, 0 ≤ j → j ≠ vI h v0 42 → vA hz (v0 + 22) j = vA h (v0 + 22) j; intro j j0 n0; rw [g2 j j0 n0, ah5i193 (v0 + 22) j, gr2i193_1 (v0 + 22) j j0, if_neg (fun z => absurd z.2 (zz_946771669d n0)), if_neg (fun z => absurd z.1 (by omega))]), (by clear ih; show ∀ j, 0 ≤ j → (j < (300 * vI h v0 42 + vA h (v0 + 22) (vI h v0 42)) ∨ 300 * vI h v0 42 + 300 ≤ j) → vA hz (v0 + 28) j = vA h (v0 + 28) j; intro j j0 n0; rw [g3 j j0 (zz_d5e09a6e7f o197 n0 o200 o198), ah5i193 (v0 + 28) j, gr2i193_1 (v0 + 28) j j0, if_neg (fun z => absurd z.1 (by omega)), if_neg (fun z => absurd z.2 (zz_dd9c00b3fd g6 o197 o203 n0 o200 o198))]), (by clear ih; show ∀ j, 0 ≤ j → j ≠ v1 → vA hz (v0 + 11) j = vA h (v0 + 11) j; intro j j0 n0; rw [g4 j j0 n0, ah5i193 (v0 + 11) j, gr2i193_1 (v0 + 11) j j0, if_neg (fun z => absurd z.1 (by omega)), if_neg (fun z => absurd z.1 (by omega))]), (zz_a5143cc316 g5 o195 o196 o194), (zz_926e2567f5 g6 o197 o198), (zz_90b9611921 o195 g7 o194), (zz_3e1d7f49dd g8 o200 o204), (zz_21402187de g9 o199 n0_ n1_ o201)⟩
    · skip
      unfold f_Mod_exchange_274
      refine r_Mo_41 T kv0 ?_
      intro x1i205 ex1i205 lx1i205 ux1i205
      subst ex1i205
      have o206 := g_Mo_41 T kv0
      refine w_Mo_41 T kv0 (wM _ (by omega) (by omega)) (zz_5664edf06b o206) (zz_72c91f6afd ab o206) ?_
      intro h2i205 Th2i205 ih2i205 ah2i205
      refine r_Mo_16 Th2i205 kv0 ?_
      refine r_Mo_o Th2i205 kv0 ?_
      refine c_Mod_stored (v0 := v0) Th2i205 kv0 ?_
      intro yr5i205 gr5i205_0
      have qh42_gr5i205_0 : vI h2i205 v0 42 = (vI h v0 42) := by rw [ih2i205 v0 42, if_neg (fun z => absurd z.2 (by decide))]
      rw [qh42_gr5i205_0] at gr5i205_0
      dsimp only
      have o207 := g_Mo_42 T kv0
      have o208 : vA h2i205 (v0 + 22) (vI h v0 42) = vA h (v0 + 22) (vI h v0 42) := (by rw [ah2i205 (v0 + 22) (vI h v0 42)])
      have o209 := g_Mo_e22 T kv0 (vI h v0 42)
      refine w_Mo_e11 Th2i205 kv0 (wM _ (by omega) (by omega)) s0 s1 (zz_5c2d5e4809 gr5i205_0 o207 o208 o209) (zz_cfc7a49901 gr5i205_0 o207 o208 o209) ?_
      intro h6i205 Th6i205 ih6i205 ah6i205
      refine qk_some ?_
      have o210 : vI h6i205 v0 48 = vI h v0 48 := (by rw [ih6i205 v0 48, ih2i205 v0 48, if_neg (fun z => absurd z.2 (by decide))])
      have o211 : vA h6i205 (v0 + 22) (vI h v0 42) = vA h (v0 + 22) (vI h v0 42) := (by rw [ah6i205 (v0 + 22) (vI h v0 42) (g_Mo_42 T kv0).1, if_neg (fun z => absurd z.1 (by omega)), ah2i205 (v0 + 22) (vI h v0 42)])
      have o212 : vI h6i205 v0 41 = (vI h v0 41) + 1 := (by rw [ih6i205 v0 41, ih2i205 v0 41, if_pos ⟨rfl, rfl⟩])
      have o213 : vA h6i205 (v0 + 11) v1 = yr5i205 := (by rw [ah6i205 (v0 + 11) v1 s0, if_pos ⟨rfl, rfl⟩])
      have o214 := g_Mo_e12 T kv0 v1
      exact ⟨Th6i205, (by clear ih; show ∀ a k, ¬ (a = v0 ∧ (k = 5 ∨ k = 48 ∨ k = 41)) → vI h6i205 a k = vI h a k; intro a k n0; rw [ih6i205, ih2i205, if_neg (by omega)]), (by clear ih; show ∀ a j, 0 ≤ j → ¬ (a = v0 + 11 ∨ a = v0 + 22 ∨ a = v0 + 28) → vA h6i205 a j = vA h a j; intro a j j0 n0; rw [ah6i205 a j j0, if_neg (by omega), ah2i205]), (by clear ih; show ∀ j, 0 ≤ j → j ≠ vI h v0 42 → vA h6i205 (v0 + 22) j = vA h (v0 + 22) j; intro j j0 n0; rw [ah6i205 (v0 + 22) j j0, if_neg (fun z => absurd z.1 (by omega)), ah2i205 (v0 + 22) j]), (by clear ih; show ∀ j, 0 ≤ j → (j < (300 * vI h v0 42 + vA h (v0 + 22) (vI h v0 42)) ∨ 300 * vI h v0 42 + 300 ≤ j) → vA h6i205 (v0 + 28) j = vA h (v0 + 28) j; intro j j0 n0; rw [ah6i205 (v0 + 28) j j0, if_neg (fun z => absurd z.1 (by omega)), ah2i205 (v0 + 28) j]), (by clear ih; show ∀ j, 0 ≤ j → j ≠ v1 → vA h6i205 (v0 + 11) j = vA h (v0 + 11) j; intro j j0 n0; rw [ah6i205 (v0 + 11) j j0, if_neg (fun z => absurd z.2 (zz_946771669d n0)), ah2i205 (v0 + 11) j]), (zz_0de0e8ed46 o210 cc1), (zz_2a5cdb1247 o211 o212 hc o206), (zz_f3d52f0c13 o212 ab o206), (zz_fa851e07c4 o213 o211 gr5i205_0 o208 o207 o209), (zz_3dd66cb384 o210 cc1 o214 n0_ n1_)⟩
theorem p_Mod_exchange_174 {L : q_L} {W : Nat → Prop} {h0 : z_H} {π : Nat → Nat → Option Nat} {N : Nat} {h : z_H} {v0 : Nat} {v1 : Int32} {v2 : Int32} {v3 : Int32} (T : q_U L W h0 π h) (kv0 : q_M L π v0) (wM : ∀ a, v0 ≤ a → a < v0 + 46 → W a) (s0 : 0 ≤ v1) (s1 : v1 < 80) (hl : vI h v0 48 = 0 → vI h v0 41 ≤ vI h v0 3) (hc : vA h (v0 + 22) (vI h v0 42) ≤ vI h v0 41) (ab : vI h v0 41 ≤ 244) (n0_ : 0 ≤ v2) (n1_ : v2 ≤ 300) (k0 : 0 ≤ v3) (k1 : vI h v0 48 = 0 → v3 ≤ v2) (km : v3 ≤ 301) (mo : 300 * vI h v0 42 + vA h (v0 + 22) (vI h v0 42) = vA h (v0 + 12) v1 + v3) (hN : 100000 ≤ N) : qk (f_Mod_exchange_174 N  N v0 v1 v2 v3 h) (fun r => q_U L W h0 π r ∧ (∀ a k, ¬ (a = v0 ∧ (k = 5 ∨ k = 48 ∨ k = 41)) → vI r a k = vI h a k) ∧ (∀ a j, 0 ≤ j → ¬ (a = v0 + 11 ∨ a = v0 + 22 ∨ a = v0 + 28) → vA r a j = vA h a j) ∧ (∀ j, 0 ≤ j → j ≠ vI h v0 42 → vA r (v0 + 22) j = vA h (v0 + 22) j) ∧ (∀ j, 0 ≤ j → (j < (300 * vI h v0 42 + vA h (v0 + 22) (vI h v0 42)) ∨ 300 * vI h v0 42 + 300 ≤ j) → vA r (v0 + 28) j = vA h (v0 + 28) j) ∧ (∀ j, 0 ≤ j → j ≠ v1 → vA r (v0 + 11) j = vA h (v0 + 11) j) ∧ (vI r v0 48 = 0 → vI h v0 41 < vI r v0 41 ∧ vI r v0 41 ≤ vI h v0 3) ∧ (vA h (v0 + 22) (vI h v0 42) ≤ vA r (v0 + 22) (vI h v0 42) ∧ vA r (v0 + 22) (vI h v0 42) ≤ vI r v0 41) ∧ (vI h v0 41 ≤ vI r v0 41 ∧ vI r v0 41 ≤ 246) ∧ (vA r (v0 + 11) v1 = 300 * vI h v0 42 + vA r (v0 + 22) (vI h v0 42)) ∧ (vI r v0 48 = 0 → vA r (v0 + 11) v1 = vA h (v0 + 12) v1 + v2)) := by
  have hq := q_qnN hN
  have rg_at := g_Mo_41 T kv0
  refine p_Mod_exchange_174_n (q_lo (M := 301) (by decide) (by decide)) N v0 v1 v2 v3 h T kv0 wM s0 s1 hl hc ab n0_ n1_ k0 k1 km mo hN ?_ 
  show 301 - q_n N ≤ _
  rw [hq]
  split <;> lia
