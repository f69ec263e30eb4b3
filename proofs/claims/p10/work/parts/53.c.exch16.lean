theorem zz_deec5978d5 {a1 a2 a3 a4 a5 a6 : Int32} (h0 : a1 = a2 + 1) (h1 : a3 = a4) (h2 : (a5 ≠ -1) → (a2 < a4)) (h3 : a5 = 47) (h4 : (0 ≤ a2) ∧ (a2 ≤ 250)) : (a6 = 0) → (a1 ≤ a3) := by simp only [Int32.le_iff_toInt_le, Int32.lt_iff_toInt_lt, ← Int32.toInt_inj, ne_eq] at *; have l0 : (1 : Int32).toInt = 1 := (by decide); have l1 : (-1 : Int32).toInt = -1 := (by decide); have l2 : (47 : Int32).toInt = 47 := (by decide); have l3 : (0 : Int32).toInt = 0 := (by decide); have l4 : (250 : Int32).toInt = 250 := (by decide); have s0 : (a2 + 1).toInt = a2.toInt + 1 := q_tA (by decide) (by omega) (by omega); omega
theorem zz_a5b8a749ee {a1 a2 : Int32} (h0 : a1 = a2 + 1) (h1 : a2 ≤ 242) (h2 : (0 ≤ a2) ∧ (a2 ≤ 250)) : a1 ≤ 244 := by simp only [Int32.le_iff_toInt_le, Int32.lt_iff_toInt_lt, ← Int32.toInt_inj, ne_eq] at *; have l0 : (1 : Int32).toInt = 1 := (by decide); have l1 : (242 : Int32).toInt = 242 := (by decide); have l2 : (0 : Int32).toInt = 0 := (by decide); have l3 : (250 : Int32).toInt = 250 := (by decide); have l4 : (244 : Int32).toInt = 244 := (by decide); have s0 : (a2 + 1).toInt = a2.toInt + 1 := q_tA (by decide) (by omega) (by omega); omega
theorem zz_d6592f534e {a1 a2 a3 a4 a5 : Int32} (h0 : a1 ≤ (300 * a2) + a3) (h1 : a4 = (300 * a2) + a5) (h2 : a5 = a3) (h3 : (0 ≤ a2) ∧ (a2 ≤ 1)) (h4 : (0 ≤ a3) ∧ (a3 ≤ 299)) (h5 : 0 ≤ a4) (h6 : a4 ≤ 600) (h7 : (0 ≤ a1) ∧ (a1 ≤ 600)) : 0 ≤ a4 - a1 := by simp only [Int32.le_iff_toInt_le, Int32.lt_iff_toInt_lt, ← Int32.toInt_inj, ne_eq] at *; have l0 : (300 : Int32).toInt = 300 := (by decide); have l1 : (0 : Int32).toInt = 0 := (by decide); have l2 : (1 : Int32).toInt = 1 := (by decide); have l3 : (299 : Int32).toInt = 299 := (by decide); have l4 : (600 : Int32).toInt = 600 := (by decide); have s0 : (300 * a2).toInt = 300 * a2.toInt := q_tM (by decide) (by omega) (by omega); have s1 : ((300 * a2) + a3).toInt = (300 * a2).toInt + a3.toInt := q_tA rfl (by omega) (by omega); have s2 : ((300 * a2) + a5).toInt = (300 * a2).toInt + a5.toInt := q_tA rfl (by omega) (by omega); have s3 : (a4 - a1).toInt = a4.toInt - a1.toInt := q_tS rfl (by omega) (by omega); omega
theorem zz_90cc52f7ab {a1 a2 a3 a4 a5 : Int32} (h0 : 300 * a1 ≤ a2) (h1 : (0 ≤ a3) ∧ (a3 ≤ 299)) (h2 : a4 = (300 * a1) + a5) (h3 : a5 = a3) (h4 : (0 ≤ a1) ∧ (a1 ≤ 1)) (h5 : 0 ≤ a4) (h6 : a4 ≤ 600) (h7 : (0 ≤ a2) ∧ (a2 ≤ 600)) : a4 - a2 ≤ 300 := by simp only [Int32.le_iff_toInt_le, Int32.lt_iff_toInt_lt, ← Int32.toInt_inj, ne_eq] at *; have l0 : (300 : Int32).toInt = 300 := (by decide); have l1 : (0 : Int32).toInt = 0 := (by decide); have l2 : (299 : Int32).toInt = 299 := (by decide); have l3 : (1 : Int32).toInt = 1 := (by decide); have l4 : (600 : Int32).toInt = 600 := (by decide); have s0 : (300 * a1).toInt = 300 * a1.toInt := q_tM (by decide) (by omega) (by omega); have s1 : ((300 * a1) + a5).toInt = (300 * a1).toInt + a5.toInt := q_tA rfl (by omega) (by omega); have s2 : (a4 - a2).toInt = a4.toInt - a2.toInt := q_tS rfl (by omega) (by omega); omega
theorem zz_b75a9a1357 {a1 a2 a3 a4 a5 a6 : Int32} (h0 : a1 ≤ (300 * a2) + a3) (h1 : a4 = (300 * a2) + a5) (h2 : a5 = a3) (h3 : (0 ≤ a2) ∧ (a2 ≤ 1)) (h4 : (0 ≤ a3) ∧ (a3 ≤ 299)) (h5 : 0 ≤ a4) (h6 : a4 ≤ 600) (h7 : (0 ≤ a1) ∧ (a1 ≤ 600)) : (a6 = 0) → (0 ≤ a4 - a1) := by simp only [Int32.le_iff_toInt_le, Int32.lt_iff_toInt_lt, ← Int32.toInt_inj, ne_eq] at *; have l0 : (300 : Int32).toInt = 300 := (by decide); have l1 : (0 : Int32).toInt = 0 := (by decide); have l2 : (1 : Int32).toInt = 1 := (by decide); have l3 : (299 : Int32).toInt = 299 := (by decide); have l4 : (600 : Int32).toInt = 600 := (by decide); have s0 : (300 * a2).toInt = 300 * a2.toInt := q_tM (by decide) (by omega) (by omega); have s1 : ((300 * a2) + a3).toInt = (300 * a2).toInt + a3.toInt := q_tA rfl (by omega) (by omega); have s2 : ((300 * a2) + a5).toInt = (300 * a2).toInt + a5.toInt := q_tA rfl (by omega) (by omega); have s3 : (a4 - a1).toInt = a4.toInt - a1.toInt := q_tS rfl (by omega) (by omega); omega
theorem zz_c498c22b3f {a1 a2 a3 a4 a5 a6 : Int32} (h0 : a1 = a2) (h1 : a3 = a4) (h2 : a4 = (300 * a5) + a6) (h3 : a6 = a2) (h4 : (0 ≤ a5) ∧ (a5 ≤ 1)) (h5 : (0 ≤ a2) ∧ (a2 ≤ 299)) (h6 : 0 ≤ a4) (h7 : a4 ≤ 600) : (300 * a5) + a1 = a3 + 0 := by simp only [Int32.le_iff_toInt_le, Int32.lt_iff_toInt_lt, ← Int32.toInt_inj, ne_eq] at *; have l0 : (300 : Int32).toInt = 300 := (by decide); have l1 : (0 : Int32).toInt = 0 := (by decide); have l2 : (1 : Int32).toInt = 1 := (by decide); have l3 : (299 : Int32).toInt = 299 := (by decide); have l4 : (600 : Int32).toInt = 600 := (by decide); have s0 : (300 * a5).toInt = 300 * a5.toInt := q_tM (by decide) (by omega) (by omega); have s1 : ((300 * a5) + a6).toInt = (300 * a5).toInt + a6.toInt := q_tA rfl (by omega) (by omega); have s2 : ((300 * a5) + a1).toInt = (300 * a5).toInt + a1.toInt := q_tA rfl (by omega) (by omega); have s3 : (a3 + 0).toInt = a3.toInt + 0 := q_tA (by decide) (by omega) (by omega); omega
theorem zz_61161f2204 {a1 a2 a3 : Int32} (h0 : a1 = a2 + 1) (h1 : (a1 ≤ a3) ∧ (a3 ≤ 246)) (h2 : (0 ≤ a2) ∧ (a2 ≤ 250)) : (a2 ≤ a3) ∧ (a3 ≤ 248) := by simp only [Int32.le_iff_toInt_le, Int32.lt_iff_toInt_lt, ← Int32.toInt_inj, ne_eq] at *; have l0 : (1 : Int32).toInt = 1 := (by decide); have l1 : (246 : Int32).toInt = 246 := (by decide); have l2 : (0 : Int32).toInt = 0 := (by decide); have l3 : (250 : Int32).toInt = 250 := (by decide); have l4 : (248 : Int32).toInt = 248 := (by decide); have s0 : (a2 + 1).toInt = a2.toInt + 1 := q_tA (by decide) (by omega) (by omega); omega
theorem zz_49f0953ed1 {a1 a2 a3 a4 a5 a6 a7 a8 a9 a10 : Int32} (h0 : a1 = a2) (h1 : a3 ≤ (300 * a4) + a5) (h2 : a2 = (300 * a4) + a6) (h3 : a6 = a5) (h4 : a7 = (300 * a4) + a8) (h5 : (a9 = 0) → (a7 = a10 + (a2 - a3))) (h6 : a10 = a2) (h7 : 0 ≤ a2) (h8 : a2 ≤ 600) (h9 : (0 ≤ a3) ∧ (a3 ≤ 600)) (h10 : (0 ≤ a4) ∧ (a4 ≤ 1)) (h11 : (0 ≤ a8) ∧ (a8 ≤ 299)) (h12 : (0 ≤ a5) ∧ (a5 ≤ 299)) : (a9 = 0) → ((a3 ≤ a1) ∧ ((a7 = a1 + (a1 - a3)) ∧ (a7 = (300 * a4) + a8))) := by simp only [Int32.le_iff_toInt_le, Int32.lt_iff_toInt_lt, ← Int32.toInt_inj, ne_eq] at *; have l0 : (300 : Int32).toInt = 300 := (by decide); have l1 : (0 : Int32).toInt = 0 := (by decide); have l2 : (600 : Int32).toInt = 600 := (by decide); have l3 : (1 : Int32).toInt = 1 := (by decide); have l4 : (299 : Int32).toInt = 299 := (by decide); have s0 : (300 * a4).toInt = 300 * a4.toInt := q_tM (by decide) (by omega) (by omega); have s1 : ((300 * a4) + a5).toInt = (300 * a4).toInt + a5.toInt := q_tA rfl (by omega) (by omega); have s2 : ((300 * a4) + a6).toInt = (300 * a4).toInt + a6.toInt := q_tA rfl (by omega) (by omega); have s3 : ((300 * a4) + a8).toInt = (300 * a4).toInt + a8.toInt := q_tA rfl (by omega) (by omega); have s4 : (a2 - a3).toInt = a2.toInt - a3.toInt := q_tS rfl (by omega) (by omega); have s5 : (a10 + (a2 - a3)).toInt = a10.toInt + (a2 - a3).toInt := q_tA rfl (by omega) (by omega); have s6 : (a1 - a3).toInt = a1.toInt - a3.toInt := q_tS rfl (by omega) (by omega); have s7 : (a1 + (a1 - a3)).toInt = a1.toInt + (a1 - a3).toInt := q_tA rfl (by omega) (by omega); omega
theorem zz_92ad2bc9b2 {a1 : Int32} (h0 : a1 = -1) : a1 ≤ 126 := by simp only [Int32.le_iff_toInt_le, Int32.lt_iff_toInt_lt, ← Int32.toInt_inj, ne_eq] at *; have l0 : (-1 : Int32).toInt = -1 := (by decide); have l1 : (126 : Int32).toInt = 126 := (by decide); omega
theorem zz_e53193f026 {a1 a2 : Int32} (h0 : a1 = a2) (h1 : a2 ≤ 242) : a1 ≤ 245 := by simp only [Int32.le_iff_toInt_le, Int32.lt_iff_toInt_lt, ← Int32.toInt_inj, ne_eq] at *; have l0 : (242 : Int32).toInt = 242 := (by decide); have l1 : (245 : Int32).toInt = 245 := (by decide); omega
theorem zz_b98d7d364b {a1 a2 a3 : Int32} (h0 : a1 = a2) (h1 : a2 ≤ a3) (h2 : a3 ≤ 242) : a1 ≤ 245 := by simp only [Int32.le_iff_toInt_le, Int32.lt_iff_toInt_lt, ← Int32.toInt_inj, ne_eq] at *; have l0 : (242 : Int32).toInt = 242 := (by decide); have l1 : (245 : Int32).toInt = 245 := (by decide); omega
theorem zz_de4e9ec17f {a1 a2 a3 a4 : Int32} (h0 : a1 = 1) (h1 : (a2 = 0) → (a1 = 0)) : (a2 = 0) → (a3 ≤ a4) := by simp only [Int32.le_iff_toInt_le, Int32.lt_iff_toInt_lt, ← Int32.toInt_inj, ne_eq] at *; have l0 : (1 : Int32).toInt = 1 := (by decide); have l1 : (0 : Int32).toInt = 0 := (by decide); omega
theorem zz_bd7ae6d45f {a1 a2 a3 a4 a5 a6 : Int32} (h0 : a1 = a2) (h1 : a3 = a4) (h2 : a2 ≤ a4) (h3 : a5 = a3 + 1) (h4 : a6 = a1 + 1) (h5 : (0 ≤ a2) ∧ (a2 ≤ 299)) (h6 : (0 ≤ a4) ∧ (a4 ≤ 250)) : a6 ≤ a5 := by simp only [Int32.le_iff_toInt_le, Int32.lt_iff_toInt_lt, ← Int32.toInt_inj, ne_eq] at *; have l0 : (1 : Int32).toInt = 1 := (by decide); have l1 : (0 : Int32).toInt = 0 := (by decide); have l2 : (299 : Int32).toInt = 299 := (by decide); have l3 : (250 : Int32).toInt = 250 := (by decide); have s0 : (a3 + 1).toInt = a3.toInt + 1 := q_tA (by decide) (by omega) (by omega); have s1 : (a1 + 1).toInt = a1.toInt + 1 := q_tA (by decide) (by omega) (by omega); omega
theorem zz_b23b43592a {a1 a2 a3 a4 a5 : Int32} (h0 : a1 = a2) (h1 : (a3 = 0) → (a2 ≤ a4)) (h2 : (0 ≤ a4) ∧ (a4 ≤ 240)) (h3 : a5 = a1 + 1) (h4 : a3 = 0) (h5 : (0 ≤ a2) ∧ (a2 ≤ 250)) : a5 ≤ 242 := by simp only [Int32.le_iff_toInt_le, Int32.lt_iff_toInt_lt, ← Int32.toInt_inj, ne_eq] at *; have l0 : (0 : Int32).toInt = 0 := (by decide); have l1 : (240 : Int32).toInt = 240 := (by decide); have l2 : (1 : Int32).toInt = 1 := (by decide); have l3 : (250 : Int32).toInt = 250 := (by decide); have l4 : (242 : Int32).toInt = 242 := (by decide); have s0 : (a1 + 1).toInt = a1.toInt + 1 := q_tA (by decide) (by omega) (by omega); omega
theorem zz_548c269c5c {a1 a2 a3 : Int32} (h0 : a1 = a2) (h1 : 300 * a3 ≤ a2) (h2 : (0 ≤ a3) ∧ (a3 ≤ 1)) : 300 * a3 ≤ a1 := by simp only [Int32.le_iff_toInt_le, Int32.lt_iff_toInt_lt, ← Int32.toInt_inj, ne_eq] at *; have l0 : (300 : Int32).toInt = 300 := (by decide); have l1 : (0 : Int32).toInt = 0 := (by decide); have l2 : (1 : Int32).toInt = 1 := (by decide); have s0 : (300 * a3).toInt = 300 * a3.toInt := q_tM (by decide) (by omega) (by omega); omega
theorem zz_fa8a8c0e54 {a1 a2 a3 a4 a5 a6 : Int32} (h0 : a1 = a2) (h1 : a3 = a4) (h2 : a2 ≤ (300 * a5) + a4) (h3 : a6 = a3 + 1) (h4 : (0 ≤ a4) ∧ (a4 ≤ 299)) (h5 : (0 ≤ a5) ∧ (a5 ≤ 1)) (h6 : a6 = a3 + 1) : a1 ≤ (300 * a5) + a6 := by simp only [Int32.le_iff_toInt_le, Int32.lt_iff_toInt_lt, ← Int32.toInt_inj, ne_eq] at *; have l0 : (300 : Int32).toInt = 300 := (by decide); have l1 : (1 : Int32).toInt = 1 := (by decide); have l2 : (0 : Int32).toInt = 0 := (by decide); have l3 : (299 : Int32).toInt = 299 := (by decide); have s0 : (300 * a5).toInt = 300 * a5.toInt := q_tM (by decide) (by omega) (by omega); have s1 : ((300 * a5) + a4).toInt = (300 * a5).toInt + a4.toInt := q_tA rfl (by omega) (by omega); have s2 : (a3 + 1).toInt = a3.toInt + 1 := q_tA (by decide) (by omega) (by omega); have s3 : ((300 * a5) + a6).toInt = (300 * a5).toInt + a6.toInt := q_tA rfl (by omega) (by omega); omega
theorem zz_25f8daf474 {a1 a2 a3 a4 a5 a6 a7 : Int32} (h0 : a1 = a2) (h1 : a2 ≤ 242) (h2 : a3 ≤ (if a4 = 0 then a2 else 300)) (h3 : a5 ≤ a3 + 1) (h4 : a6 = a1 + 1) (h5 : a4 = 0) (h6 : (0 ≤ a2) ∧ (a2 ≤ 250)) (h7 : -100000 ≤ a3) (h8 : a3 ≤ 100000) : a5 ≤ (if a7 = 0 then a6 else 300) := by split at h2 <;> split <;> (simp only [Int32.le_iff_toInt_le, Int32.lt_iff_toInt_lt, ← Int32.toInt_inj, ne_eq] at *; have l0 : (242 : Int32).toInt = 242 := (by decide); have l1 : (0 : Int32).toInt = 0 := (by decide); have l2 : (300 : Int32).toInt = 300 := (by decide); have l3 : (1 : Int32).toInt = 1 := (by decide); have l4 : (250 : Int32).toInt = 250 := (by decide); have l5 : (-100000 : Int32).toInt = -100000 := (by decide); have l6 : (100000 : Int32).toInt = 100000 := (by decide); have s0 : (a3 + 1).toInt = a3.toInt + 1 := q_tA (by decide) (by omega) (by omega); have s1 : (a1 + 1).toInt = a1.toInt + 1 := q_tA (by decide) (by omega) (by omega); omega)
theorem zz_1db3176692 {a1 a2 a3 a4 a5 : Int32} (h0 : a1 = a2) (h1 : a3 = a1 + 1) (h2 : (a4 < (300 * a5) + a2) ∨ ((300 * a5) + 300 ≤ a4)) (h3 : (0 ≤ a5) ∧ (a5 ≤ 1)) (h4 : (0 ≤ a2) ∧ (a2 ≤ 299)) (h5 : a3 = a1 + 1) : (a4 < (300 * a5) + a3) ∨ ((300 * a5) + 300 ≤ a4) := by simp only [Int32.le_iff_toInt_le, Int32.lt_iff_toInt_lt, ← Int32.toInt_inj, ne_eq] at *; have l0 : (1 : Int32).toInt = 1 := (by decide); have l1 : (300 : Int32).toInt = 300 := (by decide); have l2 : (0 : Int32).toInt = 0 := (by decide); have l3 : (299 : Int32).toInt = 299 := (by decide); have s0 : (a1 + 1).toInt = a1.toInt + 1 := q_tA (by decide) (by omega) (by omega); have s1 : (300 * a5).toInt = 300 * a5.toInt := q_tM (by decide) (by omega) (by omega); have s2 : ((300 * a5) + a2).toInt = (300 * a5).toInt + a2.toInt := q_tA rfl (by omega) (by omega); have s3 : ((300 * a5) + 300).toInt = (300 * a5).toInt + 300 := q_tA (by decide) (by omega) (by omega); have s4 : ((300 * a5) + a3).toInt = (300 * a5).toInt + a3.toInt := q_tA rfl (by omega) (by omega); omega
theorem zz_f7b0d02e92 {a1 a2 a3 a4 a5 a6 a7 : Int32} (h0 : a1 = a2 + 1) (h1 : a2 = a3) (h2 : (a4 = 0) → ((a1 < a5) ∧ (a5 ≤ a6))) (h3 : a6 = a7) (h4 : (0 ≤ a3) ∧ (a3 ≤ 250)) : (a4 = 0) → ((a3 < a5) ∧ (a5 ≤ a7)) := by simp only [Int32.le_iff_toInt_le, Int32.lt_iff_toInt_lt, ← Int32.toInt_inj, ne_eq] at *; have l0 : (1 : Int32).toInt = 1 := (by decide); have l1 : (0 : Int32).toInt = 0 := (by decide); have l2 : (250 : Int32).toInt = 250 := (by decide); have s0 : (a2 + 1).toInt = a2.toInt + 1 := q_tA (by decide) (by omega) (by omega); omega
theorem zz_82a62601c9 {a1 a2 a3 a4 a5 : Int32} (h0 : a1 = a2 + 1) (h1 : a2 = a3) (h2 : (a1 ≤ a4) ∧ (a4 ≤ a5)) (h3 : (0 ≤ a3) ∧ (a3 ≤ 299)) : (a3 ≤ a4) ∧ (a4 ≤ a5) := by simp only [Int32.le_iff_toInt_le, Int32.lt_iff_toInt_lt, ← Int32.toInt_inj, ne_eq] at *; have l0 : (1 : Int32).toInt = 1 := (by decide); have l1 : (0 : Int32).toInt = 0 := (by decide); have l2 : (299 : Int32).toInt = 299 := (by decide); have s0 : (a2 + 1).toInt = a2.toInt + 1 := q_tA (by decide) (by omega) (by omega); omega
theorem zz_534a01e5a8 {a1 a2 a3 a4 : Int32} (h0 : a1 = a2 + 1) (h1 : a2 = a3) (h2 : (a1 ≤ a4) ∧ (a4 ≤ 248)) (h3 : (0 ≤ a3) ∧ (a3 ≤ 250)) : (a3 ≤ a4) ∧ (a4 ≤ 248) := by simp only [Int32.le_iff_toInt_le, Int32.lt_iff_toInt_lt, ← Int32.toInt_inj, ne_eq] at *; have l0 : (1 : Int32).toInt = 1 := (by decide); have l1 : (248 : Int32).toInt = 248 := (by decide); have l2 : (0 : Int32).toInt = 0 := (by decide); have l3 : (250 : Int32).toInt = 250 := (by decide); have s0 : (a2 + 1).toInt = a2.toInt + 1 := q_tA (by decide) (by omega) (by omega); omega
theorem zz_719ffd7a7b {a1 a2 a3 a4 a5 a6 a7 : Int32} (h0 : (a1 = 0) → ((a2 ≤ a3) ∧ ((a4 = a3 + (a3 - a2)) ∧ (a4 = (300 * a5) + a6)))) (h1 : a2 = a7) (h2 : (0 ≤ a3) ∧ (a3 ≤ 600)) (h3 : (0 ≤ a5) ∧ (a5 ≤ 1)) (h4 : (0 ≤ a6) ∧ (a6 ≤ 299)) (h5 : (0 ≤ a7) ∧ (a7 ≤ 600)) : (a1 = 0) → ((a7 ≤ a3) ∧ ((a4 = a3 + (a3 - a7)) ∧ (a4 = (300 * a5) + a6))) := by simp only [Int32.le_iff_toInt_le, Int32.lt_iff_toInt_lt, ← Int32.toInt_inj, ne_eq] at *; have l0 : (0 : Int32).toInt = 0 := (by decide); have l1 : (300 : Int32).toInt = 300 := (by decide); have l2 : (600 : Int32).toInt = 600 := (by decide); have l3 : (1 : Int32).toInt = 1 := (by decide); have l4 : (299 : Int32).toInt = 299 := (by decide); have s0 : (a3 - a2).toInt = a3.toInt - a2.toInt := q_tS rfl (by omega) (by omega); have s1 : (a3 + (a3 - a2)).toInt = a3.toInt + (a3 - a2).toInt := q_tA rfl (by omega) (by omega); have s2 : (300 * a5).toInt = 300 * a5.toInt := q_tM (by decide) (by omega) (by omega); have s3 : ((300 * a5) + a6).toInt = (300 * a5).toInt + a6.toInt := q_tA rfl (by omega) (by omega); have s4 : (a3 - a7).toInt = a3.toInt - a7.toInt := q_tS rfl (by omega) (by omega); have s5 : (a3 + (a3 - a7)).toInt = a3.toInt + (a3 - a7).toInt := q_tA rfl (by omega) (by omega); omega
theorem zz_2d810cccf6 {a1 a2 a3 a4 : Int32} (h0 : a1 = a2) (h1 : (a3 ≠ -1) → (a2 < 240)) (h2 : a4 = a1 + 1) (h3 : ¬ (a3 = -1)) (h4 : (0 ≤ a2) ∧ (a2 ≤ 250)) : a4 ≤ 242 := by simp only [Int32.le_iff_toInt_le, Int32.lt_iff_toInt_lt, ← Int32.toInt_inj, ne_eq] at *; have l0 : (-1 : Int32).toInt = -1 := (by decide); have l1 : (240 : Int32).toInt = 240 := (by decide); have l2 : (1 : Int32).toInt = 1 := (by decide); have l3 : (0 : Int32).toInt = 0 := (by decide); have l4 : (250 : Int32).toInt = 250 := (by decide); have l5 : (242 : Int32).toInt = 242 := (by decide); have s0 : (a1 + 1).toInt = a1.toInt + 1 := q_tA (by decide) (by omega) (by omega); omega
theorem zz_d749eeee3c {a1 a2 a3 a4 : Int32} (h0 : a1 = -1) (h1 : ¬ (a1 = -1)) : a2 ≤ (if a3 = 0 then a4 else 300) := by split <;> (simp only [Int32.le_iff_toInt_le, Int32.lt_iff_toInt_lt, ← Int32.toInt_inj, ne_eq] at *; have l0 : (-1 : Int32).toInt = -1 := (by decide); have l1 : (0 : Int32).toInt = 0 := (by decide); have l2 : (300 : Int32).toInt = 300 := (by decide); omega)
theorem zz_b87ea457ca {a1 a2 : Int32} (h0 : a1 = 10) (h1 : a1 = -1) : a2 ≤ 242 := by simp only [Int32.le_iff_toInt_le, Int32.lt_iff_toInt_lt, ← Int32.toInt_inj, ne_eq] at *; have l0 : (10 : Int32).toInt = 10 := (by decide); have l1 : (-1 : Int32).toInt = -1 := (by decide); have l2 : (242 : Int32).toInt = 242 := (by decide); omega
theorem zz_6de26f5e96 {a1 a2 a3 a4 : Int32} (h0 : a1 = 10) (h1 : a1 = -1) : a2 ≤ (if a3 = 0 then a4 else 300) := by split <;> (simp only [Int32.le_iff_toInt_le, Int32.lt_iff_toInt_lt, ← Int32.toInt_inj, ne_eq] at *; have l0 : (10 : Int32).toInt = 10 := (by decide); have l1 : (-1 : Int32).toInt = -1 := (by decide); have l2 : (0 : Int32).toInt = 0 := (by decide); have l3 : (300 : Int32).toInt = 300 := (by decide); omega)
theorem zz_5551669c43 {a1 : Int32} (h0 : a1 = 10) : a1 ≤ 126 := by simp only [Int32.le_iff_toInt_le, Int32.lt_iff_toInt_lt, ← Int32.toInt_inj, ne_eq] at *; have l0 : (10 : Int32).toInt = 10 := (by decide); have l1 : (126 : Int32).toInt = 126 := (by decide); omega
theorem zz_5aa0736916 {a1 a2 a3 a4 a5 : Int32} (h0 : a1 = a2) (h1 : (0 ≤ a3) ∧ (a3 ≤ 240)) (h2 : (a4 ≠ -1) → (a2 < a3)) (h3 : a5 = a1 + 1) (h4 : a4 = 10) (h5 : (0 ≤ a2) ∧ (a2 ≤ 250)) : a5 ≤ 242 := by simp only [Int32.le_iff_toInt_le, Int32.lt_iff_toInt_lt, ← Int32.toInt_inj, ne_eq] at *; have l0 : (0 : Int32).toInt = 0 := (by decide); have l1 : (240 : Int32).toInt = 240 := (by decide); have l2 : (-1 : Int32).toInt = -1 := (by decide); have l3 : (1 : Int32).toInt = 1 := (by decide); have l4 : (10 : Int32).toInt = 10 := (by decide); have l5 : (250 : Int32).toInt = 250 := (by decide); have l6 : (242 : Int32).toInt = 242 := (by decide); have s0 : (a1 + 1).toInt = a1.toInt + 1 := q_tA (by decide) (by omega) (by omega); omega
theorem zz_f0a3cf3089 {a1 a2 a3 a4 a5 a6 a7 a8 : Int32} (h0 : a1 = a2) (h1 : a3 ≤ (if a4 = 0 then a2 else 300)) (h2 : a5 ≤ a3 + 1) (h3 : (a6 ≠ -1) → (a2 < 240)) (h4 : a7 = a1 + 1) (h5 : a4 = 0) (h6 : a6 = 10) (h7 : (0 ≤ a2) ∧ (a2 ≤ 250)) (h8 : -100000 ≤ a3) (h9 : a3 ≤ 100000) : a5 ≤ (if a8 = 0 then a7 else 300) := by split at h1 <;> split <;> (simp only [Int32.le_iff_toInt_le, Int32.lt_iff_toInt_lt, ← Int32.toInt_inj, ne_eq] at *; have l0 : (0 : Int32).toInt = 0 := (by decide); have l1 : (300 : Int32).toInt = 300 := (by decide); have l2 : (1 : Int32).toInt = 1 := (by decide); have l3 : (-1 : Int32).toInt = -1 := (by decide); have l4 : (240 : Int32).toInt = 240 := (by decide); have l5 : (10 : Int32).toInt = 10 := (by decide); have l6 : (250 : Int32).toInt = 250 := (by decide); have l7 : (-100000 : Int32).toInt = -100000 := (by decide); have l8 : (100000 : Int32).toInt = 100000 := (by decide); have s0 : (a3 + 1).toInt = a3.toInt + 1 := q_tA (by decide) (by omega) (by omega); have s1 : (a1 + 1).toInt = a1.toInt + 1 := q_tA (by decide) (by omega) (by omega); omega)
theorem zz_0d8a5b58df {a1 a2 : Int32} (h0 : a1 = 92) (h1 : a1 = -1) : a2 ≤ 242 := by simp only [Int32.le_iff_toInt_le, Int32.lt_iff_toInt_lt, ← Int32.toInt_inj, ne_eq] at *; have l0 : (92 : Int32).toInt = 92 := (by decide); have l1 : (-1 : Int32).toInt = -1 := (by decide); have l2 : (242 : Int32).toInt = 242 := (by decide); omega
theorem zz_de2c277cb8 {a1 a2 a3 a4 : Int32} (h0 : a1 = 92) (h1 : a1 = -1) : a2 ≤ (if a3 = 0 then a4 else 300) := by split <;> (simp only [Int32.le_iff_toInt_le, Int32.lt_iff_toInt_lt, ← Int32.toInt_inj, ne_eq] at *; have l0 : (92 : Int32).toInt = 92 := (by decide); have l1 : (-1 : Int32).toInt = -1 := (by decide); have l2 : (0 : Int32).toInt = 0 := (by decide); have l3 : (300 : Int32).toInt = 300 := (by decide); omega)
theorem zz_c61a661ba8 {a1 : Int32} (h0 : a1 = 92) : a1 ≤ 126 := by simp only [Int32.le_iff_toInt_le, Int32.lt_iff_toInt_lt, ← Int32.toInt_inj, ne_eq] at *; have l0 : (92 : Int32).toInt = 92 := (by decide); have l1 : (126 : Int32).toInt = 126 := (by decide); omega
theorem zz_32f5387a69 {a1 a2 a3 a4 a5 : Int32} (h0 : a1 = a2) (h1 : (0 ≤ a3) ∧ (a3 ≤ 240)) (h2 : (a4 ≠ -1) → (a2 < a3)) (h3 : a5 = a1 + 1) (h4 : a4 = 92) (h5 : (0 ≤ a2) ∧ (a2 ≤ 250)) : a5 ≤ 242 := by simp only [Int32.le_iff_toInt_le, Int32.lt_iff_toInt_lt, ← Int32.toInt_inj, ne_eq] at *; have l0 : (0 : Int32).toInt = 0 := (by decide); have l1 : (240 : Int32).toInt = 240 := (by decide); have l2 : (-1 : Int32).toInt = -1 := (by decide); have l3 : (1 : Int32).toInt = 1 := (by decide); have l4 : (92 : Int32).toInt = 92 := (by decide); have l5 : (250 : Int32).toInt = 250 := (by decide); have l6 : (242 : Int32).toInt = 242 := (by decide); have s0 : (a1 + 1).toInt = a1.toInt + 1 := q_tA (by decide) (by omega) (by omega); omega
theorem zz_2539e59e0f {a1 a2 a3 a4 a5 a6 a7 a8 : Int32} (h0 : a1 = a2) (h1 : a3 ≤ (if a4 = 0 then a2 else 300)) (h2 : a5 ≤ a3 + 1) (h3 : (a6 ≠ -1) → (a2 < 240)) (h4 : a7 = a1 + 1) (h5 : a4 = 0) (h6 : a6 = 92) (h7 : (0 ≤ a2) ∧ (a2 ≤ 250)) (h8 : -100000 ≤ a3) (h9 : a3 ≤ 100000) : a5 ≤ (if a8 = 0 then a7 else 300) := by split at h1 <;> split <;> (simp only [Int32.le_iff_toInt_le, Int32.lt_iff_toInt_lt, ← Int32.toInt_inj, ne_eq] at *; have l0 : (0 : Int32).toInt = 0 := (by decide); have l1 : (300 : Int32).toInt = 300 := (by decide); have l2 : (1 : Int32).toInt = 1 := (by decide); have l3 : (-1 : Int32).toInt = -1 := (by decide); have l4 : (240 : Int32).toInt = 240 := (by decide); have l5 : (92 : Int32).toInt = 92 := (by decide); have l6 : (250 : Int32).toInt = 250 := (by decide); have l7 : (-100000 : Int32).toInt = -100000 := (by decide); have l8 : (100000 : Int32).toInt = 100000 := (by decide); have s0 : (a3 + 1).toInt = a3.toInt + 1 := q_tA (by decide) (by omega) (by omega); have s1 : (a1 + 1).toInt = a1.toInt + 1 := q_tA (by decide) (by omega) (by omega); omega)
theorem zz_0a97775a0b {a1 : Int32} (h0 : a1 ≤ 242) : a1 ≤ 245 := by simp only [Int32.le_iff_toInt_le, Int32.lt_iff_toInt_lt, ← Int32.toInt_inj, ne_eq] at *; have l0 : (242 : Int32).toInt = 242 := (by decide); have l1 : (245 : Int32).toInt = 245 := (by decide); omega
theorem zz_531da8b9c9 {a1 a2 : Int32} (h0 : a1 ≤ a2) (h1 : a2 ≤ 242) : a1 ≤ 245 := by simp only [Int32.le_iff_toInt_le, Int32.lt_iff_toInt_lt, ← Int32.toInt_inj, ne_eq] at *; have l0 : (242 : Int32).toInt = 242 := (by decide); have l1 : (245 : Int32).toInt = 245 := (by decide); omega
theorem zz_806fdafe5c {a1 a2 a3 a4 a5 a6 : Int32} (h0 : a1 = a2) (h1 : (a3 ≠ -1) → (a4 < a2)) (h2 : a5 = a4 + 1) (h3 : ¬ (a3 = -1)) (h4 : (0 ≤ a4) ∧ (a4 ≤ 250)) : (a6 = 0) → (a5 ≤ a1) := by simp only [Int32.le_iff_toInt_le, Int32.lt_iff_toInt_lt, ← Int32.toInt_inj, ne_eq] at *; have l0 : (-1 : Int32).toInt = -1 := (by decide); have l1 : (1 : Int32).toInt = 1 := (by decide); have l2 : (0 : Int32).toInt = 0 := (by decide); have l3 : (250 : Int32).toInt = 250 := (by decide); have s0 : (a4 + 1).toInt = a4.toInt + 1 := q_tA (by decide) (by omega) (by omega); omega
theorem zz_09a34a4d5e {a1 a2 a3 a4 : Int32} (h0 : a1 ≤ a2) (h1 : a3 = a2 + 1) (h2 : a4 = a1 + 1) (h3 : (0 ≤ a1) ∧ (a1 ≤ 299)) (h4 : (0 ≤ a2) ∧ (a2 ≤ 250)) : a4 ≤ a3 := by simp only [Int32.le_iff_toInt_le, Int32.lt_iff_toInt_lt, ← Int32.toInt_inj, ne_eq] at *; have l0 : (1 : Int32).toInt = 1 := (by decide); have l1 : (0 : Int32).toInt = 0 := (by decide); have l2 : (299 : Int32).toInt = 299 := (by decide); have l3 : (250 : Int32).toInt = 250 := (by decide); have s0 : (a2 + 1).toInt = a2.toInt + 1 := q_tA (by decide) (by omega) (by omega); have s1 : (a1 + 1).toInt = a1.toInt + 1 := q_tA (by decide) (by omega) (by omega); omega
theorem zz_f2e25e3fe3 {a1 a2 a3 : Int32} (h0 : (a1 ≠ -1) → (a2 < 240)) (h1 : a3 = a2 + 1) (h2 : ¬ (a1 = -1)) (h3 : (0 ≤ a2) ∧ (a2 ≤ 250)) : a3 ≤ 242 := by simp only [Int32.le_iff_toInt_le, Int32.lt_iff_toInt_lt, ← Int32.toInt_inj, ne_eq] at *; have l0 : (-1 : Int32).toInt = -1 := (by decide); have l1 : (240 : Int32).toInt = 240 := (by decide); have l2 : (1 : Int32).toInt = 1 := (by decide); have l3 : (0 : Int32).toInt = 0 := (by decide); have l4 : (250 : Int32).toInt = 250 := (by decide); have l5 : (242 : Int32).toInt = 242 := (by decide); have s0 : (a2 + 1).toInt = a2.toInt + 1 := q_tA (by decide) (by omega) (by omega); omega
theorem zz_9354c6b5a5 {a1 a2 a3 a4 a5 : Int32} (h0 : a1 = a2) (h1 : a2 ≤ (300 * a3) + a4) (h2 : a5 = a4 + 1) (h3 : (0 ≤ a4) ∧ (a4 ≤ 299)) (h4 : (0 ≤ a3) ∧ (a3 ≤ 1)) (h5 : a5 = a4 + 1) : a1 ≤ (300 * a3) + a5 := by simp only [Int32.le_iff_toInt_le, Int32.lt_iff_toInt_lt, ← Int32.toInt_inj, ne_eq] at *; have l0 : (300 : Int32).toInt = 300 := (by decide); have l1 : (1 : Int32).toInt = 1 := (by decide); have l2 : (0 : Int32).toInt = 0 := (by decide); have l3 : (299 : Int32).toInt = 299 := (by decide); have s0 : (300 * a3).toInt = 300 * a3.toInt := q_tM (by decide) (by omega) (by omega); have s1 : ((300 * a3) + a4).toInt = (300 * a3).toInt + a4.toInt := q_tA rfl (by omega) (by omega); have s2 : (a4 + 1).toInt = a4.toInt + 1 := q_tA (by decide) (by omega) (by omega); have s3 : ((300 * a3) + a5).toInt = (300 * a3).toInt + a5.toInt := q_tA rfl (by omega) (by omega); omega
theorem zz_e9090279e7 {a1 a2 a3 a4 a5 a6 a7 : Int32} (h0 : a1 ≤ (if a2 = 0 then a3 else 300)) (h1 : a4 ≤ a1 + 1) (h2 : (a5 ≠ -1) → (a3 < 240)) (h3 : a6 = a3 + 1) (h4 : a2 = 0) (h5 : ¬ (a5 = -1)) (h6 : (0 ≤ a3) ∧ (a3 ≤ 250)) (h7 : -100000 ≤ a1) (h8 : a1 ≤ 100000) : a4 ≤ (if a7 = 0 then a6 else 300) := by split at h0 <;> split <;> (simp only [Int32.le_iff_toInt_le, Int32.lt_iff_toInt_lt, ← Int32.toInt_inj, ne_eq] at *; have l0 : (0 : Int32).toInt = 0 := (by decide); have l1 : (300 : Int32).toInt = 300 := (by decide); have l2 : (1 : Int32).toInt = 1 := (by decide); have l3 : (-1 : Int32).toInt = -1 := (by decide); have l4 : (240 : Int32).toInt = 240 := (by decide); have l5 : (250 : Int32).toInt = 250 := (by decide); have l6 : (-100000 : Int32).toInt = -100000 := (by decide); have l7 : (100000 : Int32).toInt = 100000 := (by decide); have s0 : (a1 + 1).toInt = a1.toInt + 1 := q_tA (by decide) (by omega) (by omega); have s1 : (a3 + 1).toInt = a3.toInt + 1 := q_tA (by decide) (by omega) (by omega); omega)
theorem zz_cae39d7ebd {a1 a2 a3 a4 : Int32} (h0 : a1 = a2 + 1) (h1 : (a3 < (300 * a4) + a2) ∨ ((300 * a4) + 300 ≤ a3)) (h2 : (0 ≤ a4) ∧ (a4 ≤ 1)) (h3 : (0 ≤ a2) ∧ (a2 ≤ 299)) (h4 : a1 = a2 + 1) : (a3 < (300 * a4) + a1) ∨ ((300 * a4) + 300 ≤ a3) := by simp only [Int32.le_iff_toInt_le, Int32.lt_iff_toInt_lt, ← Int32.toInt_inj, ne_eq] at *; have l0 : (1 : Int32).toInt = 1 := (by decide); have l1 : (300 : Int32).toInt = 300 := (by decide); have l2 : (0 : Int32).toInt = 0 := (by decide); have l3 : (299 : Int32).toInt = 299 := (by decide); have s0 : (a2 + 1).toInt = a2.toInt + 1 := q_tA (by decide) (by omega) (by omega); have s1 : (300 * a4).toInt = 300 * a4.toInt := q_tM (by decide) (by omega) (by omega); have s2 : ((300 * a4) + a2).toInt = (300 * a4).toInt + a2.toInt := q_tA rfl (by omega) (by omega); have s3 : ((300 * a4) + 300).toInt = (300 * a4).toInt + 300 := q_tA (by decide) (by omega) (by omega); have s4 : ((300 * a4) + a1).toInt = (300 * a4).toInt + a1.toInt := q_tA rfl (by omega) (by omega); omega
theorem zz_819b1e06dd {a1 a2 a3 a4 a5 a6 : Int32} (h0 : a1 = a2 + 1) (h1 : (a3 = 0) → ((a1 < a4) ∧ (a4 ≤ a5))) (h2 : a5 = a6) (h3 : (0 ≤ a2) ∧ (a2 ≤ 250)) : (a3 = 0) → ((a2 < a4) ∧ (a4 ≤ a6)) := by simp only [Int32.le_iff_toInt_le, Int32.lt_iff_toInt_lt, ← Int32.toInt_inj, ne_eq] at *; have l0 : (1 : Int32).toInt = 1 := (by decide); have l1 : (0 : Int32).toInt = 0 := (by decide); have l2 : (250 : Int32).toInt = 250 := (by decide); have s0 : (a2 + 1).toInt = a2.toInt + 1 := q_tA (by decide) (by omega) (by omega); omega
theorem zz_e6eb486ba2 {a1 a2 a3 a4 : Int32} (h0 : a1 = a2 + 1) (h1 : (a1 ≤ a3) ∧ (a3 ≤ a4)) (h2 : (0 ≤ a2) ∧ (a2 ≤ 299)) : (a2 ≤ a3) ∧ (a3 ≤ a4) := by simp only [Int32.le_iff_toInt_le, Int32.lt_iff_toInt_lt, ← Int32.toInt_inj, ne_eq] at *; have l0 : (1 : Int32).toInt = 1 := (by decide); have l1 : (0 : Int32).toInt = 0 := (by decide); have l2 : (299 : Int32).toInt = 299 := (by decide); have s0 : (a2 + 1).toInt = a2.toInt + 1 := q_tA (by decide) (by omega) (by omega); omega
theorem zz_527b460504 {a1 a2 a3 : Int32} (h0 : a1 = a2 + 1) (h1 : (a1 ≤ a3) ∧ (a3 ≤ 248)) (h2 : (0 ≤ a2) ∧ (a2 ≤ 250)) : (a2 ≤ a3) ∧ (a3 ≤ 248) := by simp only [Int32.le_iff_toInt_le, Int32.lt_iff_toInt_lt, ← Int32.toInt_inj, ne_eq] at *; have l0 : (1 : Int32).toInt = 1 := (by decide); have l1 : (248 : Int32).toInt = 248 := (by decide); have l2 : (0 : Int32).toInt = 0 := (by decide); have l3 : (250 : Int32).toInt = 250 := (by decide); have s0 : (a2 + 1).toInt = a2.toInt + 1 := q_tA (by decide) (by omega) (by omega); omega
set_option maxHeartbeats 4000000 in
theorem p_Mod_exchange_16_n {L : q_L} {W : Nat → Prop} {h0 : z_H} {π : Nat → Nat → Option Nat} {N : Nat} {lo : Nat → Int32} (hqn : q_Q lo 301) : ∀ (n : Nat) (v0 : Nat) (v1 : Int32) (h : z_H), q_U L W h0 π h → q_M L π v0 → (∀ a, v0 ≤ a → a < v0 + 46 → W a) → (0 ≤ v1) → (v1 < 80) → (vI h v0 48 = 0 → vI h v0 41 ≤ vI h v0 3) → (vA h (v0 + 22) (vI h v0 42) ≤ vI h v0 41) → (vI h v0 41 ≤ 242) → (300 * vI h v0 42 ≤ vA h (v0 + 10) v1) → (vA h (v0 + 10) v1 ≤ 300 * vI h v0 42 + vA h (v0 + 22) (vI h v0 42)) → (100000 ≤ N) → (lo n ≤ (if vI h v0 48 = 0 then vI h v0 41 else 300)) → qk (f_Mod_exchange_16 N  n v0 v1 h) (fun r => q_U L W h0 π r ∧ (∀ a k, ¬ (a = v0 ∧ (k = 5 ∨ k = 48 ∨ k = 41)) → vI r a k = vI h a k) ∧ (∀ a j, 0 ≤ j → ¬ (a = v0 + 12 ∨ a = v0 + 11 ∨ a = v0 + 22 ∨ a = v0 + 28) → vA r a j = vA h a j) ∧ (∀ j, 0 ≤ j → j ≠ vI h v0 42 → vA r (v0 + 22) j = vA h (v0 + 22) j) ∧ (∀ j, 0 ≤ j → (j < (300 * vI h v0 42 + vA h (v0 + 22) (vI h v0 42)) ∨ 300 * vI h v0 42 + 300 ≤ j) → vA r (v0 + 28) j = vA h (v0 + 28) j) ∧ (∀ j, 0 ≤ j → j ≠ v1 → vA r (v0 + 12) j = vA h (v0 + 12) j ∧ vA r (v0 + 11) j = vA h (v0 + 11) j) ∧ (vI r v0 48 = 0 → vI h v0 41 < vI r v0 41 ∧ vI r v0 41 ≤ vI h v0 3) ∧ (vA h (v0 + 22) (vI h v0 42) ≤ vA r (v0 + 22) (vI h v0 42) ∧ vA r (v0 + 22) (vI h v0 42) ≤ vI r v0 41) ∧ (vI h v0 41 ≤ vI r v0 41 ∧ vI r v0 41 ≤ 248) ∧ (vI r v0 48 = 0 → vA h (v0 + 10) v1 ≤ vA r (v0 + 12) v1 ∧ vA r (v0 + 11) v1 = vA r (v0 + 12) v1 + (vA r (v0 + 12) v1 - vA h (v0 + 10) v1) ∧ vA r (v0 + 11) v1 = 300 * vI h v0 42 + vA r (v0 + 22) (vI h v0 42))) := by
  intro n
  induction n with
  | zero => intro v0 v1 h T kv0 wM s0 s1 hl hc ab f0_ f1_ hN hms; have rg_at := g_Mo_41 T kv0; have hz := hqn.1; exact absurd hms (by grind)
  | succ n ih =>
    intro v0 v1 h T kv0 wM s0 s1 hl hc ab f0_ f1_ hN hms
    obtain ⟨hq1, hq2, hq3⟩ := hqn.2 n
    rw [f_Mod_exchange_16]
    refine r_Mo_48 T kv0 ?_
    intro x1 ex1
    subst ex1
    refine qk_if (fun cc1 => ?_) (fun cc1 => ?_)
    · skip
      refine r_Mo_o T kv0 ?_
      refine c_Mod_here2 (v0 := v0) T kv0 ?_
      intro yr4 gr4_0 gr4_1 gr4_2 gr4_3 gr4_4
      dsimp only
      refine qk_if (fun cc2 => ?_) (fun cc2 => ?_)
      · skip
        unfold f_Mod_exchange_138
        refine r_Mo_41 T kv0 ?_
        intro x1i3 ex1i3 lx1i3 ux1i3
        subst ex1i3
        have o4 := g_Mo_41 T kv0
        refine w_Mo_41 T kv0 (wM _ (by omega) (by omega)) (zz_5664edf06b o4) (zz_c81e5df24d ab o4) ?_
        intro h2i3 Th2i3 ih2i3 ah2i3
        refine r_Mo_17 Th2i3 kv0 ?_
        refine r_Mo_o Th2i3 kv0 ?_
        refine c_Mod_stored (v0 := v0) Th2i3 kv0 ?_
        intro yr5i3 gr5i3_0
        have qh42_gr5i3_0 : vI h2i3 v0 42 = (vI h v0 42) := by rw [ih2i3 v0 42, if_neg (fun z => absurd z.2 (by decide))]
        rw [qh42_gr5i3_0] at gr5i3_0
        dsimp only
        have o5 := g_Mo_42 T kv0
        have o6 : vA h2i3 (v0 + 22) (vI h v0 42) = vA h (v0 + 22) (vI h v0 42) := (by rw [ah2i3 (v0 + 22) (vI h v0 42)])
        have o7 := g_Mo_e22 T kv0 (vI h v0 42)
        refine w_Mo_e12 Th2i3 kv0 (wM _ (by omega) (by omega)) s0 s1 (zz_5c2d5e4809 gr5i3_0 o5 o6 o7) (zz_cfc7a49901 gr5i3_0 o5 o6 o7) ?_
        intro h6i3 Th6i3 ih6i3 ah6i3
        refine r_Mo_17 Th6i3 kv0 ?_
        refine r_Mo_e12 Th6i3 kv0 s0 s1 ?_
        intro x8i3 ex8i3 lx8i3 ux8i3
        have sx8i3 : (yr5i3) = x8i3 := (ex8i3.trans (by rw [ah6i3 (v0 + 12) v1 s0, if_pos ⟨rfl, rfl⟩])).symm
        subst sx8i3
        refine r_Mo_15 Th6i3 kv0 ?_
        refine r_Mo_e10 Th6i3 kv0 s0 s1 ?_
        intro x10i3 ex10i3 lx10i3 ux10i3
        have sx10i3 : (vA h (v0 + 10) v1) = x10i3 := (ex10i3.trans (by rw [ah6i3 (v0 + 10) v1 s0, if_neg (fun z => absurd z.1 (by omega)), ah2i3 (v0 + 10) v1])).symm
        subst sx10i3
        refine qk_bs ?_
        have o8 : vI h6i3 v0 41 = (vI h v0 41) + 1 := (by rw [ih6i3 v0 41, ih2i3 v0 41, if_pos ⟨rfl, rfl⟩])
        have o9 : vI h6i3 v0 3 = vI h v0 3 := (by rw [ih6i3 v0 3, ih2i3 v0 3, if_neg (fun z => absurd z.2 (by decide))])
        have o10 : vA h6i3 (v0 + 22) (vI h v0 42) = vA h (v0 + 22) (vI h v0 42) := (by rw [ah6i3 (v0 + 22) (vI h v0 42) (g_Mo_42 T kv0).1, if_neg (fun z => absurd z.1 (by omega)), ah2i3 (v0 + 22) (vI h v0 42)])
        have o11 := g_Mo_e10 T kv0 v1
        have o12 : vA h6i3 (v0 + 12) v1 = yr5i3 := (by rw [ah6i3 (v0 + 12) v1 s0, if_pos ⟨rfl, rfl⟩])
        refine qk_mono (p_Mod_exchange_174 (v0 := v0) (v1 := v1) (v2 := ((yr5i3) - (vA h (v0 + 10) v1))) (v3 := 0) Th6i3 kv0 wM s0 s1 (zz_deec5978d5 o8 o9 gr4_2 cc2 o4) (by show vA h6i3 (v0 + 22) (vI h6i3 v0 42) ≤ vI h6i3 v0 41; have qc1 : vI h6i3 v0 42 = (vI h v0 42) := (by rw [ih6i3 v0 42, ih2i3 v0 42, if_neg (fun z => absurd z.2 (by decide))]); rw [qc1]; exact zz_1aaf9e6a7f o10 o8 hc o4) (zz_a5b8a749ee o8 ab o4) (zz_d6592f534e f1_ gr5i3_0 o6 o5 o7 lx8i3 ux8i3 o11) (zz_90cc52f7ab f0_ o7 gr5i3_0 o6 o5 lx8i3 ux8i3 o11) (by decide) (zz_b75a9a1357 f1_ gr5i3_0 o6 o5 o7 lx8i3 ux8i3 o11) (by decide) (by show 300 * vI h6i3 v0 42 + vA h6i3 (v0 + 22) (vI h6i3 v0 42) = vA h6i3 (v0 + 12) v1 + 0; have qc1 : vI h6i3 v0 42 = (vI h v0 42) := (by rw [ih6i3 v0 42, ih2i3 v0 42, if_neg (fun z => absurd z.2 (by decide))]); rw [qc1]; exact zz_c498c22b3f o10 o12 gr5i3_0 o6 o5 o7 lx8i3 ux8i3) hN) ?_
        rintro hz ⟨Tz, g0, g1, g2, g3, g4, g5, g6, g7, g8, g9⟩
        try dsimp only at *
        have qh42_g0 : vI h6i3 v0 42 = (vI h v0 42) := by rw [ih6i3 v0 42, ih2i3 v0 42, if_neg (fun z => absurd z.2 (by decide))]
        rw [qh42_g0] at g2
        rw [qh42_g0] at g3
        rw [qh42_g0] at g6
        rw [qh42_g0] at g8
        have o14 : vA hz (v0 + 12) v1 = yr5i3 := (by rw [g1 (v0 + 12) v1 s0 (by omega), ah6i3 (v0 + 12) v1 s0, if_pos ⟨rfl, rfl⟩])
        have o15 := g_Mo_e22 Tz kv0 (vI h v0 42)
        exact ⟨Tz, (by clear ih; show ∀ a k, ¬ (a = v0 ∧ (k = 5 ∨ k = 48 ∨ k = 41)) → vI hz a k = vI h a k; intro a k n0; rw [g0 a k (by omega), ih6i3, ih2i3, if_neg (by omega)]), (by clear ih; show ∀ a j, 0 ≤ j → ¬ (a = v0 + 12 ∨ a = v0 + 11 ∨ a = v0 + 22 ∨ a = v0 + 28) → vA hz a j = vA h a j; intro a j j0 n0; rw [g1 a j j0 (by omega), ah6i3 a j j0, if_neg (by omega), ah2i3]), (by clear ih; show ∀ j, 0 ≤ j → j ≠ vI h v0 42 → vA hz (v0 + 22) j = vA h (v0 + 22) j; intro j j0 n0; rw [g2 j j0 n0, ah6i3 (v0 + 22) j j0, if_neg (fun z => absurd z.1 (by omega)), ah2i3 (v0 + 22) j]), (by clear ih; show ∀ j, 0 ≤ j → (j < (300 * vI h v0 42 + vA h (v0 + 22) (vI h v0 42)) ∨ 300 * vI h v0 42 + 300 ≤ j) → vA hz (v0 + 28) j = vA h (v0 + 28) j; intro j j0 n0; rw [g3 j j0 (zz_ced763ca4e o10 n0 o5 o7), ah6i3 (v0 + 28) j j0, if_neg (fun z => absurd z.1 (by omega)), ah2i3 (v0 + 28) j]), (by clear ih; show ∀ j, 0 ≤ j → j ≠ v1 → vA hz (v0 + 12) j = vA h (v0 + 12) j ∧ vA hz (v0 + 11) j = vA h (v0 + 11) j; intro j j0 n0; exact ⟨(by rw [g1 (v0 + 12) j j0 (by omega), ah6i3 (v0 + 12) j j0, if_neg (fun z => absurd z.2 (zz_946771669d n0)), ah2i3 (v0 + 12) j]), (by rw [g4 j j0 n0, ah6i3 (v0 + 11) j j0, if_neg (fun z => absurd z.1 (by omega)), ah2i3 (v0 + 11) j])⟩), (zz_a5143cc316 g5 o8 o9 o4), (zz_3745968dd1 g6 o10), (zz_61161f2204 o8 g7 o4), (zz_49f0953ed1 o14 f1_ gr5i3_0 o6 g8 g9 o12 lx8i3 ux8i3 o11 o5 o15 o7)⟩
      · skip
        refine r_Mo_o T kv0 ?_
        refine c_Mod_here2 (v0 := v0) T kv0 ?_
        intro yr7 gr7_0 gr7_1 gr7_2 gr7_3 gr7_4
        dsimp only
        refine qk_bs ?_
        refine qk_if (fun cc16 => ?_) (fun cc16 => ?_)
        · skip
          unfold f_Mod_exchange_54
          refine qk_if (fun cc18 => ?_) (fun cc18 => ?_)
          · skip
            refine r_Mo_3 T kv0 ?_
            intro x3i17 ex3i17 lx3i17 ux3i17
            subst ex3i17
            unfold f_Mod_exchange_71
            refine r_Mo_o T kv0 ?_
            refine c_Mod_wrong (v0 := v0) (v1 := (vI h v0 3)) T kv0 wM ?_
            intro r2i19 Tr2i19 gr2i19_0 gr2i19_1 gr2i19_2
            unfold f_Mod_exchange_74
            refine r_Mo_15 Tr2i19 kv0 ?_
            refine r_Mo_e10 Tr2i19 kv0 s0 s1 ?_
            intro x2i20 ex2i20 lx2i20 ux2i20
            have sx2i20 : (vA h (v0 + 10) v1) = x2i20 := (ex2i20.trans (by rw [gr2i19_2 (v0 + 10) v1])).symm
            subst sx2i20
            have o21 : vI r2i19 v0 41 = vI h v0 41 := (by rw [gr2i19_0 v0 41 (by omega)])
            have o22 : vA r2i19 (v0 + 22) (vI h v0 42) = vA h (v0 + 22) (vI h v0 42) := (by rw [gr2i19_2 (v0 + 22) (vI h v0 42)])
            refine p_Mod_exchange_81 (v0 := v0) (v1 := v1) (v2 := (yr7)) (v3 := (vA h (v0 + 10) v1)) Tr2i19 kv0 wM s0 s1 lx2i20 ux2i20 (zz_66a8b72997 cc18) (zz_92ad2bc9b2 cc18) (zz_e53193f026 o21 ab) (by show vA r2i19 (v0 + 22) (vI r2i19 v0 42) ≤ 245; have qc1 : vI r2i19 v0 42 = (vI h v0 42) := (by rw [gr2i19_0 v0 42 (by omega)]); rw [qc1]; exact zz_b98d7d364b o22 hc ab) hN ?_
            · intro  h_w23 Tw23 gw23_0 gw23_1 gw23_2 gw23_3 gw23_4 gw23_5 gw23_6
              have qh42_gw23_0 : vI r2i19 v0 42 = (vI h v0 42) := by rw [gr2i19_0 v0 42 (by omega)]
              rw [qh42_gw23_0] at gw23_2
              rw [qh42_gw23_0] at gw23_3
              rw [qh42_gw23_0] at gw23_5
              have o24 : vI r2i19 v0 48 = 1 := (by rw [gr2i19_1])
              have o25 := g_Mo_e22 T kv0 (vI h v0 42)
              have o26 := g_Mo_41 T kv0
              have o27 := g_Mo_3 T kv0
              have o28 : vA h_w23 (v0 + 10) v1 = vA h (v0 + 10) v1 := (by rw [gw23_1 (v0 + 10) v1 s0 (by omega), gr2i19_2 (v0 + 10) v1])
              have o29 := g_Mo_42 T kv0
              have o30 : vA h_w23 (v0 + 22) (vI h v0 42) = (vA r2i19 (v0 + 22) (vI h v0 42)) + 1 := (by rw [gw23_5])
              refine qk_mono (ih (v0) (v1) h_w23 Tw23 kv0 wM s0 s1 (zz_de4e9ec17f o24 gw23_6) (by show vA h_w23 (v0 + 22) (vI h_w23 v0 42) ≤ vI h_w23 v0 41; have qc1 : vI h_w23 v0 42 = (vI h v0 42) := (by rw [gw23_0 v0 42 (by omega), gr2i19_0 v0 42 (by omega)]); rw [qc1]; exact zz_bd7ae6d45f o22 o21 hc gw23_4 gw23_5 o25 o26) (zz_b23b43592a o21 hl o27 gw23_4 cc1 o26) (by show 300 * vI h_w23 v0 42 ≤ vA h_w23 (v0 + 10) v1; have qc1 : vI h_w23 v0 42 = (vI h v0 42) := (by rw [gw23_0 v0 42 (by omega), gr2i19_0 v0 42 (by omega)]); rw [qc1]; exact zz_548c269c5c o28 f0_ o29) (by show vA h_w23 (v0 + 10) v1 ≤ 300 * vI h_w23 v0 42 + vA h_w23 (v0 + 22) (vI h_w23 v0 42); have qc1 : vI h_w23 v0 42 = (vI h v0 42) := (by rw [gw23_0 v0 42 (by omega), gr2i19_0 v0 42 (by omega)]); rw [qc1]; exact zz_fa8a8c0e54 o28 o22 f1_ gw23_5 o25 o29 o30) hN (zz_25f8daf474 o21 ab hms hq1 gw23_4 cc1 o26 hq2 hq3)) ?_
              rintro hz ⟨Tz, g0, g1, g2, g3, g4, g5, g6, g7, g8⟩
              try dsimp only at *
              have qh42_g0 : vI h_w23 v0 42 = (vI h v0 42) := by rw [gw23_0 v0 42 (by omega), gr2i19_0 v0 42 (by omega)]
              rw [qh42_g0] at g2
              rw [qh42_g0] at g3
              rw [qh42_g0] at g6
              rw [qh42_g0] at g8
              have o32 : vI h_w23 v0 41 = (vI r2i19 v0 41) + 1 := (by rw [gw23_4])
              have o33 : vI h_w23 v0 3 = vI h v0 3 := (by rw [gw23_0 v0 3 (by omega), gr2i19_0 v0 3 (by omega)])
              have o34 := g_Mo_e12 Tz kv0 v1
              have o35 := g_Mo_e22 Tz kv0 (vI h v0 42)
              have o36 := g_Mo_e10 T kv0 v1
              exact ⟨Tz, (by clear ih; show ∀ a k, ¬ (a = v0 ∧ (k = 5 ∨ k = 48 ∨ k = 41)) → vI hz a k = vI h a k; intro a k n0; rw [g0 a k (by omega), gw23_0 a k (by omega), gr2i19_0 a k (by omega)]), (by clear ih; show ∀ a j, 0 ≤ j → ¬ (a = v0 + 12 ∨ a = v0 + 11 ∨ a = v0 + 22 ∨ a = v0 + 28) → vA hz a j = vA h a j; intro a j j0 n0; rw [g1 a j j0 (by omega), gw23_1 a j j0 (by omega), gr2i19_2 a j]), (by clear ih; show ∀ j, 0 ≤ j → j ≠ vI h v0 42 → vA hz (v0 + 22) j = vA h (v0 + 22) j; intro j j0 n0; rw [g2 j j0 n0, gw23_2 j j0 n0, gr2i19_2 (v0 + 22) j]), (by clear ih; show ∀ j, 0 ≤ j → (j < (300 * vI h v0 42 + vA h (v0 + 22) (vI h v0 42)) ∨ 300 * vI h v0 42 + 300 ≤ j) → vA hz (v0 + 28) j = vA h (v0 + 28) j; intro j j0 n0; rw [g3 j j0 (zz_1db3176692 o22 gw23_5 n0 o29 o25 o30), gw23_3 j j0 (zz_ced763ca4e o22 n0 o29 o25), gr2i19_2 (v0 + 28) j]), (by clear ih; show ∀ j, 0 ≤ j → j ≠ v1 → vA hz (v0 + 12) j = vA h (v0 + 12) j ∧ vA hz (v0 + 11) j = vA h (v0 + 11) j; intro j j0 n0; exact ⟨(by rw [(g4 j j0 n0).1, gw23_1 (v0 + 12) j j0 (by omega), gr2i19_2 (v0 + 12) j]), (by rw [(g4 j j0 n0).2, gw23_1 (v0 + 11) j j0 (by omega), gr2i19_2 (v0 + 11) j])⟩), (zz_f7b0d02e92 o32 o21 g5 o33 o26), (zz_82a62601c9 o30 o22 g6 o25), (zz_534a01e5a8 o32 o21 g7 o26), (zz_719ffd7a7b g8 o28 o34 o29 o35 o36)⟩
          · skip
            refine r_Mo_41 T kv0 ?_
            intro x2i17 ex2i17 lx2i17 ux2i17
            subst ex2i17
            unfold f_Mod_exchange_71
            refine r_Mo_o T kv0 ?_
            refine c_Mod_wrong (v0 := v0) (v1 := (vI h v0 41)) T kv0 wM ?_
            intro r2i37 Tr2i37 gr2i37_0 gr2i37_1 gr2i37_2
            unfold f_Mod_exchange_74
            refine r_Mo_15 Tr2i37 kv0 ?_
            refine r_Mo_e10 Tr2i37 kv0 s0 s1 ?_
            intro x2i38 ex2i38 lx2i38 ux2i38
            have sx2i38 : (vA h (v0 + 10) v1) = x2i38 := (ex2i38.trans (by rw [gr2i37_2 (v0 + 10) v1])).symm
            subst sx2i38
            have o39 : vI r2i37 v0 41 = vI h v0 41 := (by rw [gr2i37_0 v0 41 (by omega)])
            have o40 : vA r2i37 (v0 + 22) (vI h v0 42) = vA h (v0 + 22) (vI h v0 42) := (by rw [gr2i37_2 (v0 + 22) (vI h v0 42)])
            refine p_Mod_exchange_81 (v0 := v0) (v1 := v1) (v2 := (yr7)) (v3 := (vA h (v0 + 10) v1)) Tr2i37 kv0 wM s0 s1 lx2i38 ux2i38 (zz_66a8b72997 cc16) (zz_92ad2bc9b2 cc16) (zz_e53193f026 o39 ab) (by show vA r2i37 (v0 + 22) (vI r2i37 v0 42) ≤ 245; have qc1 : vI r2i37 v0 42 = (vI h v0 42) := (by rw [gr2i37_0 v0 42 (by omega)]); rw [qc1]; exact zz_b98d7d364b o40 hc ab) hN ?_
            · intro  h_w41 Tw41 gw41_0 gw41_1 gw41_2 gw41_3 gw41_4 gw41_5 gw41_6
              have qh42_gw41_0 : vI r2i37 v0 42 = (vI h v0 42) := by rw [gr2i37_0 v0 42 (by omega)]
              rw [qh42_gw41_0] at gw41_2
              rw [qh42_gw41_0] at gw41_3
              rw [qh42_gw41_0] at gw41_5
              have o42 : vI r2i37 v0 48 = 1 := (by rw [gr2i37_1])
              have o43 := g_Mo_e22 T kv0 (vI h v0 42)
              have o44 := g_Mo_41 T kv0
              have o45 : vA h_w41 (v0 + 10) v1 = vA h (v0 + 10) v1 := (by rw [gw41_1 (v0 + 10) v1 s0 (by omega), gr2i37_2 (v0 + 10) v1])
              have o46 := g_Mo_42 T kv0
              have o47 : vA h_w41 (v0 + 22) (vI h v0 42) = (vA r2i37 (v0 + 22) (vI h v0 42)) + 1 := (by rw [gw41_5])
              refine qk_mono (ih (v0) (v1) h_w41 Tw41 kv0 wM s0 s1 (zz_de4e9ec17f o42 gw41_6) (by show vA h_w41 (v0 + 22) (vI h_w41 v0 42) ≤ vI h_w41 v0 41; have qc1 : vI h_w41 v0 42 = (vI h v0 42) := (by rw [gw41_0 v0 42 (by omega), gr2i37_0 v0 42 (by omega)]); rw [qc1]; exact zz_bd7ae6d45f o40 o39 hc gw41_4 gw41_5 o43 o44) (zz_2d810cccf6 o39 gr7_3 gw41_4 cc18 o44) (by show 300 * vI h_w41 v0 42 ≤ vA h_w41 (v0 + 10) v1; have qc1 : vI h_w41 v0 42 = (vI h v0 42) := (by rw [gw41_0 v0 42 (by omega), gr2i37_0 v0 42 (by omega)]); rw [qc1]; exact zz_548c269c5c o45 f0_ o46) (by show vA h_w41 (v0 + 10) v1 ≤ 300 * vI h_w41 v0 42 + vA h_w41 (v0 + 22) (vI h_w41 v0 42); have qc1 : vI h_w41 v0 42 = (vI h v0 42) := (by rw [gw41_0 v0 42 (by omega), gr2i37_0 v0 42 (by omega)]); rw [qc1]; exact zz_fa8a8c0e54 o45 o40 f1_ gw41_5 o43 o46 o47) hN (zz_d749eeee3c cc16 cc18)) ?_
              rintro hz ⟨Tz, g0, g1, g2, g3, g4, g5, g6, g7, g8⟩
              try dsimp only at *
              have qh42_g0 : vI h_w41 v0 42 = (vI h v0 42) := by rw [gw41_0 v0 42 (by omega), gr2i37_0 v0 42 (by omega)]
              rw [qh42_g0] at g2
              rw [qh42_g0] at g3
              rw [qh42_g0] at g6
              rw [qh42_g0] at g8
              have o49 : vI h_w41 v0 41 = (vI r2i37 v0 41) + 1 := (by rw [gw41_4])
              have o50 : vI h_w41 v0 3 = vI h v0 3 := (by rw [gw41_0 v0 3 (by omega), gr2i37_0 v0 3 (by omega)])
              have o51 := g_Mo_e12 Tz kv0 v1
              have o52 := g_Mo_e22 Tz kv0 (vI h v0 42)
              have o53 := g_Mo_e10 T kv0 v1
              exact ⟨Tz, (by clear ih; show ∀ a k, ¬ (a = v0 ∧ (k = 5 ∨ k = 48 ∨ k = 41)) → vI hz a k = vI h a k; intro a k n0; rw [g0 a k (by omega), gw41_0 a k (by omega), gr2i37_0 a k (by omega)]), (by clear ih; show ∀ a j, 0 ≤ j → ¬ (a = v0 + 12 ∨ a = v0 + 11 ∨ a = v0 + 22 ∨ a = v0 + 28) → vA hz a j = vA h a j; intro a j j0 n0; rw [g1 a j j0 (by omega), gw41_1 a j j0 (by omega), gr2i37_2 a j]), (by clear ih; show ∀ j, 0 ≤ j → j ≠ vI h v0 42 → vA hz (v0 + 22) j = vA h (v0 + 22) j; intro j j0 n0; rw [g2 j j0 n0, gw41_2 j j0 n0, gr2i37_2 (v0 + 22) j]), (by clear ih; show ∀ j, 0 ≤ j → (j < (300 * vI h v0 42 + vA h (v0 + 22) (vI h v0 42)) ∨ 300 * vI h v0 42 + 300 ≤ j) → vA hz (v0 + 28) j = vA h (v0 + 28) j; intro j j0 n0; rw [g3 j j0 (zz_1db3176692 o40 gw41_5 n0 o46 o43 o47), gw41_3 j j0 (zz_ced763ca4e o40 n0 o46 o43), gr2i37_2 (v0 + 28) j]), (by clear ih; show ∀ j, 0 ≤ j → j ≠ v1 → vA hz (v0 + 12) j = vA h (v0 + 12) j ∧ vA hz (v0 + 11) j = vA h (v0 + 11) j; intro j j0 n0; exact ⟨(by rw [(g4 j j0 n0).1, gw41_1 (v0 + 12) j j0 (by omega), gr2i37_2 (v0 + 12) j]), (by rw [(g4 j j0 n0).2, gw41_1 (v0 + 11) j j0 (by omega), gr2i37_2 (v0 + 11) j])⟩), (zz_f7b0d02e92 o49 o39 g5 o50 o44), (zz_82a62601c9 o47 o40 g6 o43), (zz_534a01e5a8 o49 o39 g7 o44), (zz_719ffd7a7b g8 o45 o51 o46 o52 o53)⟩
        · skip
          refine qk_if (fun cc54 => ?_) (fun cc54 => ?_)
          · skip
            unfold f_Mod_exchange_54
            refine qk_if (fun cc56 => ?_) (fun cc56 => ?_)
            · skip
              refine r_Mo_3 T kv0 ?_
              intro x3i55 ex3i55 lx3i55 ux3i55
              subst ex3i55
              unfold f_Mod_exchange_71
              refine r_Mo_o T kv0 ?_
              refine c_Mod_wrong (v0 := v0) (v1 := (vI h v0 3)) T kv0 wM ?_
              intro r2i57 Tr2i57 gr2i57_0 gr2i57_1 gr2i57_2
              unfold f_Mod_exchange_74
              refine r_Mo_15 Tr2i57 kv0 ?_
              refine r_Mo_e10 Tr2i57 kv0 s0 s1 ?_
              intro x2i58 ex2i58 lx2i58 ux2i58
              have sx2i58 : (vA h (v0 + 10) v1) = x2i58 := (ex2i58.trans (by rw [gr2i57_2 (v0 + 10) v1])).symm
              subst sx2i58
              have o59 : vI r2i57 v0 41 = vI h v0 41 := (by rw [gr2i57_0 v0 41 (by omega)])
              have o60 : vA r2i57 (v0 + 22) (vI h v0 42) = vA h (v0 + 22) (vI h v0 42) := (by rw [gr2i57_2 (v0 + 22) (vI h v0 42)])
              refine p_Mod_exchange_81 (v0 := v0) (v1 := v1) (v2 := (yr7)) (v3 := (vA h (v0 + 10) v1)) Tr2i57 kv0 wM s0 s1 lx2i58 ux2i58 (zz_66a8b72997 cc56) (zz_92ad2bc9b2 cc56) (zz_e53193f026 o59 ab) (by show vA r2i57 (v0 + 22) (vI r2i57 v0 42) ≤ 245; have qc1 : vI r2i57 v0 42 = (vI h v0 42) := (by rw [gr2i57_0 v0 42 (by omega)]); rw [qc1]; exact zz_b98d7d364b o60 hc ab) hN ?_
              · intro  h_w61 Tw61 gw61_0 gw61_1 gw61_2 gw61_3 gw61_4 gw61_5 gw61_6
                have qh42_gw61_0 : vI r2i57 v0 42 = (vI h v0 42) := by rw [gr2i57_0 v0 42 (by omega)]
                rw [qh42_gw61_0] at gw61_2
                rw [qh42_gw61_0] at gw61_3
                rw [qh42_gw61_0] at gw61_5
                have o62 : vI r2i57 v0 48 = 1 := (by rw [gr2i57_1])
                have o63 := g_Mo_e22 T kv0 (vI h v0 42)
                have o64 := g_Mo_41 T kv0
                have o65 : vA h_w61 (v0 + 10) v1 = vA h (v0 + 10) v1 := (by rw [gw61_1 (v0 + 10) v1 s0 (by omega), gr2i57_2 (v0 + 10) v1])
                have o66 := g_Mo_42 T kv0
                have o67 : vA h_w61 (v0 + 22) (vI h v0 42) = (vA r2i57 (v0 + 22) (vI h v0 42)) + 1 := (by rw [gw61_5])
                refine qk_mono (ih (v0) (v1) h_w61 Tw61 kv0 wM s0 s1 (zz_de4e9ec17f o62 gw61_6) (by show vA h_w61 (v0 + 22) (vI h_w61 v0 42) ≤ vI h_w61 v0 41; have qc1 : vI h_w61 v0 42 = (vI h v0 42) := (by rw [gw61_0 v0 42 (by omega), gr2i57_0 v0 42 (by omega)]); rw [qc1]; exact zz_bd7ae6d45f o60 o59 hc gw61_4 gw61_5 o63 o64) (zz_b87ea457ca cc54 cc56) (by show 300 * vI h_w61 v0 42 ≤ vA h_w61 (v0 + 10) v1; have qc1 : vI h_w61 v0 42 = (vI h v0 42) := (by rw [gw61_0 v0 42 (by omega), gr2i57_0 v0 42 (by omega)]); rw [qc1]; exact zz_548c269c5c o65 f0_ o66) (by show vA h_w61 (v0 + 10) v1 ≤ 300 * vI h_w61 v0 42 + vA h_w61 (v0 + 22) (vI h_w61 v0 42); have qc1 : vI h_w61 v0 42 = (vI h v0 42) := (by rw [gw61_0 v0 42 (by omega), gr2i57_0 v0 42 (by omega)]); rw [qc1]; exact zz_fa8a8c0e54 o65 o60 f1_ gw61_5 o63 o66 o67) hN (zz_6de26f5e96 cc54 cc56)) ?_
                rintro hz ⟨Tz, g0, g1, g2, g3, g4, g5, g6, g7, g8⟩
                try dsimp only at *
                have qh42_g0 : vI h_w61 v0 42 = (vI h v0 42) := by rw [gw61_0 v0 42 (by omega), gr2i57_0 v0 42 (by omega)]
                rw [qh42_g0] at g2
                rw [qh42_g0] at g3
                rw [qh42_g0] at g6
                rw [qh42_g0] at g8
                have o69 : vI h_w61 v0 41 = (vI r2i57 v0 41) + 1 := (by rw [gw61_4])
                have o70 : vI h_w61 v0 3 = vI h v0 3 := (by rw [gw61_0 v0 3 (by omega), gr2i57_0 v0 3 (by omega)])
                have o71 := g_Mo_e12 Tz kv0 v1
                have o72 := g_Mo_e22 Tz kv0 (vI h v0 42)
                have o73 := g_Mo_e10 T kv0 v1
                exact ⟨Tz, (by clear ih; show ∀ a k, ¬ (a = v0 ∧ (k = 5 ∨ k = 48 ∨ k = 41)) → vI hz a k = vI h a k; intro a k n0; rw [g0 a k (by omega), gw61_0 a k (by omega), gr2i57_0 a k (by omega)]), (by clear ih; show ∀ a j, 0 ≤ j → ¬ (a = v0 + 12 ∨ a = v0 + 11 ∨ a = v0 + 22 ∨ a = v0 + 28) → vA hz a j = vA h a j; intro a j j0 n0; rw [g1 a j j0 (by omega), gw61_1 a j j0 (by omega), gr2i57_2 a j]), (by clear ih; show ∀ j, 0 ≤ j → j ≠ vI h v0 42 → vA hz (v0 + 22) j = vA h (v0 + 22) j; intro j j0 n0; rw [g2 j j0 n0, gw61_2 j j0 n0, gr2i57_2 (v0 + 22) j]), (by clear ih; show ∀ j, 0 ≤ j → (j < (300 * vI h v0 42 + vA h (v0 + 22) (vI h v0 42)) ∨ 300 * vI h v0 42 + 300 ≤ j) → vA hz (v0 + 28) j = vA h (v0 + 28) j; intro j j0 n0; rw [g3 j j0 (zz_1db3176692 o60 gw61_5 n0 o66 o63 o67), gw61_3 j j0 (zz_ced763ca4e o60 n0 o66 o63), gr2i57_2 (v0 + 28) j]), (by clear ih; show ∀ j, 0 ≤ j → j ≠ v1 → vA hz (v0 + 12) j = vA h (v0 + 12) j ∧ vA hz (v0 + 11) j = vA h (v0 + 11) j; intro j j0 n0; exact ⟨(by rw [(g4 j j0 n0).1, gw61_1 (v0 + 12) j j0 (by omega), gr2i57_2 (v0 + 12) j]), (by rw [(g4 j j0 n0).2, gw61_1 (v0 + 11) j j0 (by omega), gr2i57_2 (v0 + 11) j])⟩), (zz_f7b0d02e92 o69 o59 g5 o70 o64), (zz_82a62601c9 o67 o60 g6 o63), (zz_534a01e5a8 o69 o59 g7 o64), (zz_719ffd7a7b g8 o65 o71 o66 o72 o73)⟩
            · skip
              refine r_Mo_41 T kv0 ?_
              intro x2i55 ex2i55 lx2i55 ux2i55
              subst ex2i55
              unfold f_Mod_exchange_71
              refine r_Mo_o T kv0 ?_
              refine c_Mod_wrong (v0 := v0) (v1 := (vI h v0 41)) T kv0 wM ?_
              intro r2i74 Tr2i74 gr2i74_0 gr2i74_1 gr2i74_2
              unfold f_Mod_exchange_74
              refine r_Mo_15 Tr2i74 kv0 ?_
              refine r_Mo_e10 Tr2i74 kv0 s0 s1 ?_
              intro x2i75 ex2i75 lx2i75 ux2i75
              have sx2i75 : (vA h (v0 + 10) v1) = x2i75 := (ex2i75.trans (by rw [gr2i74_2 (v0 + 10) v1])).symm
              subst sx2i75
              have o76 : vI r2i74 v0 41 = vI h v0 41 := (by rw [gr2i74_0 v0 41 (by omega)])
              have o77 : vA r2i74 (v0 + 22) (vI h v0 42) = vA h (v0 + 22) (vI h v0 42) := (by rw [gr2i74_2 (v0 + 22) (vI h v0 42)])
              refine p_Mod_exchange_81 (v0 := v0) (v1 := v1) (v2 := (yr7)) (v3 := (vA h (v0 + 10) v1)) Tr2i74 kv0 wM s0 s1 lx2i75 ux2i75 (zz_a910293429 cc54) (zz_5551669c43 cc54) (zz_e53193f026 o76 ab) (by show vA r2i74 (v0 + 22) (vI r2i74 v0 42) ≤ 245; have qc1 : vI r2i74 v0 42 = (vI h v0 42) := (by rw [gr2i74_0 v0 42 (by omega)]); rw [qc1]; exact zz_b98d7d364b o77 hc ab) hN ?_
              · intro  h_w78 Tw78 gw78_0 gw78_1 gw78_2 gw78_3 gw78_4 gw78_5 gw78_6
                have qh42_gw78_0 : vI r2i74 v0 42 = (vI h v0 42) := by rw [gr2i74_0 v0 42 (by omega)]
                rw [qh42_gw78_0] at gw78_2
                rw [qh42_gw78_0] at gw78_3
                rw [qh42_gw78_0] at gw78_5
                have o79 : vI r2i74 v0 48 = 1 := (by rw [gr2i74_1])
                have o80 := g_Mo_e22 T kv0 (vI h v0 42)
                have o81 := g_Mo_41 T kv0
                have o82 := g_Mo_3 T kv0
                have o83 : vA h_w78 (v0 + 10) v1 = vA h (v0 + 10) v1 := (by rw [gw78_1 (v0 + 10) v1 s0 (by omega), gr2i74_2 (v0 + 10) v1])
                have o84 := g_Mo_42 T kv0
                have o85 : vA h_w78 (v0 + 22) (vI h v0 42) = (vA r2i74 (v0 + 22) (vI h v0 42)) + 1 := (by rw [gw78_5])
                refine qk_mono (ih (v0) (v1) h_w78 Tw78 kv0 wM s0 s1 (zz_de4e9ec17f o79 gw78_6) (by show vA h_w78 (v0 + 22) (vI h_w78 v0 42) ≤ vI h_w78 v0 41; have qc1 : vI h_w78 v0 42 = (vI h v0 42) := (by rw [gw78_0 v0 42 (by omega), gr2i74_0 v0 42 (by omega)]); rw [qc1]; exact zz_bd7ae6d45f o77 o76 hc gw78_4 gw78_5 o80 o81) (zz_5aa0736916 o76 o82 gr7_2 gw78_4 cc54 o81) (by show 300 * vI h_w78 v0 42 ≤ vA h_w78 (v0 + 10) v1; have qc1 : vI h_w78 v0 42 = (vI h v0 42) := (by rw [gw78_0 v0 42 (by omega), gr2i74_0 v0 42 (by omega)]); rw [qc1]; exact zz_548c269c5c o83 f0_ o84) (by show vA h_w78 (v0 + 10) v1 ≤ 300 * vI h_w78 v0 42 + vA h_w78 (v0 + 22) (vI h_w78 v0 42); have qc1 : vI h_w78 v0 42 = (vI h v0 42) := (by rw [gw78_0 v0 42 (by omega), gr2i74_0 v0 42 (by omega)]); rw [qc1]; exact zz_fa8a8c0e54 o83 o77 f1_ gw78_5 o80 o84 o85) hN (zz_f0a3cf3089 o76 hms hq1 gr7_3 gw78_4 cc1 cc54 o81 hq2 hq3)) ?_
                rintro hz ⟨Tz, g0, g1, g2, g3, g4, g5, g6, g7, g8⟩
                try dsimp only at *
                have qh42_g0 : vI h_w78 v0 42 = (vI h v0 42) := by rw [gw78_0 v0 42 (by omega), gr2i74_0 v0 42 (by omega)]
                rw [qh42_g0] at g2
                rw [qh42_g0] at g3
                rw [qh42_g0] at g6
                rw [qh42_g0] at g8
                have o87 : vI h_w78 v0 41 = (vI r2i74 v0 41) + 1 := (by rw [gw78_4])
                have o88 : vI h_w78 v0 3 = vI h v0 3 := (by rw [gw78_0 v0 3 (by omega), gr2i74_0 v0 3 (by omega)])
                have o89 := g_Mo_e12 Tz kv0 v1
                have o90 := g_Mo_e22 Tz kv0 (vI h v0 42)
                have o91 := g_Mo_e10 T kv0 v1
                exact ⟨Tz, (by clear ih; show ∀ a k, ¬ (a = v0 ∧ (k = 5 ∨ k = 48 ∨ k = 41)) → vI hz a k = vI h a k; intro a k n0; rw [g0 a k (by omega), gw78_0 a k (by omega), gr2i74_0 a k (by omega)]), (by clear ih; show ∀ a j, 0 ≤ j → ¬ (a = v0 + 12 ∨ a = v0 + 11 ∨ a = v0 + 22 ∨ a = v0 + 28) → vA hz a j = vA h a j; intro a j j0 n0; rw [g1 a j j0 (by omega), gw78_1 a j j0 (by omega), gr2i74_2 a j]), (by clear ih; show ∀ j, 0 ≤ j → j ≠ vI h v0 42 → vA hz (v0 + 22) j = vA h (v0 + 22) j; intro j j0 n0; rw [g2 j j0 n0, gw78_2 j j0 n0, gr2i74_2 (v0 + 22) j]), (by clear ih; show ∀ j, 0 ≤ j → (j < (300 * vI h v0 42 + vA h (v0 + 22) (vI h v0 42)) ∨ 300 * vI h v0 42 + 300 ≤ j) → vA hz (v0 + 28) j = vA h (v0 + 28) j; intro j j0 n0; rw [g3 j j0 (zz_1db3176692 o77 gw78_5 n0 o84 o80 o85), gw78_3 j j0 (zz_ced763ca4e o77 n0 o84 o80), gr2i74_2 (v0 + 28) j]), (by clear ih; show ∀ j, 0 ≤ j → j ≠ v1 → vA hz (v0 + 12) j = vA h (v0 + 12) j ∧ vA hz (v0 + 11) j = vA h (v0 + 11) j; intro j j0 n0; exact ⟨(by rw [(g4 j j0 n0).1, gw78_1 (v0 + 12) j j0 (by omega), gr2i74_2 (v0 + 12) j]), (by rw [(g4 j j0 n0).2, gw78_1 (v0 + 11) j j0 (by omega), gr2i74_2 (v0 + 11) j])⟩), (zz_f7b0d02e92 o87 o76 g5 o88 o81), (zz_82a62601c9 o85 o77 g6 o80), (zz_534a01e5a8 o87 o76 g7 o81), (zz_719ffd7a7b g8 o83 o89 o84 o90 o91)⟩
          · skip
            refine qk_if (fun cc92 => ?_) (fun cc92 => ?_)
            · skip
              unfold f_Mod_exchange_54
              refine qk_if (fun cc94 => ?_) (fun cc94 => ?_)
              · skip
                refine r_Mo_3 T kv0 ?_
                intro x3i93 ex3i93 lx3i93 ux3i93
                subst ex3i93
                unfold f_Mod_exchange_71
                refine r_Mo_o T kv0 ?_
                refine c_Mod_wrong (v0 := v0) (v1 := (vI h v0 3)) T kv0 wM ?_
                intro r2i95 Tr2i95 gr2i95_0 gr2i95_1 gr2i95_2
                unfold f_Mod_exchange_74
                refine r_Mo_15 Tr2i95 kv0 ?_
                refine r_Mo_e10 Tr2i95 kv0 s0 s1 ?_
                intro x2i96 ex2i96 lx2i96 ux2i96
                have sx2i96 : (vA h (v0 + 10) v1) = x2i96 := (ex2i96.trans (by rw [gr2i95_2 (v0 + 10) v1])).symm
                subst sx2i96
                have o97 : vI r2i95 v0 41 = vI h v0 41 := (by rw [gr2i95_0 v0 41 (by omega)])
                have o98 : vA r2i95 (v0 + 22) (vI h v0 42) = vA h (v0 + 22) (vI h v0 42) := (by rw [gr2i95_2 (v0 + 22) (vI h v0 42)])
                refine p_Mod_exchange_81 (v0 := v0) (v1 := v1) (v2 := (yr7)) (v3 := (vA h (v0 + 10) v1)) Tr2i95 kv0 wM s0 s1 lx2i96 ux2i96 (zz_66a8b72997 cc94) (zz_92ad2bc9b2 cc94) (zz_e53193f026 o97 ab) (by show vA r2i95 (v0 + 22) (vI r2i95 v0 42) ≤ 245; have qc1 : vI r2i95 v0 42 = (vI h v0 42) := (by rw [gr2i95_0 v0 42 (by omega)]); rw [qc1]; exact zz_b98d7d364b o98 hc ab) hN ?_
                · intro  h_w99 Tw99 gw99_0 gw99_1 gw99_2 gw99_3 gw99_4 gw99_5 gw99_6
                  have qh42_gw99_0 : vI r2i95 v0 42 = (vI h v0 42) := by rw [gr2i95_0 v0 42 (by omega)]
                  rw [qh42_gw99_0] at gw99_2
                  rw [qh42_gw99_0] at gw99_3
                  rw [qh42_gw99_0] at gw99_5
                  have o100 : vI r2i95 v0 48 = 1 := (by rw [gr2i95_1])
                  have o101 := g_Mo_e22 T kv0 (vI h v0 42)
                  have o102 := g_Mo_41 T kv0
                  have o103 : vA h_w99 (v0 + 10) v1 = vA h (v0 + 10) v1 := (by rw [gw99_1 (v0 + 10) v1 s0 (by omega), gr2i95_2 (v0 + 10) v1])
                  have o104 := g_Mo_42 T kv0
                  have o105 : vA h_w99 (v0 + 22) (vI h v0 42) = (vA r2i95 (v0 + 22) (vI h v0 42)) + 1 := (by rw [gw99_5])
                  refine qk_mono (ih (v0) (v1) h_w99 Tw99 kv0 wM s0 s1 (zz_de4e9ec17f o100 gw99_6) (by show vA h_w99 (v0 + 22) (vI h_w99 v0 42) ≤ vI h_w99 v0 41; have qc1 : vI h_w99 v0 42 = (vI h v0 42) := (by rw [gw99_0 v0 42 (by omega), gr2i95_0 v0 42 (by omega)]); rw [qc1]; exact zz_bd7ae6d45f o98 o97 hc gw99_4 gw99_5 o101 o102) (zz_0d8a5b58df cc92 cc94) (by show 300 * vI h_w99 v0 42 ≤ vA h_w99 (v0 + 10) v1; have qc1 : vI h_w99 v0 42 = (vI h v0 42) := (by rw [gw99_0 v0 42 (by omega), gr2i95_0 v0 42 (by omega)]); rw [qc1]; exact zz_548c269c5c o103 f0_ o104) (by show vA h_w99 (v0 + 10) v1 ≤ 300 * vI h_w99 v0 42 + vA h_w99 (v0 + 22) (vI h_w99 v0 42); have qc1 : vI h_w99 v0 42 = (vI h v0 42) := (by rw [gw99_0 v0 42 (by omega), gr2i95_0 v0 42 (by omega)]); rw [qc1]; exact zz_fa8a8c0e54 o103 o98 f1_ gw99_5 o101 o104 o105) hN (zz_de2c277cb8 cc92 cc94)) ?_
                  rintro hz ⟨Tz, g0, g1, g2, g3, g4, g5, g6, g7, g8⟩
                  try dsimp only at *
                  have qh42_g0 : vI h_w99 v0 42 = (vI h v0 42) := by rw [gw99_0 v0 42 (by omega), gr2i95_0 v0 42 (by omega)]
                  rw [qh42_g0] at g2
                  rw [qh42_g0] at g3
                  rw [qh42_g0] at g6
                  rw [qh42_g0] at g8
                  have o107 : vI h_w99 v0 41 = (vI r2i95 v0 41) + 1 := (by rw [gw99_4])
                  have o108 : vI h_w99 v0 3 = vI h v0 3 := (by rw [gw99_0 v0 3 (by omega), gr2i95_0 v0 3 (by omega)])
                  have o109 := g_Mo_e12 Tz kv0 v1
                  have o110 := g_Mo_e22 Tz kv0 (vI h v0 42)
                  have o111 := g_Mo_e10 T kv0 v1
                  exact ⟨Tz, (by clear ih; show ∀ a k, ¬ (a = v0 ∧ (k = 5 ∨ k = 48 ∨ k = 41)) → vI hz a k = vI h a k; intro a k n0; rw [g0 a k (by omega), gw99_0 a k (by omega), gr2i95_0 a k (by omega)]), (by clear ih; show ∀ a j, 0 ≤ j → ¬ (a = v0 + 12 ∨ a = v0 + 11 ∨ a = v0 + 22 ∨ a = v0 + 28) → vA hz a j = vA h a j; intro a j j0 n0; rw [g1 a j j0 (by omega), gw99_1 a j j0 (by omega), gr2i95_2 a j]), (by clear ih; show ∀ j, 0 ≤ j → j ≠ vI h v0 42 → vA hz (v0 + 22) j = vA h (v0 + 22) j; intro j j0 n0; rw [g2 j j0 n0, gw99_2 j j0 n0, gr2i95_2 (v0 + 22) j]), (by clear ih; show ∀ j, 0 ≤ j → (j < (300 * vI h v0 42 + vA h (v0 + 22) (vI h v0 42)) ∨ 300 * vI h v0 42 + 300 ≤ j) → vA hz (v0 + 28) j = vA h (v0 + 28) j; intro j j0 n0; rw [g3 j j0 (zz_1db3176692 o98 gw99_5 n0 o104 o101 o105), gw99_3 j j0 (zz_ced763ca4e o98 n0 o104 o101), gr2i95_2 (v0 + 28) j]), (by clear ih; show ∀ j, 0 ≤ j → j ≠ v1 → vA hz (v0 + 12) j = vA h (v0 + 12) j ∧ vA hz (v0 + 11) j = vA h (v0 + 11) j; intro j j0 n0; exact ⟨(by rw [(g4 j j0 n0).1, gw99_1 (v0 + 12) j j0 (by omega), gr2i95_2 (v0 + 12) j]), (by rw [(g4 j j0 n0).2, gw99_1 (v0 + 11) j j0 (by omega), gr2i95_2 (v0 + 11) j])⟩), (zz_f7b0d02e92 o107 o97 g5 o108 o102), (zz_82a62601c9 o105 o98 g6 o101), (zz_534a01e5a8 o107 o97 g7 o102), (zz_719ffd7a7b g8 o103 o109 o104 o110 o111)⟩
              · skip
                refine r_Mo_41 T kv0 ?_
                intro x2i93 ex2i93 lx2i93 ux2i93
                subst ex2i93
                unfold f_Mod_exchange_71
                refine r_Mo_o T kv0 ?_
                refine c_Mod_wrong (v0 := v0) (v1 := (vI h v0 41)) T kv0 wM ?_
                intro r2i112 Tr2i112 gr2i112_0 gr2i112_1 gr2i112_2
                unfold f_Mod_exchange_74
                refine r_Mo_15 Tr2i112 kv0 ?_
                refine r_Mo_e10 Tr2i112 kv0 s0 s1 ?_
                intro x2i113 ex2i113 lx2i113 ux2i113
                have sx2i113 : (vA h (v0 + 10) v1) = x2i113 := (ex2i113.trans (by rw [gr2i112_2 (v0 + 10) v1])).symm
                subst sx2i113
                have o114 : vI r2i112 v0 41 = vI h v0 41 := (by rw [gr2i112_0 v0 41 (by omega)])
                have o115 : vA r2i112 (v0 + 22) (vI h v0 42) = vA h (v0 + 22) (vI h v0 42) := (by rw [gr2i112_2 (v0 + 22) (vI h v0 42)])
                refine p_Mod_exchange_81 (v0 := v0) (v1 := v1) (v2 := (yr7)) (v3 := (vA h (v0 + 10) v1)) Tr2i112 kv0 wM s0 s1 lx2i113 ux2i113 (zz_8c2a257ba7 cc92) (zz_c61a661ba8 cc92) (zz_e53193f026 o114 ab) (by show vA r2i112 (v0 + 22) (vI r2i112 v0 42) ≤ 245; have qc1 : vI r2i112 v0 42 = (vI h v0 42) := (by rw [gr2i112_0 v0 42 (by omega)]); rw [qc1]; exact zz_b98d7d364b o115 hc ab) hN ?_
                · intro  h_w116 Tw116 gw116_0 gw116_1 gw116_2 gw116_3 gw116_4 gw116_5 gw116_6
                  have qh42_gw116_0 : vI r2i112 v0 42 = (vI h v0 42) := by rw [gr2i112_0 v0 42 (by omega)]
                  rw [qh42_gw116_0] at gw116_2
                  rw [qh42_gw116_0] at gw116_3
                  rw [qh42_gw116_0] at gw116_5
                  have o117 : vI r2i112 v0 48 = 1 := (by rw [gr2i112_1])
                  have o118 := g_Mo_e22 T kv0 (vI h v0 42)
                  have o119 := g_Mo_41 T kv0
                  have o120 := g_Mo_3 T kv0
                  have o121 : vA h_w116 (v0 + 10) v1 = vA h (v0 + 10) v1 := (by rw [gw116_1 (v0 + 10) v1 s0 (by omega), gr2i112_2 (v0 + 10) v1])
                  have o122 := g_Mo_42 T kv0
                  have o123 : vA h_w116 (v0 + 22) (vI h v0 42) = (vA r2i112 (v0 + 22) (vI h v0 42)) + 1 := (by rw [gw116_5])
                  refine qk_mono (ih (v0) (v1) h_w116 Tw116 kv0 wM s0 s1 (zz_de4e9ec17f o117 gw116_6) (by show vA h_w116 (v0 + 22) (vI h_w116 v0 42) ≤ vI h_w116 v0 41; have qc1 : vI h_w116 v0 42 = (vI h v0 42) := (by rw [gw116_0 v0 42 (by omega), gr2i112_0 v0 42 (by omega)]); rw [qc1]; exact zz_bd7ae6d45f o115 o114 hc gw116_4 gw116_5 o118 o119) (zz_32f5387a69 o114 o120 gr7_2 gw116_4 cc92 o119) (by show 300 * vI h_w116 v0 42 ≤ vA h_w116 (v0 + 10) v1; have qc1 : vI h_w116 v0 42 = (vI h v0 42) := (by rw [gw116_0 v0 42 (by omega), gr2i112_0 v0 42 (by omega)]); rw [qc1]; exact zz_548c269c5c o121 f0_ o122) (by show vA h_w116 (v0 + 10) v1 ≤ 300 * vI h_w116 v0 42 + vA h_w116 (v0 + 22) (vI h_w116 v0 42); have qc1 : vI h_w116 v0 42 = (vI h v0 42) := (by rw [gw116_0 v0 42 (by omega), gr2i112_0 v0 42 (by omega)]); rw [qc1]; exact zz_fa8a8c0e54 o121 o115 f1_ gw116_5 o118 o122 o123) hN (zz_2539e59e0f o114 hms hq1 gr7_3 gw116_4 cc1 cc92 o119 hq2 hq3)) ?_
                  rintro hz ⟨Tz, g0, g1, g2, g3, g4, g5, g6, g7, g8⟩
                  try dsimp only at *
                  have qh42_g0 : vI h_w116 v0 42 = (vI h v0 42) := by rw [gw116_0 v0 42 (by omega), gr2i112_0 v0 42 (by omega)]
                  rw [qh42_g0] at g2
                  rw [qh42_g0] at g3
                  rw [qh42_g0] at g6
                  rw [qh42_g0] at g8
                  have o125 : vI h_w116 v0 41 = (vI r2i112 v0 41) + 1 := (by rw [gw116_4])
                  have o126 : vI h_w116 v0 3 = vI h v0 3 := (by rw [gw116_0 v0 3 (by omega), gr2i112_0 v0 3 (by omega)])
                  have o127 := g_Mo_e12 Tz kv0 v1
                  have o128 := g_Mo_e22 Tz kv0 (vI h v0 42)
                  have o129 := g_Mo_e10 T kv0 v1
                  exact ⟨Tz, (by clear ih; show ∀ a k, ¬ (a = v0 ∧ (k = 5 ∨ k = 48 ∨ k = 41)) → vI hz a k = vI h a k; intro a k n0; rw [g0 a k (by omega), gw116_0 a k (by omega), gr2i112_0 a k (by omega)]), (by clear ih; show ∀ a j, 0 ≤ j → ¬ (a = v0 + 12 ∨ a = v0 + 11 ∨ a = v0 + 22 ∨ a = v0 + 28) → vA hz a j = vA h a j; intro a j j0 n0; rw [g1 a j j0 (by omega), gw116_1 a j j0 (by omega), gr2i112_2 a j]), (by clear ih; show ∀ j, 0 ≤ j → j ≠ vI h v0 42 → vA hz (v0 + 22) j = vA h (v0 + 22) j; intro j j0 n0; rw [g2 j j0 n0, gw116_2 j j0 n0, gr2i112_2 (v0 + 22) j]), (by clear ih; show ∀ j, 0 ≤ j → (j < (300 * vI h v0 42 + vA h (v0 + 22) (vI h v0 42)) ∨ 300 * vI h v0 42 + 300 ≤ j) → vA hz (v0 + 28) j = vA h (v0 + 28) j; intro j j0 n0; rw [g3 j j0 (zz_1db3176692 o115 gw116_5 n0 o122 o118 o123), gw116_3 j j0 (zz_ced763ca4e o115 n0 o122 o118), gr2i112_2 (v0 + 28) j]), (by clear ih; show ∀ j, 0 ≤ j → j ≠ v1 → vA hz (v0 + 12) j = vA h (v0 + 12) j ∧ vA hz (v0 + 11) j = vA h (v0 + 11) j; intro j j0 n0; exact ⟨(by rw [(g4 j j0 n0).1, gw116_1 (v0 + 12) j j0 (by omega), gr2i112_2 (v0 + 12) j]), (by rw [(g4 j j0 n0).2, gw116_1 (v0 + 11) j j0 (by omega), gr2i112_2 (v0 + 11) j])⟩), (zz_f7b0d02e92 o125 o114 g5 o126 o119), (zz_82a62601c9 o123 o115 g6 o118), (zz_534a01e5a8 o125 o114 g7 o119), (zz_719ffd7a7b g8 o121 o127 o122 o128 o129)⟩
            · skip
              unfold f_Mod_exchange_74
              refine r_Mo_15 T kv0 ?_
              refine r_Mo_e10 T kv0 s0 s1 ?_
              intro x2i130 ex2i130 lx2i130 ux2i130
              subst ex2i130
              refine p_Mod_exchange_81 (v0 := v0) (v1 := v1) (v2 := (yr7)) (v3 := (vA h (v0 + 10) v1)) T kv0 wM s0 s1 lx2i130 ux2i130 (zz_265a939049 gr7_0) (zz_4e0f39b9c2 gr7_0) (zz_0a97775a0b ab) (zz_531da8b9c9 hc ab) hN ?_
              · intro  h_w131 Tw131 gw131_0 gw131_1 gw131_2 gw131_3 gw131_4 gw131_5 gw131_6
                have o132 : vI h_w131 v0 3 = vI h v0 3 := (by rw [gw131_0 v0 3 (by omega)])
                have o133 := g_Mo_41 T kv0
                have o134 := g_Mo_e22 T kv0 (vI h v0 42)
                have o135 : vA h_w131 (v0 + 10) v1 = vA h (v0 + 10) v1 := (by rw [gw131_1 (v0 + 10) v1 s0 (by omega)])
                have o136 := g_Mo_42 T kv0
                have o137 : vA h_w131 (v0 + 22) (vI h v0 42) = (vA h (v0 + 22) (vI h v0 42)) + 1 := (by rw [gw131_5])
                refine qk_mono (ih (v0) (v1) h_w131 Tw131 kv0 wM s0 s1 (zz_806fdafe5c o132 gr7_2 gw131_4 cc16 o133) (by show vA h_w131 (v0 + 22) (vI h_w131 v0 42) ≤ vI h_w131 v0 41; have qc1 : vI h_w131 v0 42 = (vI h v0 42) := (by rw [gw131_0 v0 42 (by omega)]); rw [qc1]; exact zz_09a34a4d5e hc gw131_4 gw131_5 o134 o133) (zz_f2e25e3fe3 gr7_3 gw131_4 cc16 o133) (by show 300 * vI h_w131 v0 42 ≤ vA h_w131 (v0 + 10) v1; have qc1 : vI h_w131 v0 42 = (vI h v0 42) := (by rw [gw131_0 v0 42 (by omega)]); rw [qc1]; exact zz_548c269c5c o135 f0_ o136) (by show vA h_w131 (v0 + 10) v1 ≤ 300 * vI h_w131 v0 42 + vA h_w131 (v0 + 22) (vI h_w131 v0 42); have qc1 : vI h_w131 v0 42 = (vI h v0 42) := (by rw [gw131_0 v0 42 (by omega)]); rw [qc1]; exact zz_9354c6b5a5 o135 f1_ gw131_5 o134 o136 o137) hN (zz_e9090279e7 hms hq1 gr7_3 gw131_4 cc1 cc16 o133 hq2 hq3)) ?_
                rintro hz ⟨Tz, g0, g1, g2, g3, g4, g5, g6, g7, g8⟩
                try dsimp only at *
                have qh42_g0 : vI h_w131 v0 42 = (vI h v0 42) := by rw [gw131_0 v0 42 (by omega)]
                rw [qh42_g0] at g2
                rw [qh42_g0] at g3
                rw [qh42_g0] at g6
                rw [qh42_g0] at g8
                have o139 : vI h_w131 v0 41 = (vI h v0 41) + 1 := (by rw [gw131_4])
                have o140 := g_Mo_e12 Tz kv0 v1
                have o141 := g_Mo_e22 Tz kv0 (vI h v0 42)
                have o142 := g_Mo_e10 T kv0 v1
                exact ⟨Tz, (by clear ih; show ∀ a k, ¬ (a = v0 ∧ (k = 5 ∨ k = 48 ∨ k = 41)) → vI hz a k = vI h a k; intro a k n0; rw [g0 a k (by omega), gw131_0 a k (by omega)]), (by clear ih; show ∀ a j, 0 ≤ j → ¬ (a = v0 + 12 ∨ a = v0 + 11 ∨ a = v0 + 22 ∨ a = v0 + 28) → vA hz a j = vA h a j; intro a j j0 n0; rw [g1 a j j0 (by omega), gw131_1 a j j0 (by omega)]), (by clear ih; show ∀ j, 0 ≤ j → j ≠ vI h v0 42 → vA hz (v0 + 22) j = vA h (v0 + 22) j; intro j j0 n0; rw [g2 j j0 n0, gw131_2 j j0 n0]), (by clear ih; show ∀ j, 0 ≤ j → (j < (300 * vI h v0 42 + vA h (v0 + 22) (vI h v0 42)) ∨ 300 * vI h v0 42 + 300 ≤ j) → vA hz (v0 + 28) j = vA h (v0 + 28) j; intro j j0 n0; rw [g3 j j0 (zz_cae39d7ebd gw131_5 n0 o136 o134 o137), gw131_3 j j0 (zz_40abd58e02 n0 o136 o134)]), (by clear ih; show ∀ j, 0 ≤ j → j ≠ v1 → vA hz (v0 + 12) j = vA h (v0 + 12) j ∧ vA hz (v0 + 11) j = vA h (v0 + 11) j; intro j j0 n0; exact ⟨(by rw [(g4 j j0 n0).1, gw131_1 (v0 + 12) j j0 (by omega)]), (by rw [(g4 j j0 n0).2, gw131_1 (v0 + 11) j j0 (by omega)])⟩), (zz_819b1e06dd o139 g5 o132 o133), (zz_e6eb486ba2 o137 g6 o134), (zz_527b460504 o139 g7 o133), (zz_719ffd7a7b g8 o135 o140 o136 o141 o142)⟩
    · skip
      unfold f_Mod_exchange_138
      refine r_Mo_41 T kv0 ?_
      intro x1i143 ex1i143 lx1i143 ux1i143
      subst ex1i143
      have o144 := g_Mo_41 T kv0
      refine w_Mo_41 T kv0 (wM _ (by omega) (by omega)) (zz_5664edf06b o144) (zz_c81e5df24d ab o144) ?_
      intro h2i143 Th2i143 ih2i143 ah2i143
      refine r_Mo_17 Th2i143 kv0 ?_
      refine r_Mo_o Th2i143 kv0 ?_
      refine c_Mod_stored (v0 := v0) Th2i143 kv0 ?_
      intro yr5i143 gr5i143_0
      have qh42_gr5i143_0 : vI h2i143 v0 42 = (vI h v0 42) := by rw [ih2i143 v0 42, if_neg (fun z => absurd z.2 (by decide))]
      rw [qh42_gr5i143_0] at gr5i143_0
      dsimp only
      have o145 := g_Mo_42 T kv0
      have o146 : vA h2i143 (v0 + 22) (vI h v0 42) = vA h (v0 + 22) (vI h v0 42) := (by rw [ah2i143 (v0 + 22) (vI h v0 42)])
      have o147 := g_Mo_e22 T kv0 (vI h v0 42)
      refine w_Mo_e12 Th2i143 kv0 (wM _ (by omega) (by omega)) s0 s1 (zz_5c2d5e4809 gr5i143_0 o145 o146 o147) (zz_cfc7a49901 gr5i143_0 o145 o146 o147) ?_
      intro h6i143 Th6i143 ih6i143 ah6i143
      refine r_Mo_17 Th6i143 kv0 ?_
      refine r_Mo_e12 Th6i143 kv0 s0 s1 ?_
      intro x8i143 ex8i143 lx8i143 ux8i143
      have sx8i143 : (yr5i143) = x8i143 := (ex8i143.trans (by rw [ah6i143 (v0 + 12) v1 s0, if_pos ⟨rfl, rfl⟩])).symm
      subst sx8i143
      refine r_Mo_15 Th6i143 kv0 ?_
      refine r_Mo_e10 Th6i143 kv0 s0 s1 ?_
      intro x10i143 ex10i143 lx10i143 ux10i143
      have sx10i143 : (vA h (v0 + 10) v1) = x10i143 := (ex10i143.trans (by rw [ah6i143 (v0 + 10) v1 s0, if_neg (fun z => absurd z.1 (by omega)), ah2i143 (v0 + 10) v1])).symm
      subst sx10i143
      refine qk_bs ?_
      have o148 : vI h6i143 v0 48 = vI h v0 48 := (by rw [ih6i143 v0 48, ih2i143 v0 48, if_neg (fun z => absurd z.2 (by decide))])
      have o149 : vA h6i143 (v0 + 22) (vI h v0 42) = vA h (v0 + 22) (vI h v0 42) := (by rw [ah6i143 (v0 + 22) (vI h v0 42) (g_Mo_42 T kv0).1, if_neg (fun z => absurd z.1 (by omega)), ah2i143 (v0 + 22) (vI h v0 42)])
      have o150 : vI h6i143 v0 41 = (vI h v0 41) + 1 := (by rw [ih6i143 v0 41, ih2i143 v0 41, if_pos ⟨rfl, rfl⟩])
      have o151 := g_Mo_e10 T kv0 v1
      have o152 : vA h6i143 (v0 + 12) v1 = yr5i143 := (by rw [ah6i143 (v0 + 12) v1 s0, if_pos ⟨rfl, rfl⟩])
      refine qk_mono (p_Mod_exchange_174 (v0 := v0) (v1 := v1) (v2 := ((yr5i143) - (vA h (v0 + 10) v1))) (v3 := 0) Th6i143 kv0 wM s0 s1 (zz_efa94eccad o148 cc1) (by show vA h6i143 (v0 + 22) (vI h6i143 v0 42) ≤ vI h6i143 v0 41; have qc1 : vI h6i143 v0 42 = (vI h v0 42) := (by rw [ih6i143 v0 42, ih2i143 v0 42, if_neg (fun z => absurd z.2 (by decide))]); rw [qc1]; exact zz_1aaf9e6a7f o149 o150 hc o144) (zz_a5b8a749ee o150 ab o144) (zz_d6592f534e f1_ gr5i143_0 o146 o145 o147 lx8i143 ux8i143 o151) (zz_90cc52f7ab f0_ o147 gr5i143_0 o146 o145 lx8i143 ux8i143 o151) (by decide) (zz_b75a9a1357 f1_ gr5i143_0 o146 o145 o147 lx8i143 ux8i143 o151) (by decide) (by show 300 * vI h6i143 v0 42 + vA h6i143 (v0 + 22) (vI h6i143 v0 42) = vA h6i143 (v0 + 12) v1 + 0; have qc1 : vI h6i143 v0 42 = (vI h v0 42) := (by rw [ih6i143 v0 42, ih2i143 v0 42, if_neg (fun z => absurd z.2 (by decide))]); rw [qc1]; exact zz_c498c22b3f o149 o152 gr5i143_0 o146 o145 o147 lx8i143 ux8i143) hN) ?_
      rintro hz ⟨Tz, g0, g1, g2, g3, g4, g5, g6, g7, g8, g9⟩
      try dsimp only at *
      have qh42_g0 : vI h6i143 v0 42 = (vI h v0 42) := by rw [ih6i143 v0 42, ih2i143 v0 42, if_neg (fun z => absurd z.2 (by decide))]
      rw [qh42_g0] at g2
      rw [qh42_g0] at g3
      rw [qh42_g0] at g6
      rw [qh42_g0] at g8
      have o154 : vI h6i143 v0 3 = vI h v0 3 := (by rw [ih6i143 v0 3, ih2i143 v0 3, if_neg (fun z => absurd z.2 (by decide))])
      have o155 : vA hz (v0 + 12) v1 = yr5i143 := (by rw [g1 (v0 + 12) v1 s0 (by omega), ah6i143 (v0 + 12) v1 s0, if_pos ⟨rfl, rfl⟩])
      have o156 := g_Mo_e22 Tz kv0 (vI h v0 42)
      exact ⟨Tz, (by clear ih; show ∀ a k, ¬ (a = v0 ∧ (k = 5 ∨ k = 48 ∨ k = 41)) → vI hz a k = vI h a k; intro a k n0; rw [g0 a k (by omega), ih6i143, ih2i143, if_neg (by omega)]), (by clear ih; show ∀ a j, 0 ≤ j → ¬ (a = v0 + 12 ∨ a = v0 + 11 ∨ a = v0 + 22 ∨ a = v0 + 28) → vA hz a j = vA h a j; intro a j j0 n0; rw [g1 a j j0 (by omega), ah6i143 a j j0, if_neg (by omega), ah2i143]), (by clear ih; show ∀ j, 0 ≤ j → j ≠ vI h v0 42 → vA hz (v0 + 22) j = vA h (v0 + 22) j; intro j j0 n0; rw [g2 j j0 n0, ah6i143 (v0 + 22) j j0, if_neg (fun z => absurd z.1 (by omega)), ah2i143 (v0 + 22) j]), (by clear ih; show ∀ j, 0 ≤ j → (j < (300 * vI h v0 42 + vA h (v0 + 22) (vI h v0 42)) ∨ 300 * vI h v0 42 + 300 ≤ j) → vA hz (v0 + 28) j = vA h (v0 + 28) j; intro j j0 n0; rw [g3 j j0 (zz_ced763ca4e o149 n0 o145 o147), ah6i143 (v0 + 28) j j0, if_neg (fun z => absurd z.1 (by omega)), ah2i143 (v0 + 28) j]), (by clear ih; show ∀ j, 0 ≤ j → j ≠ v1 → vA hz (v0 + 12) j = vA h (v0 + 12) j ∧ vA hz (v0 + 11) j = vA h (v0 + 11) j; intro j j0 n0; exact ⟨(by rw [g1 (v0 + 12) j j0 (by omega), ah6i143 (v0 + 12) j j0, if_neg (fun z => absurd z.2 (zz_946771669d n0)), ah2i143 (v0 + 12) j]), (by rw [g4 j j0 n0, ah6i143 (v0 + 11) j j0, if_neg (fun z => absurd z.1 (by omega)), ah2i143 (v0 + 11) j])⟩), (zz_a5143cc316 g5 o150 o154 o144), (zz_3745968dd1 g6 o149), (zz_61161f2204 o150 g7 o144), (zz_49f0953ed1 o155 f1_ gr5i143_0 o146 g8 g9 o152 lx8i143 ux8i143 o151 o145 o156 o147)⟩
theorem p_Mod_exchange_16 {L : q_L} {W : Nat → Prop} {h0 : z_H} {π : Nat → Nat → Option Nat} {N : Nat} {h : z_H} {v0 : Nat} {v1 : Int32} (T : q_U L W h0 π h) (kv0 : q_M L π v0) (wM : ∀ a, v0 ≤ a → a < v0 + 46 → W a) (s0 : 0 ≤ v1) (s1 : v1 < 80) (hl : vI h v0 48 = 0 → vI h v0 41 ≤ vI h v0 3) (hc : vA h (v0 + 22) (vI h v0 42) ≤ vI h v0 41) (ab : vI h v0 41 ≤ 242) (f0_ : 300 * vI h v0 42 ≤ vA h (v0 + 10) v1) (f1_ : vA h (v0 + 10) v1 ≤ 300 * vI h v0 42 + vA h (v0 + 22) (vI h v0 42)) (hN : 100000 ≤ N) : qk (f_Mod_exchange_16 N  N v0 v1 h) (fun r => q_U L W h0 π r ∧ (∀ a k, ¬ (a = v0 ∧ (k = 5 ∨ k = 48 ∨ k = 41)) → vI r a k = vI h a k) ∧ (∀ a j, 0 ≤ j → ¬ (a = v0 + 12 ∨ a = v0 + 11 ∨ a = v0 + 22 ∨ a = v0 + 28) → vA r a j = vA h a j) ∧ (∀ j, 0 ≤ j → j ≠ vI h v0 42 → vA r (v0 + 22) j = vA h (v0 + 22) j) ∧ (∀ j, 0 ≤ j → (j < (300 * vI h v0 42 + vA h (v0 + 22) (vI h v0 42)) ∨ 300 * vI h v0 42 + 300 ≤ j) → vA r (v0 + 28) j = vA h (v0 + 28) j) ∧ (∀ j, 0 ≤ j → j ≠ v1 → vA r (v0 + 12) j = vA h (v0 + 12) j ∧ vA r (v0 + 11) j = vA h (v0 + 11) j) ∧ (vI r v0 48 = 0 → vI h v0 41 < vI r v0 41 ∧ vI r v0 41 ≤ vI h v0 3) ∧ (vA h (v0 + 22) (vI h v0 42) ≤ vA r (v0 + 22) (vI h v0 42) ∧ vA r (v0 + 22) (vI h v0 42) ≤ vI r v0 41) ∧ (vI h v0 41 ≤ vI r v0 41 ∧ vI r v0 41 ≤ 248) ∧ (vI r v0 48 = 0 → vA h (v0 + 10) v1 ≤ vA r (v0 + 12) v1 ∧ vA r (v0 + 11) v1 = vA r (v0 + 12) v1 + (vA r (v0 + 12) v1 - vA h (v0 + 10) v1) ∧ vA r (v0 + 11) v1 = 300 * vI h v0 42 + vA r (v0 + 22) (vI h v0 42))) := by
  have hq := q_qnN hN
  have rg_at := g_Mo_41 T kv0
  refine p_Mod_exchange_16_n (q_lo (M := 301) (by decide) (by decide)) N v0 v1 h T kv0 wM s0 s1 hl hc ab f0_ f1_ hN ?_ 
  show 301 - q_n N ≤ _
  rw [hq]
  split <;> lia
