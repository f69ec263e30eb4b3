/-- a pattern of the reference that may be walked -/
def q_PM (h : z_H) (v0 : Nat) (q : Int32) : Prop := 0 ≤ vA h (v0 + 23) q ∧ vA h (v0 + 23) q ≤ vA h (v0 + 24) q ∧ vA h (v0 + 24) q ≤ 520 ∧ q_VM (vA h (v0 + 26)) (vA h (v0 + 27)) (vA h (v0 + 23) q) (vA h (v0 + 24) q)
theorem q_PM_of {h' : z_H} {v0 : Nat} {q : Int32} {kd gr : Int32 → Int32} {f s g o r : Int32} (J : q_JM kd gr f s g o r) (e : ∀ j, 0 ≤ j → j < s → vA h' (v0 + 26) j = kd j ∧ vA h' (v0 + 27) j = gr j) (e1 : vA h' (v0 + 23) q = f) (e2 : vA h' (v0 + 24) q = s) : q_PM h' v0 q := by
  obtain ⟨a1, a2, a3, a4, a5, V, a6⟩ := J
  unfold q_PM
  rw [e1, e2]
  exact ⟨a1, a2, a3, q_VM_eq V.1 a1 e⟩
theorem zz_c81e5df24d {a1 : Int32} (h0 : a1 ≤ 242) (h1 : (0 ≤ a1) ∧ (a1 ≤ 250)) : a1 + 1 ≤ 250 := by simp only [Int32.le_iff_toInt_le, Int32.lt_iff_toInt_lt, ← Int32.toInt_inj, ne_eq] at *; have l0 : (242 : Int32).toInt = 242 := (by decide); have l1 : (0 : Int32).toInt = 0 := (by decide); have l2 : (250 : Int32).toInt = 250 := (by decide); have l3 : (1 : Int32).toInt = 1 := (by decide); have s0 : (a1 + 1).toInt = a1.toInt + 1 := q_tA (by decide) (by omega) (by omega); omega
theorem zz_7a9193dccd {a1 a2 : Int32} (h0 : (0 ≤ a1) ∧ (a1 ≤ 1)) (h1 : (0 ≤ a2) ∧ (a2 ≤ 259)) : 0 ≤ (260 * a1) + a2 := by simp only [Int32.le_iff_toInt_le, Int32.lt_iff_toInt_lt, ← Int32.toInt_inj, ne_eq] at *; have l0 : (0 : Int32).toInt = 0 := (by decide); have l1 : (1 : Int32).toInt = 1 := (by decide); have l2 : (259 : Int32).toInt = 259 := (by decide); have l3 : (260 : Int32).toInt = 260 := (by decide); have s0 : (260 * a1).toInt = 260 * a1.toInt := q_tM (by decide) (by omega) (by omega); have s1 : ((260 * a1) + a2).toInt = (260 * a1).toInt + a2.toInt := q_tA rfl (by omega) (by omega); omega
theorem zz_ee38f1e714 {a1 a2 : Int32} (h0 : (0 ≤ a1) ∧ (a1 ≤ 1)) (h1 : a2 ≤ 241) (h2 : (0 ≤ a2) ∧ (a2 ≤ 259)) : (260 * a1) + a2 ≤ 520 := by simp only [Int32.le_iff_toInt_le, Int32.lt_iff_toInt_lt, ← Int32.toInt_inj, ne_eq] at *; have l0 : (0 : Int32).toInt = 0 := (by decide); have l1 : (1 : Int32).toInt = 1 := (by decide); have l2 : (241 : Int32).toInt = 241 := (by decide); have l3 : (259 : Int32).toInt = 259 := (by decide); have l4 : (260 : Int32).toInt = 260 := (by decide); have l5 : (520 : Int32).toInt = 520 := (by decide); have s0 : (260 * a1).toInt = 260 * a1.toInt := q_tM (by decide) (by omega) (by omega); have s1 : ((260 * a1) + a2).toInt = (260 * a1).toInt + a2.toInt := q_tA rfl (by omega) (by omega); omega
theorem zz_cabb9e759f {a1 : Int32} (h0 : (0 ≤ a1) ∧ (a1 ≤ 130)) : 0 ≤ a1 + 1 := by simp only [Int32.le_iff_toInt_le, Int32.lt_iff_toInt_lt, ← Int32.toInt_inj, ne_eq] at *; have l0 : (0 : Int32).toInt = 0 := (by decide); have l1 : (130 : Int32).toInt = 130 := (by decide); have l2 : (1 : Int32).toInt = 1 := (by decide); have s0 : (a1 + 1).toInt = a1.toInt + 1 := q_tA (by decide) (by omega) (by omega); omega
theorem zz_5c896beaaf {a1 : Int32} (h0 : a1 ≤ 128) (h1 : (0 ≤ a1) ∧ (a1 ≤ 130)) : a1 + 1 ≤ 130 := by simp only [Int32.le_iff_toInt_le, Int32.lt_iff_toInt_lt, ← Int32.toInt_inj, ne_eq] at *; have l0 : (128 : Int32).toInt = 128 := (by decide); have l1 : (0 : Int32).toInt = 0 := (by decide); have l2 : (130 : Int32).toInt = 130 := (by decide); have l3 : (1 : Int32).toInt = 1 := (by decide); have s0 : (a1 + 1).toInt = a1.toInt + 1 := q_tA (by decide) (by omega) (by omega); omega
theorem zz_098cd87474 {a1 : Int32}  : a1 = a1 := by lia
theorem zz_946771669d {a1 a2 : Int32} (h0 : a1 ≠ a2) : ¬ (a1 = a2) := by simp only [Int32.le_iff_toInt_le, Int32.lt_iff_toInt_lt, ← Int32.toInt_inj, ne_eq] at *; omega
theorem zz_454c40ae5e {a1 a2 : Int32} (h0 : a1 = a2 + 1) (h1 : (0 ≤ a2) ∧ (a2 ≤ 130)) : a1 = a2 + 1 := by simp only [Int32.le_iff_toInt_le, Int32.lt_iff_toInt_lt, ← Int32.toInt_inj, ne_eq] at *; have l0 : (1 : Int32).toInt = 1 := (by decide); have l1 : (0 : Int32).toInt = 0 := (by decide); have l2 : (130 : Int32).toInt = 130 := (by decide); have s0 : (a2 + 1).toInt = a2.toInt + 1 := q_tA (by decide) (by omega) (by omega); omega
theorem zz_810949327d {a1 a2 a3 a4 a5 : Int32} (h0 : a1 = a2 + 1) (h1 : (a3 ≠ -1) → (a2 < a4)) (h2 : a3 = 47) (h3 : (0 ≤ a2) ∧ (a2 ≤ 250)) : (a5 = 0) → ((a2 < a1) ∧ (a1 ≤ a4)) := by simp only [Int32.le_iff_toInt_le, Int32.lt_iff_toInt_lt, ← Int32.toInt_inj, ne_eq] at *; have l0 : (1 : Int32).toInt = 1 := (by decide); have l1 : (-1 : Int32).toInt = -1 := (by decide); have l2 : (47 : Int32).toInt = 47 := (by decide); have l3 : (0 : Int32).toInt = 0 := (by decide); have l4 : (250 : Int32).toInt = 250 := (by decide); have s0 : (a2 + 1).toInt = a2.toInt + 1 := q_tA (by decide) (by omega) (by omega); omega
theorem zz_b62e0579eb {a1 a2 a3 a4 a5 a6 : Int32} (h0 : a1 = a2) (h1 : a3 = a4 + 1) (h2 : (a5 = 0) → (a2 ≤ a4)) (h3 : a5 = 0) (h4 : (0 ≤ a4) ∧ (a4 ≤ 250)) : (a6 = 0) → (a1 ≤ a3) := by simp only [Int32.le_iff_toInt_le, Int32.lt_iff_toInt_lt, ← Int32.toInt_inj, ne_eq] at *; have l0 : (1 : Int32).toInt = 1 := (by decide); have l1 : (0 : Int32).toInt = 0 := (by decide); have l2 : (250 : Int32).toInt = 250 := (by decide); have s0 : (a4 + 1).toInt = a4.toInt + 1 := q_tA (by decide) (by omega) (by omega); omega
theorem zz_6acff39744 {a1 a2 : Int32} (h0 : a1 = a2 + 1) (h1 : a2 ≤ 242) (h2 : (0 ≤ a2) ∧ (a2 ≤ 250)) : (a2 ≤ a1) ∧ (a1 ≤ 244) := by simp only [Int32.le_iff_toInt_le, Int32.lt_iff_toInt_lt, ← Int32.toInt_inj, ne_eq] at *; have l0 : (1 : Int32).toInt = 1 := (by decide); have l1 : (242 : Int32).toInt = 242 := (by decide); have l2 : (0 : Int32).toInt = 0 := (by decide); have l3 : (250 : Int32).toInt = 250 := (by decide); have l4 : (244 : Int32).toInt = 244 := (by decide); have s0 : (a2 + 1).toInt = a2.toInt + 1 := q_tA (by decide) (by omega) (by omega); omega
theorem zz_366c52b05d {a1 a2 : Int32} (h0 : a1 = a2) (h1 : a2 ≤ 241) : (a2 ≤ a1) ∧ (a1 ≤ 241) := by simp only [Int32.le_iff_toInt_le, Int32.lt_iff_toInt_lt, ← Int32.toInt_inj, ne_eq] at *; have l0 : (241 : Int32).toInt = 241 := (by decide); omega
theorem zz_8cbda2a0b7 {a1 a2 a3 a4 : Int32} (h0 : a1 = 1) : (a1 = 0) → ((a2 < a3) ∧ (a3 ≤ a4)) := by simp only [Int32.le_iff_toInt_le, Int32.lt_iff_toInt_lt, ← Int32.toInt_inj, ne_eq] at *; have l0 : (1 : Int32).toInt = 1 := (by decide); have l1 : (0 : Int32).toInt = 0 := (by decide); omega
theorem zz_f5f80cd091 {a1 : Int32} (h0 : a1 = 1) : ¬ (a1 = 0) := by simp only [Int32.le_iff_toInt_le, Int32.lt_iff_toInt_lt, ← Int32.toInt_inj, ne_eq] at *; have l0 : (1 : Int32).toInt = 1 := (by decide); have l1 : (0 : Int32).toInt = 0 := (by decide); omega
theorem zz_71df0bd6b9 {a1 a2 a3 a4 a5 : Int32} (h0 : a1 = 0) (h1 : ¬ (a1 = 0)) : (a2 = 0) → ((a3 < a4) ∧ (a4 ≤ a5)) := by simp only [Int32.le_iff_toInt_le, Int32.lt_iff_toInt_lt, ← Int32.toInt_inj, ne_eq] at *; have l0 : (0 : Int32).toInt = 0 := (by decide); omega
theorem zz_19eb077e89 {a1 a2 a3 a4 : Int32} (h0 : a1 = 0) (h1 : ¬ (a1 = 0)) : (a2 = 0) → (a3 ≤ a4) := by simp only [Int32.le_iff_toInt_le, Int32.lt_iff_toInt_lt, ← Int32.toInt_inj, ne_eq] at *; have l0 : (0 : Int32).toInt = 0 := (by decide); omega
theorem zz_1cd0b996d1 {a1 a2 a3 a4 : Int32} (h0 : a1 = a2) (h1 : a3 = (130 * a4) + a2) (h2 : (0 ≤ a4) ∧ (a4 ≤ 1)) (h3 : (0 ≤ a2) ∧ (a2 ≤ 130)) : a3 = (130 * a4) + a1 := by simp only [Int32.le_iff_toInt_le, Int32.lt_iff_toInt_lt, ← Int32.toInt_inj, ne_eq] at *; have l0 : (130 : Int32).toInt = 130 := (by decide); have l1 : (0 : Int32).toInt = 0 := (by decide); have l2 : (1 : Int32).toInt = 1 := (by decide); have s0 : (130 * a4).toInt = 130 * a4.toInt := q_tM (by decide) (by omega) (by omega); have s1 : ((130 * a4) + a2).toInt = (130 * a4).toInt + a2.toInt := q_tA rfl (by omega) (by omega); have s2 : ((130 * a4) + a1).toInt = (130 * a4).toInt + a1.toInt := q_tA rfl (by omega) (by omega); omega
theorem zz_766354e410 {a1 a2 : Int32} (h0 : a1 = a2) (h1 : a2 ≤ 128) : a1 ≤ 128 := by simp only [Int32.le_iff_toInt_le, Int32.lt_iff_toInt_lt, ← Int32.toInt_inj, ne_eq] at *; have l0 : (128 : Int32).toInt = 128 := (by decide); omega
theorem zz_5a73c3e9c5 {a1 a2 a3 : Int32} (h0 : a1 = a2) (h1 : a2 = a3) : a1 = a3 := by simp only [Int32.le_iff_toInt_le, Int32.lt_iff_toInt_lt, ← Int32.toInt_inj, ne_eq] at *; omega
theorem zz_21417ab933 {a1 a2 a3 a4 : Int32} (h0 : a1 = 1) : (a1 = 0) → ((a2 ≠ 0) → (a3 < a4)) := by simp only [Int32.le_iff_toInt_le, Int32.lt_iff_toInt_lt, ← Int32.toInt_inj, ne_eq] at *; have l0 : (1 : Int32).toInt = 1 := (by decide); have l1 : (0 : Int32).toInt = 0 := (by decide); omega
theorem zz_01413b5888 {a1 a2 : Int32} (h0 : a1 = a2) (h1 : a2 ≤ 242) : a1 ≤ 242 := by simp only [Int32.le_iff_toInt_le, Int32.lt_iff_toInt_lt, ← Int32.toInt_inj, ne_eq] at *; have l0 : (242 : Int32).toInt = 242 := (by decide); omega
theorem zz_4339c4c768 {a1 a2 : Int32} (h0 : a1 = a2) (h1 : a2 ≤ 241) : a1 ≤ 241 := by simp only [Int32.le_iff_toInt_le, Int32.lt_iff_toInt_lt, ← Int32.toInt_inj, ne_eq] at *; have l0 : (241 : Int32).toInt = 241 := (by decide); omega
theorem zz_eac49e2e22 {a1 a2 a3 a4 a5 a6 : Int32} (h0 : a1 ≤ 242) (h1 : a2 ≤ (if a3 = 0 then a1 else 300)) (h2 : a4 ≤ a2 + 1) (h3 : a5 = 1) (h4 : a3 = 0) (h5 : -100000 ≤ a2) (h6 : a2 ≤ 100000) : a4 ≤ (if a5 = 0 then a6 else 300) := by split at h1 <;> split <;> (simp only [Int32.le_iff_toInt_le, Int32.lt_iff_toInt_lt, ← Int32.toInt_inj, ne_eq] at *; have l0 : (242 : Int32).toInt = 242 := (by decide); have l1 : (0 : Int32).toInt = 0 := (by decide); have l2 : (300 : Int32).toInt = 300 := (by decide); have l3 : (1 : Int32).toInt = 1 := (by decide); have l4 : (-100000 : Int32).toInt = -100000 := (by decide); have l5 : (100000 : Int32).toInt = 100000 := (by decide); have s0 : (a2 + 1).toInt = a2.toInt + 1 := q_tA (by decide) (by omega) (by omega); omega)
theorem zz_9637c0da44 {a1 a2 a3 a4 : Int32} (h0 : a1 = a2) (h1 : (a3 < (260 * a4) + a2) ∨ ((260 * a4) + 260 ≤ a3)) (h2 : (0 ≤ a4) ∧ (a4 ≤ 1)) (h3 : (0 ≤ a2) ∧ (a2 ≤ 259)) : (a3 < (260 * a4) + a1) ∨ ((260 * a4) + 260 ≤ a3) := by simp only [Int32.le_iff_toInt_le, Int32.lt_iff_toInt_lt, ← Int32.toInt_inj, ne_eq] at *; have l0 : (260 : Int32).toInt = 260 := (by decide); have l1 : (0 : Int32).toInt = 0 := (by decide); have l2 : (1 : Int32).toInt = 1 := (by decide); have l3 : (259 : Int32).toInt = 259 := (by decide); have s0 : (260 * a4).toInt = 260 * a4.toInt := q_tM (by decide) (by omega) (by omega); have s1 : ((260 * a4) + a2).toInt = (260 * a4).toInt + a2.toInt := q_tA rfl (by omega) (by omega); have s2 : ((260 * a4) + 260).toInt = (260 * a4).toInt + 260 := q_tA (by decide) (by omega) (by omega); have s3 : ((260 * a4) + a1).toInt = (260 * a4).toInt + a1.toInt := q_tA rfl (by omega) (by omega); omega
theorem zz_00b52b5978 {a1 a2 a3 : Int32} (h0 : a1 = a2) (h1 : a3 = a1 + 1) (h2 : (0 ≤ a2) ∧ (a2 ≤ 130)) : a3 = a2 + 1 := by simp only [Int32.le_iff_toInt_le, Int32.lt_iff_toInt_lt, ← Int32.toInt_inj, ne_eq] at *; have l0 : (1 : Int32).toInt = 1 := (by decide); have l1 : (0 : Int32).toInt = 0 := (by decide); have l2 : (130 : Int32).toInt = 130 := (by decide); have s0 : (a1 + 1).toInt = a1.toInt + 1 := q_tA (by decide) (by omega) (by omega); have s1 : (a2 + 1).toInt = a2.toInt + 1 := q_tA (by decide) (by omega) (by omega); omega
theorem zz_cf91319686 {a1 a2 a3 a4 a5 a6 : Int32} (h0 : (a1 = 0) → ((a2 < a3) ∧ (a3 ≤ a4))) (h1 : a2 = a5) (h2 : a4 = a6) : (a1 = 0) → ((a5 < a3) ∧ (a3 ≤ a6)) := by simp only [Int32.le_iff_toInt_le, Int32.lt_iff_toInt_lt, ← Int32.toInt_inj, ne_eq] at *; have l0 : (0 : Int32).toInt = 0 := (by decide); omega
theorem zz_c52fc66c1a {a1 a2 a3 : Int32} (h0 : (a1 = 0) → (a2 ≤ a3)) : (a1 = 0) → (a2 ≤ a3) := by simp only [Int32.le_iff_toInt_le, Int32.lt_iff_toInt_lt, ← Int32.toInt_inj, ne_eq] at *; have l0 : (0 : Int32).toInt = 0 := (by decide); omega
theorem zz_f8c4aeaa3c {a1 a2 a3 : Int32} (h0 : a1 = a2) (h1 : (a1 ≤ a3) ∧ (a3 ≤ 244)) : (a2 ≤ a3) ∧ (a3 ≤ 244) := by simp only [Int32.le_iff_toInt_le, Int32.lt_iff_toInt_lt, ← Int32.toInt_inj, ne_eq] at *; have l0 : (244 : Int32).toInt = 244 := (by decide); omega
theorem zz_cdf7ac87ea {a1 a2 a3 : Int32} (h0 : (a1 ≤ a2) ∧ (a2 ≤ 241)) (h1 : a1 = a3) : (a3 ≤ a2) ∧ (a2 ≤ 241) := by simp only [Int32.le_iff_toInt_le, Int32.lt_iff_toInt_lt, ← Int32.toInt_inj, ne_eq] at *; have l0 : (241 : Int32).toInt = 241 := (by decide); omega
theorem zz_612c40eabe {a1 a2 a3 a4 a5 a6 a7 : Int32} (h0 : a1 ≤ (if a2 = 0 then a3 else 300)) (h1 : a4 ≤ a1 + 1) (h2 : (a5 ≠ -1) → (a3 < 240)) (h3 : a6 = 1) (h4 : a2 = 0) (h5 : a5 = 10) (h6 : -100000 ≤ a1) (h7 : a1 ≤ 100000) : a4 ≤ (if a6 = 0 then a7 else 300) := by split at h0 <;> split <;> (simp only [Int32.le_iff_toInt_le, Int32.lt_iff_toInt_lt, ← Int32.toInt_inj, ne_eq] at *; have l0 : (0 : Int32).toInt = 0 := (by decide); have l1 : (300 : Int32).toInt = 300 := (by decide); have l2 : (1 : Int32).toInt = 1 := (by decide); have l3 : (-1 : Int32).toInt = -1 := (by decide); have l4 : (240 : Int32).toInt = 240 := (by decide); have l5 : (10 : Int32).toInt = 10 := (by decide); have l6 : (-100000 : Int32).toInt = -100000 := (by decide); have l7 : (100000 : Int32).toInt = 100000 := (by decide); have s0 : (a1 + 1).toInt = a1.toInt + 1 := q_tA (by decide) (by omega) (by omega); omega)
theorem zz_1c29ada950 {a1 a2 a3 a4 a5 a6 a7 : Int32} (h0 : a1 ≤ (if a2 = 0 then a3 else 300)) (h1 : a4 ≤ a1 + 1) (h2 : (a5 ≠ -1) → (a3 < 240)) (h3 : a6 = 1) (h4 : a2 = 0) (h5 : a5 = 36) (h6 : -100000 ≤ a1) (h7 : a1 ≤ 100000) : a4 ≤ (if a6 = 0 then a7 else 300) := by split at h0 <;> split <;> (simp only [Int32.le_iff_toInt_le, Int32.lt_iff_toInt_lt, ← Int32.toInt_inj, ne_eq] at *; have l0 : (0 : Int32).toInt = 0 := (by decide); have l1 : (300 : Int32).toInt = 300 := (by decide); have l2 : (1 : Int32).toInt = 1 := (by decide); have l3 : (-1 : Int32).toInt = -1 := (by decide); have l4 : (240 : Int32).toInt = 240 := (by decide); have l5 : (36 : Int32).toInt = 36 := (by decide); have l6 : (-100000 : Int32).toInt = -100000 := (by decide); have l7 : (100000 : Int32).toInt = 100000 := (by decide); have s0 : (a1 + 1).toInt = a1.toInt + 1 := q_tA (by decide) (by omega) (by omega); omega)
theorem zz_5373ca5f81 {a1 a2 a3 a4 a5 a6 : Int32} (h0 : a1 = a2 + 1) (h1 : a3 = a4) (h2 : (a5 ≠ -1) → (a2 < a4)) (h3 : a5 = 36) (h4 : (0 ≤ a2) ∧ (a2 ≤ 250)) : (a6 = 0) → (a1 ≤ a3) := by simp only [Int32.le_iff_toInt_le, Int32.lt_iff_toInt_lt, ← Int32.toInt_inj, ne_eq] at *; have l0 : (1 : Int32).toInt = 1 := (by decide); have l1 : (-1 : Int32).toInt = -1 := (by decide); have l2 : (36 : Int32).toInt = 36 := (by decide); have l3 : (0 : Int32).toInt = 0 := (by decide); have l4 : (250 : Int32).toInt = 250 := (by decide); have s0 : (a2 + 1).toInt = a2.toInt + 1 := q_tA (by decide) (by omega) (by omega); omega
theorem zz_be32a072eb {a1 a2 a3 a4 a5 a6 a7 : Int32} (h0 : a1 = a2 + 1) (h1 : a3 = a4) (h2 : (a5 ≠ -1) → (a2 + 1 < a4)) (h3 : a5 = 47) (h4 : (0 ≤ a2) ∧ (a2 ≤ 250)) : (a6 = 0) → ((a7 ≠ 0) → (a1 < a3)) := by simp only [Int32.le_iff_toInt_le, Int32.lt_iff_toInt_lt, ← Int32.toInt_inj, ne_eq] at *; have l0 : (1 : Int32).toInt = 1 := (by decide); have l1 : (-1 : Int32).toInt = -1 := (by decide); have l2 : (47 : Int32).toInt = 47 := (by decide); have l3 : (0 : Int32).toInt = 0 := (by decide); have l4 : (250 : Int32).toInt = 250 := (by decide); have s0 : (a2 + 1).toInt = a2.toInt + 1 := q_tA (by decide) (by omega) (by omega); omega
theorem zz_49fd61fcc2 {a1 a2 a3 a4 : Int32} (h0 : a1 = a2 + 1) (h1 : (0 ≤ a3) ∧ (a3 ≤ 240)) (h2 : (a4 ≠ -1) → (a2 < a3)) (h3 : a4 = 36) (h4 : (0 ≤ a2) ∧ (a2 ≤ 250)) : a1 ≤ 242 := by simp only [Int32.le_iff_toInt_le, Int32.lt_iff_toInt_lt, ← Int32.toInt_inj, ne_eq] at *; have l0 : (1 : Int32).toInt = 1 := (by decide); have l1 : (0 : Int32).toInt = 0 := (by decide); have l2 : (240 : Int32).toInt = 240 := (by decide); have l3 : (-1 : Int32).toInt = -1 := (by decide); have l4 : (36 : Int32).toInt = 36 := (by decide); have l5 : (250 : Int32).toInt = 250 := (by decide); have l6 : (242 : Int32).toInt = 242 := (by decide); have s0 : (a2 + 1).toInt = a2.toInt + 1 := q_tA (by decide) (by omega) (by omega); omega
theorem zz_395d806045 {a1 a2 a3 a4 a5 a6 : Int32} (h0 : a1 = a2 + 1) (h1 : a2 ≤ 242) (h2 : a3 ≤ (if a4 = 0 then a2 else 300)) (h3 : a5 ≤ a3 + 1) (h4 : a4 = 0) (h5 : -100000 ≤ a3) (h6 : a3 ≤ 100000) (h7 : (0 ≤ a2) ∧ (a2 ≤ 250)) : a5 ≤ (if a6 = 0 then a1 else 300) := by split at h2 <;> split <;> (simp only [Int32.le_iff_toInt_le, Int32.lt_iff_toInt_lt, ← Int32.toInt_inj, ne_eq] at *; have l0 : (1 : Int32).toInt = 1 := (by decide); have l1 : (242 : Int32).toInt = 242 := (by decide); have l2 : (0 : Int32).toInt = 0 := (by decide); have l3 : (300 : Int32).toInt = 300 := (by decide); have l4 : (-100000 : Int32).toInt = -100000 := (by decide); have l5 : (100000 : Int32).toInt = 100000 := (by decide); have l6 : (250 : Int32).toInt = 250 := (by decide); have s0 : (a2 + 1).toInt = a2.toInt + 1 := q_tA (by decide) (by omega) (by omega); have s1 : (a3 + 1).toInt = a3.toInt + 1 := q_tA (by decide) (by omega) (by omega); omega)
theorem zz_a5143cc316 {a1 a2 a3 a4 a5 a6 : Int32} (h0 : (a1 = 0) → ((a2 < a3) ∧ (a3 ≤ a4))) (h1 : a2 = a5 + 1) (h2 : a4 = a6) (h3 : (0 ≤ a5) ∧ (a5 ≤ 250)) : (a1 = 0) → ((a5 < a3) ∧ (a3 ≤ a6)) := by simp only [Int32.le_iff_toInt_le, Int32.lt_iff_toInt_lt, ← Int32.toInt_inj, ne_eq] at *; have l0 : (0 : Int32).toInt = 0 := (by decide); have l1 : (1 : Int32).toInt = 1 := (by decide); have l2 : (250 : Int32).toInt = 250 := (by decide); have s0 : (a5 + 1).toInt = a5.toInt + 1 := q_tA (by decide) (by omega) (by omega); omega
theorem zz_b8fccb5cff {a1 a2 a3 : Int32} (h0 : a1 = a2 + 1) (h1 : (a1 ≤ a3) ∧ (a3 ≤ 244)) (h2 : (0 ≤ a2) ∧ (a2 ≤ 250)) : (a2 ≤ a3) ∧ (a3 ≤ 244) := by simp only [Int32.le_iff_toInt_le, Int32.lt_iff_toInt_lt, ← Int32.toInt_inj, ne_eq] at *; have l0 : (1 : Int32).toInt = 1 := (by decide); have l1 : (244 : Int32).toInt = 244 := (by decide); have l2 : (0 : Int32).toInt = 0 := (by decide); have l3 : (250 : Int32).toInt = 250 := (by decide); have s0 : (a2 + 1).toInt = a2.toInt + 1 := q_tA (by decide) (by omega) (by omega); omega
theorem zz_04d0698cec {a1 a2 a3 : Int32} (h0 : a1 = 36) (h1 : a1 = 92) : a2 < a3 := by simp only [Int32.le_iff_toInt_le, Int32.lt_iff_toInt_lt, ← Int32.toInt_inj, ne_eq] at *; have l0 : (36 : Int32).toInt = 36 := (by decide); have l1 : (92 : Int32).toInt = 92 := (by decide); omega
theorem zz_a57acd4686 {a1 a2 a3 : Int32} (h0 : a1 = 36) (h1 : a1 = 92) : a2 ≤ a3 := by simp only [Int32.le_iff_toInt_le, Int32.lt_iff_toInt_lt, ← Int32.toInt_inj, ne_eq] at *; have l0 : (36 : Int32).toInt = 36 := (by decide); have l1 : (92 : Int32).toInt = 92 := (by decide); omega
theorem zz_3547589d98 {a1 a2 a3 a4 a5 : Int32} (h0 : a1 = a2) (h1 : (a3 = 0) → ((a4 < a5) ∧ (a5 ≤ a2))) : (a3 = 0) → (a5 ≤ a1) := by simp only [Int32.le_iff_toInt_le, Int32.lt_iff_toInt_lt, ← Int32.toInt_inj, ne_eq] at *; have l0 : (0 : Int32).toInt = 0 := (by decide); omega
theorem zz_de47fbffb3 {a1 a2 a3 a4 a5 : Int32} (h0 : a1 = a2) (h1 : a2 = 0) : (a3 = 0) → ((a1 ≠ 0) → (a4 < a5)) := by simp only [Int32.le_iff_toInt_le, Int32.lt_iff_toInt_lt, ← Int32.toInt_inj, ne_eq] at *; have l0 : (0 : Int32).toInt = 0 := (by decide); omega
theorem zz_0da4948674 {a1 a2 : Int32} (h0 : (a1 ≤ a2) ∧ (a2 ≤ 242)) : a2 ≤ 242 := by simp only [Int32.le_iff_toInt_le, Int32.lt_iff_toInt_lt, ← Int32.toInt_inj, ne_eq] at *; have l0 : (242 : Int32).toInt = 242 := (by decide); omega
theorem zz_b5e1c3f4ab {a1 a2 : Int32} (h0 : (a1 ≤ a2) ∧ (a2 ≤ 241)) : a2 ≤ 241 := by simp only [Int32.le_iff_toInt_le, Int32.lt_iff_toInt_lt, ← Int32.toInt_inj, ne_eq] at *; have l0 : (241 : Int32).toInt = 241 := (by decide); omega
theorem zz_cf9a56694f {a1 a2 a3 a4 a5 a6 a7 : Int32} (h0 : a1 ≤ (if a2 = 0 then a3 else 300)) (h1 : a4 ≤ a1 + 1) (h2 : (a5 = 0) → ((a3 < a6) ∧ (a6 ≤ a7))) (h3 : a3 ≤ 242) (h4 : a2 = 0) (h5 : -100000 ≤ a1) (h6 : a1 ≤ 100000) : a4 ≤ (if a5 = 0 then a6 else 300) := by split at h0 <;> split <;> (simp only [Int32.le_iff_toInt_le, Int32.lt_iff_toInt_lt, ← Int32.toInt_inj, ne_eq] at *; have l0 : (0 : Int32).toInt = 0 := (by decide); have l1 : (300 : Int32).toInt = 300 := (by decide); have l2 : (1 : Int32).toInt = 1 := (by decide); have l3 : (242 : Int32).toInt = 242 := (by decide); have l4 : (-100000 : Int32).toInt = -100000 := (by decide); have l5 : (100000 : Int32).toInt = 100000 := (by decide); have s0 : (a1 + 1).toInt = a1.toInt + 1 := q_tA (by decide) (by omega) (by omega); omega)
theorem zz_0e57fb70c4 {a1 a2 a3 a4 : Int32} (h0 : (a1 ≤ a2) ∧ (a2 ≤ 241)) (h1 : (a3 < (260 * a4) + a1) ∨ ((260 * a4) + 260 ≤ a3)) (h2 : (0 ≤ a4) ∧ (a4 ≤ 1)) (h3 : (0 ≤ a1) ∧ (a1 ≤ 259)) (h4 : (0 ≤ a2) ∧ (a2 ≤ 259)) : (a3 < (260 * a4) + a2) ∨ ((260 * a4) + 260 ≤ a3) := by simp only [Int32.le_iff_toInt_le, Int32.lt_iff_toInt_lt, ← Int32.toInt_inj, ne_eq] at *; have l0 : (241 : Int32).toInt = 241 := (by decide); have l1 : (260 : Int32).toInt = 260 := (by decide); have l2 : (0 : Int32).toInt = 0 := (by decide); have l3 : (1 : Int32).toInt = 1 := (by decide); have l4 : (259 : Int32).toInt = 259 := (by decide); have s0 : (260 * a4).toInt = 260 * a4.toInt := q_tM (by decide) (by omega) (by omega); have s1 : ((260 * a4) + a1).toInt = (260 * a4).toInt + a1.toInt := q_tA rfl (by omega) (by omega); have s2 : ((260 * a4) + 260).toInt = (260 * a4).toInt + 260 := q_tA (by decide) (by omega) (by omega); have s3 : ((260 * a4) + a2).toInt = (260 * a4).toInt + a2.toInt := q_tA rfl (by omega) (by omega); omega
theorem zz_f468153ada {a1 a2 a3 : Int32} (h0 : (a1 < (260 * a2) + a3) ∨ ((260 * a2) + 260 ≤ a1)) (h1 : (0 ≤ a2) ∧ (a2 ≤ 1)) (h2 : (0 ≤ a3) ∧ (a3 ≤ 259)) : (a1 < (260 * a2) + a3) ∨ ((260 * a2) + 260 ≤ a1) := by simp only [Int32.le_iff_toInt_le, Int32.lt_iff_toInt_lt, ← Int32.toInt_inj, ne_eq] at *; have l0 : (260 : Int32).toInt = 260 := (by decide); have l1 : (0 : Int32).toInt = 0 := (by decide); have l2 : (1 : Int32).toInt = 1 := (by decide); have l3 : (259 : Int32).toInt = 259 := (by decide); have s0 : (260 * a2).toInt = 260 * a2.toInt := q_tM (by decide) (by omega) (by omega); have s1 : ((260 * a2) + a3).toInt = (260 * a2).toInt + a3.toInt := q_tA rfl (by omega) (by omega); have s2 : ((260 * a2) + 260).toInt = (260 * a2).toInt + 260 := q_tA (by decide) (by omega) (by omega); omega
theorem zz_e051a1c329 {a1 a2 a3 a4 a5 a6 : Int32} (h0 : (a1 ≤ a2) ∧ (a2 ≤ 242)) (h1 : (a3 = 0) → ((a2 < a4) ∧ (a4 ≤ a5))) (h2 : a5 = a6) : (a3 = 0) → ((a1 < a4) ∧ (a4 ≤ a6)) := by simp only [Int32.le_iff_toInt_le, Int32.lt_iff_toInt_lt, ← Int32.toInt_inj, ne_eq] at *; have l0 : (242 : Int32).toInt = 242 := (by decide); have l1 : (0 : Int32).toInt = 0 := (by decide); omega
theorem zz_285027bacb {a1 a2 a3 : Int32} (h0 : (a1 ≤ a2) ∧ (a2 ≤ 242)) (h1 : (a2 ≤ a3) ∧ (a3 ≤ 244)) : (a1 ≤ a3) ∧ (a3 ≤ 244) := by simp only [Int32.le_iff_toInt_le, Int32.lt_iff_toInt_lt, ← Int32.toInt_inj, ne_eq] at *; have l0 : (242 : Int32).toInt = 242 := (by decide); have l1 : (244 : Int32).toInt = 244 := (by decide); omega
theorem zz_72aebe666a {a1 a2 a3 : Int32} (h0 : (a1 ≤ a2) ∧ (a2 ≤ 241)) (h1 : (a2 ≤ a3) ∧ (a3 ≤ 241)) : (a1 ≤ a3) ∧ (a3 ≤ 241) := by simp only [Int32.le_iff_toInt_le, Int32.lt_iff_toInt_lt, ← Int32.toInt_inj, ne_eq] at *; have l0 : (241 : Int32).toInt = 241 := (by decide); omega
theorem zz_af9a98756d {a1 a2 a3 : Int32} (h0 : a1 = 36) (h1 : a1 = 91) : a2 < a3 := by simp only [Int32.le_iff_toInt_le, Int32.lt_iff_toInt_lt, ← Int32.toInt_inj, ne_eq] at *; have l0 : (36 : Int32).toInt = 36 := (by decide); have l1 : (91 : Int32).toInt = 91 := (by decide); omega
theorem zz_64e4564fcd {a1 a2 a3 : Int32} (h0 : a1 = 36) (h1 : a1 = 91) : a2 ≤ a3 := by simp only [Int32.le_iff_toInt_le, Int32.lt_iff_toInt_lt, ← Int32.toInt_inj, ne_eq] at *; have l0 : (36 : Int32).toInt = 36 := (by decide); have l1 : (91 : Int32).toInt = 91 := (by decide); omega
theorem zz_ed98345f9a {a1 a2 a3 : Int32} (h0 : a1 = 36) (h1 : a1 = 42) : a2 < a3 := by simp only [Int32.le_iff_toInt_le, Int32.lt_iff_toInt_lt, ← Int32.toInt_inj, ne_eq] at *; have l0 : (36 : Int32).toInt = 36 := (by decide); have l1 : (42 : Int32).toInt = 42 := (by decide); omega
theorem zz_1364e13ed5 {a1 a2 a3 : Int32} (h0 : a1 = 36) (h1 : a1 = 42) : a2 ≤ a3 := by simp only [Int32.le_iff_toInt_le, Int32.lt_iff_toInt_lt, ← Int32.toInt_inj, ne_eq] at *; have l0 : (36 : Int32).toInt = 36 := (by decide); have l1 : (42 : Int32).toInt = 42 := (by decide); omega
theorem zz_633d7db2af {a1 : Int32} (h0 : a1 ≤ 241) : a1 ≤ 245 := by simp only [Int32.le_iff_toInt_le, Int32.lt_iff_toInt_lt, ← Int32.toInt_inj, ne_eq] at *; have l0 : (241 : Int32).toInt = 241 := (by decide); have l1 : (245 : Int32).toInt = 245 := (by decide); omega
theorem zz_e18ceb2b2e {a1 a2 a3 a4 : Int32} (h0 : a1 = 36) (h1 : a1 = 46) : (a2 = 0) → (a3 ≤ a4) := by simp only [Int32.le_iff_toInt_le, Int32.lt_iff_toInt_lt, ← Int32.toInt_inj, ne_eq] at *; have l0 : (36 : Int32).toInt = 36 := (by decide); have l1 : (46 : Int32).toInt = 46 := (by decide); have l2 : (0 : Int32).toInt = 0 := (by decide); omega
theorem zz_24965f4b2c {a1 a2 : Int32} (h0 : a1 = 0) (h1 : a1 = a2) : a2 = 0 := by simp only [Int32.le_iff_toInt_le, Int32.lt_iff_toInt_lt, ← Int32.toInt_inj, ne_eq] at *; have l0 : (0 : Int32).toInt = 0 := (by decide); omega
theorem zz_11d26c57a8 {a1 : Int32} (h0 : a1 ≤ 241) : a1 ≤ 250 := by simp only [Int32.le_iff_toInt_le, Int32.lt_iff_toInt_lt, ← Int32.toInt_inj, ne_eq] at *; have l0 : (241 : Int32).toInt = 241 := (by decide); have l1 : (250 : Int32).toInt = 250 := (by decide); omega
theorem zz_892db05e96 {a1 a2 : Int32} (h0 : a1 = 36) (h1 : a1 = 46) : a2 ≤ 242 := by simp only [Int32.le_iff_toInt_le, Int32.lt_iff_toInt_lt, ← Int32.toInt_inj, ne_eq] at *; have l0 : (36 : Int32).toInt = 36 := (by decide); have l1 : (46 : Int32).toInt = 46 := (by decide); have l2 : (242 : Int32).toInt = 242 := (by decide); omega
theorem zz_78aac04ab4 {a1 a2 : Int32} (h0 : a1 = 36) (h1 : a1 = 46) : a2 ≤ 241 := by simp only [Int32.le_iff_toInt_le, Int32.lt_iff_toInt_lt, ← Int32.toInt_inj, ne_eq] at *; have l0 : (36 : Int32).toInt = 36 := (by decide); have l1 : (46 : Int32).toInt = 46 := (by decide); have l2 : (241 : Int32).toInt = 241 := (by decide); omega
theorem zz_3b1ba46fbc {a1 a2 a3 a4 : Int32} (h0 : a1 = 36) (h1 : a1 = 46) : a2 ≤ (if a3 = 0 then a4 else 300) := by split <;> (simp only [Int32.le_iff_toInt_le, Int32.lt_iff_toInt_lt, ← Int32.toInt_inj, ne_eq] at *; have l0 : (36 : Int32).toInt = 36 := (by decide); have l1 : (46 : Int32).toInt = 46 := (by decide); have l2 : (0 : Int32).toInt = 0 := (by decide); have l3 : (300 : Int32).toInt = 300 := (by decide); omega)
theorem zz_260df0df9b {a1 a2 a3 a4 a5 a6 a7 a8 a9 : Int32} (h0 : a1 = a2) (h1 : (a3 = 0) → ((a4 = 1) ∧ ((a5 = a6) ∧ (a2 = a7 + 1)))) (h2 : (a3 ≠ 0) → (a2 = a7)) (h3 : (a8 < (260 * a9) + a7) ∨ ((260 * a9) + 260 ≤ a8)) (h4 : (0 ≤ a9) ∧ (a9 ≤ 1)) (h5 : (0 ≤ a7) ∧ (a7 ≤ 259)) (h6 : (0 ≤ a2) ∧ (a2 ≤ 259)) : (a8 < (260 * a9) + a1) ∨ ((260 * a9) + 260 ≤ a8) := by simp only [Int32.le_iff_toInt_le, Int32.lt_iff_toInt_lt, ← Int32.toInt_inj, ne_eq] at *; have l0 : (0 : Int32).toInt = 0 := (by decide); have l1 : (1 : Int32).toInt = 1 := (by decide); have l2 : (260 : Int32).toInt = 260 := (by decide); have l3 : (259 : Int32).toInt = 259 := (by decide); have s0 : (a7 + 1).toInt = a7.toInt + 1 := q_tA (by decide) (by omega) (by omega); have s1 : (260 * a9).toInt = 260 * a9.toInt := q_tM (by decide) (by omega) (by omega); have s2 : ((260 * a9) + a7).toInt = (260 * a9).toInt + a7.toInt := q_tA rfl (by omega) (by omega); have s3 : ((260 * a9) + 260).toInt = (260 * a9).toInt + 260 := q_tA (by decide) (by omega) (by omega); have s4 : ((260 * a9) + a1).toInt = (260 * a9).toInt + a1.toInt := q_tA rfl (by omega) (by omega); omega
theorem zz_ebfb0d8f28 {a1 a2 a3 : Int32} (h0 : a1 ≤ 241) (h1 : (a2 < (260 * a3) + a1) ∨ ((260 * a3) + 260 ≤ a2)) (h2 : (0 ≤ a3) ∧ (a3 ≤ 1)) (h3 : (0 ≤ a1) ∧ (a1 ≤ 259)) : a2 ≠ (260 * a3) + a1 := by simp only [Int32.le_iff_toInt_le, Int32.lt_iff_toInt_lt, ← Int32.toInt_inj, ne_eq] at *; have l0 : (241 : Int32).toInt = 241 := (by decide); have l1 : (260 : Int32).toInt = 260 := (by decide); have l2 : (0 : Int32).toInt = 0 := (by decide); have l3 : (1 : Int32).toInt = 1 := (by decide); have l4 : (259 : Int32).toInt = 259 := (by decide); have s0 : (260 * a3).toInt = 260 * a3.toInt := q_tM (by decide) (by omega) (by omega); have s1 : ((260 * a3) + a1).toInt = (260 * a3).toInt + a1.toInt := q_tA rfl (by omega) (by omega); have s2 : ((260 * a3) + 260).toInt = (260 * a3).toInt + 260 := q_tA (by decide) (by omega) (by omega); omega
theorem zz_1ef23b8398 {a1 a2 a3 a4 a5 a6 a7 a8 : Int32} (h0 : (a1 = 0) → ((a2 = 1) ∧ ((a3 = a4) ∧ (a5 = a6 + 1)))) (h1 : (a1 ≠ 0) → (a5 = a6)) (h2 : (a7 ≤ a8) ∧ (a8 ≤ 241)) (h3 : a7 = a5) (h4 : (0 ≤ a6) ∧ (a6 ≤ 259)) : (a6 ≤ a8) ∧ (a8 ≤ 241) := by simp only [Int32.le_iff_toInt_le, Int32.lt_iff_toInt_lt, ← Int32.toInt_inj, ne_eq] at *; have l0 : (0 : Int32).toInt = 0 := (by decide); have l1 : (1 : Int32).toInt = 1 := (by decide); have l2 : (241 : Int32).toInt = 241 := (by decide); have l3 : (259 : Int32).toInt = 259 := (by decide); have s0 : (a6 + 1).toInt = a6.toInt + 1 := q_tA (by decide) (by omega) (by omega); omega
theorem zz_bd72b2919d {a1 a2 a3 a4 a5 a6 a7 a8 a9 a10 a11 : Int32} (h0 : a1 = a2) (h1 : a3 = a4 + 1) (h2 : (a5 = 0) → (a6 ≤ a4)) (h3 : (a7 = 0) → ((a8 = 0) ∧ ((a9 = a10) ∧ (a2 = a6 + 1)))) (h4 : (a7 ≠ 0) → (a2 = a6)) (h5 : a5 = 0) (h6 : (0 ≤ a6) ∧ (a6 ≤ 259)) (h7 : (0 ≤ a4) ∧ (a4 ≤ 250)) : (a11 = 0) → (a1 ≤ a3) := by simp only [Int32.le_iff_toInt_le, Int32.lt_iff_toInt_lt, ← Int32.toInt_inj, ne_eq] at *; have l0 : (1 : Int32).toInt = 1 := (by decide); have l1 : (0 : Int32).toInt = 0 := (by decide); have l2 : (259 : Int32).toInt = 259 := (by decide); have l3 : (250 : Int32).toInt = 250 := (by decide); have s0 : (a4 + 1).toInt = a4.toInt + 1 := q_tA (by decide) (by omega) (by omega); have s1 : (a6 + 1).toInt = a6.toInt + 1 := q_tA (by decide) (by omega) (by omega); omega
theorem zz_94b1578766 {a1 a2 a3 a4 a5 a6 a7 a8 a9 : Int32} (h0 : a1 = a2) (h1 : (a3 = 0) → ((a4 = 0) ∧ ((a5 = a6) ∧ (a2 = a7 + 1)))) (h2 : (a3 ≠ 0) → (a2 = a7)) (h3 : (a8 = 0) → (a7 ≤ a9)) (h4 : (a6 ≠ -1) → (a9 < 240)) (h5 : a6 = 36) (h6 : a8 = 0) (h7 : (0 ≤ a7) ∧ (a7 ≤ 259)) : a1 ≤ 241 := by simp only [Int32.le_iff_toInt_le, Int32.lt_iff_toInt_lt, ← Int32.toInt_inj, ne_eq] at *; have l0 : (0 : Int32).toInt = 0 := (by decide); have l1 : (1 : Int32).toInt = 1 := (by decide); have l2 : (-1 : Int32).toInt = -1 := (by decide); have l3 : (240 : Int32).toInt = 240 := (by decide); have l4 : (36 : Int32).toInt = 36 := (by decide); have l5 : (259 : Int32).toInt = 259 := (by decide); have l6 : (241 : Int32).toInt = 241 := (by decide); have s0 : (a7 + 1).toInt = a7.toInt + 1 := q_tA (by decide) (by omega) (by omega); omega
theorem zz_09341b5453 {a1 a2 a3 a4 a5 a6 a7 a8 : Int32} (h0 : a1 = a2 + 1) (h1 : (0 ≤ a3) ∧ (a3 ≤ 240)) (h2 : a4 ≤ (if a5 = 0 then a2 else 300)) (h3 : a6 ≤ a4 + 1) (h4 : (a7 ≠ -1) → (a2 + 1 < a3)) (h5 : a5 = 0) (h6 : ¬ (a7 = -1)) (h7 : (0 ≤ a2) ∧ (a2 ≤ 250)) (h8 : -100000 ≤ a4) (h9 : a4 ≤ 100000) : a6 ≤ (if a8 = 0 then a1 else 300) := by split at h2 <;> split <;> (simp only [Int32.le_iff_toInt_le, Int32.lt_iff_toInt_lt, ← Int32.toInt_inj, ne_eq] at *; have l0 : (1 : Int32).toInt = 1 := (by decide); have l1 : (0 : Int32).toInt = 0 := (by decide); have l2 : (240 : Int32).toInt = 240 := (by decide); have l3 : (300 : Int32).toInt = 300 := (by decide); have l4 : (-1 : Int32).toInt = -1 := (by decide); have l5 : (250 : Int32).toInt = 250 := (by decide); have l6 : (-100000 : Int32).toInt = -100000 := (by decide); have l7 : (100000 : Int32).toInt = 100000 := (by decide); have s0 : (a2 + 1).toInt = a2.toInt + 1 := q_tA (by decide) (by omega) (by omega); have s1 : (a4 + 1).toInt = a4.toInt + 1 := q_tA (by decide) (by omega) (by omega); omega)
theorem zz_5913666c7d {a1 a2 a3 a4 a5 a6 a7 a8 a9 : Int32} (h0 : a1 = a2) (h1 : (a3 = 0) → ((a4 = 0) ∧ ((a5 = a6) ∧ (a2 = a7 + 1)))) (h2 : (a3 ≠ 0) → (a2 = a7)) (h3 : (a8 < (260 * a9) + a7) ∨ ((260 * a9) + 260 ≤ a8)) (h4 : (0 ≤ a9) ∧ (a9 ≤ 1)) (h5 : (0 ≤ a7) ∧ (a7 ≤ 259)) (h6 : (0 ≤ a2) ∧ (a2 ≤ 259)) : (a8 < (260 * a9) + a1) ∨ ((260 * a9) + 260 ≤ a8) := by simp only [Int32.le_iff_toInt_le, Int32.lt_iff_toInt_lt, ← Int32.toInt_inj, ne_eq] at *; have l0 : (0 : Int32).toInt = 0 := (by decide); have l1 : (1 : Int32).toInt = 1 := (by decide); have l2 : (260 : Int32).toInt = 260 := (by decide); have l3 : (259 : Int32).toInt = 259 := (by decide); have s0 : (a7 + 1).toInt = a7.toInt + 1 := q_tA (by decide) (by omega) (by omega); have s1 : (260 * a9).toInt = 260 * a9.toInt := q_tM (by decide) (by omega) (by omega); have s2 : ((260 * a9) + a7).toInt = (260 * a9).toInt + a7.toInt := q_tA rfl (by omega) (by omega); have s3 : ((260 * a9) + 260).toInt = (260 * a9).toInt + 260 := q_tA (by decide) (by omega) (by omega); have s4 : ((260 * a9) + a1).toInt = (260 * a9).toInt + a1.toInt := q_tA rfl (by omega) (by omega); omega
theorem zz_a923bf6e82 {a1 a2 a3 a4 a5 a6 a7 a8 : Int32} (h0 : (a1 = 0) → ((a2 = 0) ∧ ((a3 = a4) ∧ (a5 = a6 + 1)))) (h1 : (a1 ≠ 0) → (a5 = a6)) (h2 : (a7 ≤ a8) ∧ (a8 ≤ 241)) (h3 : a7 = a5) (h4 : (0 ≤ a6) ∧ (a6 ≤ 259)) : (a6 ≤ a8) ∧ (a8 ≤ 241) := by simp only [Int32.le_iff_toInt_le, Int32.lt_iff_toInt_lt, ← Int32.toInt_inj, ne_eq] at *; have l0 : (0 : Int32).toInt = 0 := (by decide); have l1 : (1 : Int32).toInt = 1 := (by decide); have l2 : (241 : Int32).toInt = 241 := (by decide); have l3 : (259 : Int32).toInt = 259 := (by decide); have s0 : (a6 + 1).toInt = a6.toInt + 1 := q_tA (by decide) (by omega) (by omega); omega
theorem zz_76b8d757bc {a1 a2 a3 a4 : Int32} (h0 : a1 = 36) (h1 : ¬ (a1 = 36)) : (a2 = 0) → (a3 ≤ a4) := by simp only [Int32.le_iff_toInt_le, Int32.lt_iff_toInt_lt, ← Int32.toInt_inj, ne_eq] at *; have l0 : (36 : Int32).toInt = 36 := (by decide); have l1 : (0 : Int32).toInt = 0 := (by decide); omega
theorem zz_178b31cec1 {a1 a2 : Int32} (h0 : a1 = 36) (h1 : ¬ (a1 = 36)) : a2 ≤ 241 := by simp only [Int32.le_iff_toInt_le, Int32.lt_iff_toInt_lt, ← Int32.toInt_inj, ne_eq] at *; have l0 : (36 : Int32).toInt = 36 := (by decide); have l1 : (241 : Int32).toInt = 241 := (by decide); omega
theorem zz_ec9707d450 {a1 a2 a3 a4 : Int32} (h0 : a1 = 36) (h1 : ¬ (a1 = 36)) : a2 ≤ (if a3 = 0 then a4 else 300) := by split <;> (simp only [Int32.le_iff_toInt_le, Int32.lt_iff_toInt_lt, ← Int32.toInt_inj, ne_eq] at *; have l0 : (36 : Int32).toInt = 36 := (by decide); have l1 : (0 : Int32).toInt = 0 := (by decide); have l2 : (300 : Int32).toInt = 300 := (by decide); omega)
theorem zz_5192de2dd1 {a1 a2 a3 a4 : Int32} (h0 : ¬ (a1 = 36)) (h1 : a1 = 36) : (a2 = 0) → (a3 ≤ a4) := by simp only [Int32.le_iff_toInt_le, Int32.lt_iff_toInt_lt, ← Int32.toInt_inj, ne_eq] at *; have l0 : (36 : Int32).toInt = 36 := (by decide); have l1 : (0 : Int32).toInt = 0 := (by decide); omega
theorem zz_dff2d80c5c {a1 a2 : Int32} (h0 : ¬ (a1 = 36)) (h1 : a1 = 36) : a2 ≤ 241 := by simp only [Int32.le_iff_toInt_le, Int32.lt_iff_toInt_lt, ← Int32.toInt_inj, ne_eq] at *; have l0 : (36 : Int32).toInt = 36 := (by decide); have l1 : (241 : Int32).toInt = 241 := (by decide); omega
theorem zz_924c8df84b {a1 a2 a3 a4 : Int32} (h0 : ¬ (a1 = 36)) (h1 : a1 = 36) : a2 ≤ (if a3 = 0 then a4 else 300) := by split <;> (simp only [Int32.le_iff_toInt_le, Int32.lt_iff_toInt_lt, ← Int32.toInt_inj, ne_eq] at *; have l0 : (36 : Int32).toInt = 36 := (by decide); have l1 : (0 : Int32).toInt = 0 := (by decide); have l2 : (300 : Int32).toInt = 300 := (by decide); omega)
theorem zz_cc568fcafe {a1 a2 a3 : Int32} (h0 : (a1 ≠ -1) → (a2 < a3)) (h1 : a1 = 92) : a2 < a3 := by simp only [Int32.le_iff_toInt_le, Int32.lt_iff_toInt_lt, ← Int32.toInt_inj, ne_eq] at *; have l0 : (-1 : Int32).toInt = -1 := (by decide); have l1 : (92 : Int32).toInt = 92 := (by decide); omega
theorem zz_3595f2c5ab {a1 a2 a3 : Int32} (h0 : (a1 = 0) → (a2 ≤ a3)) (h1 : a1 = 0) : a2 ≤ a3 := by simp only [Int32.le_iff_toInt_le, Int32.lt_iff_toInt_lt, ← Int32.toInt_inj, ne_eq] at *; have l0 : (0 : Int32).toInt = 0 := (by decide); omega
theorem zz_4308f862fb {a1 a2 a3 : Int32} (h0 : (a1 ≠ -1) → (a2 < a3)) (h1 : a1 = 91) : a2 < a3 := by simp only [Int32.le_iff_toInt_le, Int32.lt_iff_toInt_lt, ← Int32.toInt_inj, ne_eq] at *; have l0 : (-1 : Int32).toInt = -1 := (by decide); have l1 : (91 : Int32).toInt = 91 := (by decide); omega
theorem zz_4a93c6b2f4 {a1 a2 a3 : Int32} (h0 : (a1 ≠ -1) → (a2 < a3)) (h1 : a1 = 42) : a2 < a3 := by simp only [Int32.le_iff_toInt_le, Int32.lt_iff_toInt_lt, ← Int32.toInt_inj, ne_eq] at *; have l0 : (-1 : Int32).toInt = -1 := (by decide); have l1 : (42 : Int32).toInt = 42 := (by decide); omega
theorem zz_ccc3cb45c4 {a1 a2 a3 a4 a5 a6 : Int32} (h0 : a1 = a2 + 1) (h1 : a3 = a4) (h2 : (a5 ≠ -1) → (a2 < a4)) (h3 : a5 = 46) (h4 : (0 ≤ a2) ∧ (a2 ≤ 250)) : (a6 = 0) → (a1 ≤ a3) := by simp only [Int32.le_iff_toInt_le, Int32.lt_iff_toInt_lt, ← Int32.toInt_inj, ne_eq] at *; have l0 : (1 : Int32).toInt = 1 := (by decide); have l1 : (-1 : Int32).toInt = -1 := (by decide); have l2 : (46 : Int32).toInt = 46 := (by decide); have l3 : (0 : Int32).toInt = 0 := (by decide); have l4 : (250 : Int32).toInt = 250 := (by decide); have s0 : (a2 + 1).toInt = a2.toInt + 1 := q_tA (by decide) (by omega) (by omega); omega
theorem zz_5c83974b79 {a1 a2 a3 a4 a5 a6 a7 a8 a9 a10 a11 : Int32} (h0 : a1 = a2) (h1 : a3 = a4 + 1) (h2 : (a5 = 0) → (a6 ≤ a4)) (h3 : (a7 = 0) → ((a8 = 1) ∧ ((a9 = a10) ∧ (a2 = a6 + 1)))) (h4 : (a7 ≠ 0) → (a2 = a6)) (h5 : a5 = 0) (h6 : (0 ≤ a6) ∧ (a6 ≤ 259)) (h7 : (0 ≤ a4) ∧ (a4 ≤ 250)) : (a11 = 0) → (a1 ≤ a3) := by simp only [Int32.le_iff_toInt_le, Int32.lt_iff_toInt_lt, ← Int32.toInt_inj, ne_eq] at *; have l0 : (1 : Int32).toInt = 1 := (by decide); have l1 : (0 : Int32).toInt = 0 := (by decide); have l2 : (259 : Int32).toInt = 259 := (by decide); have l3 : (250 : Int32).toInt = 250 := (by decide); have s0 : (a4 + 1).toInt = a4.toInt + 1 := q_tA (by decide) (by omega) (by omega); have s1 : (a6 + 1).toInt = a6.toInt + 1 := q_tA (by decide) (by omega) (by omega); omega
theorem zz_2b2554760a {a1 a2 a3 a4 : Int32} (h0 : a1 = a2 + 1) (h1 : (0 ≤ a3) ∧ (a3 ≤ 240)) (h2 : (a4 ≠ -1) → (a2 < a3)) (h3 : a4 = 46) (h4 : (0 ≤ a2) ∧ (a2 ≤ 250)) : a1 ≤ 242 := by simp only [Int32.le_iff_toInt_le, Int32.lt_iff_toInt_lt, ← Int32.toInt_inj, ne_eq] at *; have l0 : (1 : Int32).toInt = 1 := (by decide); have l1 : (0 : Int32).toInt = 0 := (by decide); have l2 : (240 : Int32).toInt = 240 := (by decide); have l3 : (-1 : Int32).toInt = -1 := (by decide); have l4 : (46 : Int32).toInt = 46 := (by decide); have l5 : (250 : Int32).toInt = 250 := (by decide); have l6 : (242 : Int32).toInt = 242 := (by decide); have s0 : (a2 + 1).toInt = a2.toInt + 1 := q_tA (by decide) (by omega) (by omega); omega
theorem zz_73d49cc1b6 {a1 a2 a3 a4 a5 a6 a7 a8 a9 : Int32} (h0 : a1 = a2) (h1 : (a3 = 0) → ((a4 = 1) ∧ ((a5 = a6) ∧ (a2 = a7 + 1)))) (h2 : (a3 ≠ 0) → (a2 = a7)) (h3 : (a8 = 0) → (a7 ≤ a9)) (h4 : (a6 ≠ -1) → (a9 < 240)) (h5 : a6 = 46) (h6 : a8 = 0) (h7 : (0 ≤ a7) ∧ (a7 ≤ 259)) : a1 ≤ 241 := by simp only [Int32.le_iff_toInt_le, Int32.lt_iff_toInt_lt, ← Int32.toInt_inj, ne_eq] at *; have l0 : (0 : Int32).toInt = 0 := (by decide); have l1 : (1 : Int32).toInt = 1 := (by decide); have l2 : (-1 : Int32).toInt = -1 := (by decide); have l3 : (240 : Int32).toInt = 240 := (by decide); have l4 : (46 : Int32).toInt = 46 := (by decide); have l5 : (259 : Int32).toInt = 259 := (by decide); have l6 : (241 : Int32).toInt = 241 := (by decide); have s0 : (a7 + 1).toInt = a7.toInt + 1 := q_tA (by decide) (by omega) (by omega); omega
theorem zz_0bc384e21e {a1 a2 a3 a4 a5 a6 a7 : Int32} (h0 : a1 = a2 + 1) (h1 : a3 ≤ (if a4 = 0 then a2 else 300)) (h2 : a5 ≤ a3 + 1) (h3 : (a6 ≠ -1) → (a2 < 240)) (h4 : a4 = 0) (h5 : a6 = 46) (h6 : -100000 ≤ a3) (h7 : a3 ≤ 100000) (h8 : (0 ≤ a2) ∧ (a2 ≤ 250)) : a5 ≤ (if a7 = 0 then a1 else 300) := by split at h1 <;> split <;> (simp only [Int32.le_iff_toInt_le, Int32.lt_iff_toInt_lt, ← Int32.toInt_inj, ne_eq] at *; have l0 : (1 : Int32).toInt = 1 := (by decide); have l1 : (0 : Int32).toInt = 0 := (by decide); have l2 : (300 : Int32).toInt = 300 := (by decide); have l3 : (-1 : Int32).toInt = -1 := (by decide); have l4 : (240 : Int32).toInt = 240 := (by decide); have l5 : (46 : Int32).toInt = 46 := (by decide); have l6 : (-100000 : Int32).toInt = -100000 := (by decide); have l7 : (100000 : Int32).toInt = 100000 := (by decide); have l8 : (250 : Int32).toInt = 250 := (by decide); have s0 : (a2 + 1).toInt = a2.toInt + 1 := q_tA (by decide) (by omega) (by omega); have s1 : (a3 + 1).toInt = a3.toInt + 1 := q_tA (by decide) (by omega) (by omega); omega)
theorem zz_ddd39f7a20 {a1 a2 a3 a4 a5 a6 : Int32} (h0 : a1 = a2 + 1) (h1 : a3 = a4) (h2 : (a5 ≠ -1) → (a2 < a4)) (h3 : ¬ (a5 = -1)) (h4 : (0 ≤ a2) ∧ (a2 ≤ 250)) : (a6 = 0) → (a1 ≤ a3) := by simp only [Int32.le_iff_toInt_le, Int32.lt_iff_toInt_lt, ← Int32.toInt_inj, ne_eq] at *; have l0 : (1 : Int32).toInt = 1 := (by decide); have l1 : (-1 : Int32).toInt = -1 := (by decide); have l2 : (0 : Int32).toInt = 0 := (by decide); have l3 : (250 : Int32).toInt = 250 := (by decide); have s0 : (a2 + 1).toInt = a2.toInt + 1 := q_tA (by decide) (by omega) (by omega); omega
theorem zz_258eeb5eb4 {a1 a2 a3 : Int32} (h0 : a1 = a2 + 1) (h1 : (a3 ≠ -1) → (a2 < 240)) (h2 : ¬ (a3 = -1)) (h3 : (0 ≤ a2) ∧ (a2 ≤ 250)) : a1 ≤ 242 := by simp only [Int32.le_iff_toInt_le, Int32.lt_iff_toInt_lt, ← Int32.toInt_inj, ne_eq] at *; have l0 : (1 : Int32).toInt = 1 := (by decide); have l1 : (-1 : Int32).toInt = -1 := (by decide); have l2 : (240 : Int32).toInt = 240 := (by decide); have l3 : (0 : Int32).toInt = 0 := (by decide); have l4 : (250 : Int32).toInt = 250 := (by decide); have l5 : (242 : Int32).toInt = 242 := (by decide); have s0 : (a2 + 1).toInt = a2.toInt + 1 := q_tA (by decide) (by omega) (by omega); omega
theorem zz_a0cf0156cb {a1 a2 a3 a4 a5 a6 a7 a8 a9 : Int32} (h0 : a1 = a2) (h1 : (a3 = 0) → ((a4 = 0) ∧ ((a5 = a6) ∧ (a2 = a7 + 1)))) (h2 : (a3 ≠ 0) → (a2 = a7)) (h3 : (a8 = 0) → (a7 ≤ a9)) (h4 : (a6 ≠ -1) → (a9 < 240)) (h5 : ¬ (a6 = -1)) (h6 : a8 = 0) (h7 : (0 ≤ a7) ∧ (a7 ≤ 259)) : a1 ≤ 241 := by simp only [Int32.le_iff_toInt_le, Int32.lt_iff_toInt_lt, ← Int32.toInt_inj, ne_eq] at *; have l0 : (0 : Int32).toInt = 0 := (by decide); have l1 : (1 : Int32).toInt = 1 := (by decide); have l2 : (-1 : Int32).toInt = -1 := (by decide); have l3 : (240 : Int32).toInt = 240 := (by decide); have l4 : (259 : Int32).toInt = 259 := (by decide); have l5 : (241 : Int32).toInt = 241 := (by decide); have s0 : (a7 + 1).toInt = a7.toInt + 1 := q_tA (by decide) (by omega) (by omega); omega
theorem zz_a58cfe1bd4 {a1 a2 a3 a4 a5 a6 a7 : Int32} (h0 : a1 = a2 + 1) (h1 : a3 ≤ (if a4 = 0 then a2 else 300)) (h2 : a5 ≤ a3 + 1) (h3 : (a6 ≠ -1) → (a2 < 240)) (h4 : a4 = 0) (h5 : ¬ (a6 = -1)) (h6 : -100000 ≤ a3) (h7 : a3 ≤ 100000) (h8 : (0 ≤ a2) ∧ (a2 ≤ 250)) : a5 ≤ (if a7 = 0 then a1 else 300) := by split at h1 <;> split <;> (simp only [Int32.le_iff_toInt_le, Int32.lt_iff_toInt_lt, ← Int32.toInt_inj, ne_eq] at *; have l0 : (1 : Int32).toInt = 1 := (by decide); have l1 : (0 : Int32).toInt = 0 := (by decide); have l2 : (300 : Int32).toInt = 300 := (by decide); have l3 : (-1 : Int32).toInt = -1 := (by decide); have l4 : (240 : Int32).toInt = 240 := (by decide); have l5 : (-100000 : Int32).toInt = -100000 := (by decide); have l6 : (100000 : Int32).toInt = 100000 := (by decide); have l7 : (250 : Int32).toInt = 250 := (by decide); have s0 : (a2 + 1).toInt = a2.toInt + 1 := q_tA (by decide) (by omega) (by omega); have s1 : (a3 + 1).toInt = a3.toInt + 1 := q_tA (by decide) (by omega) (by omega); omega)
theorem zz_80ef18a798 {a1 a2 a3 a4 a5 a6 : Int32} (h0 : a1 = a2 + 1) (h1 : (a3 = 0) → ((a4 ≠ 0) → (a2 < a5))) (h2 : a3 = 0) (h3 : ¬ (a4 = 0)) (h4 : (0 ≤ a2) ∧ (a2 ≤ 250)) : (a6 = 0) → ((a2 < a1) ∧ (a1 ≤ a5)) := by simp only [Int32.le_iff_toInt_le, Int32.lt_iff_toInt_lt, ← Int32.toInt_inj, ne_eq] at *; have l0 : (1 : Int32).toInt = 1 := (by decide); have l1 : (0 : Int32).toInt = 0 := (by decide); have l2 : (250 : Int32).toInt = 250 := (by decide); have s0 : (a2 + 1).toInt = a2.toInt + 1 := q_tA (by decide) (by omega) (by omega); omega
theorem zz_11fba6f4ae {a1 a2 a3 a4 a5 : Int32} (h0 : ¬ (a1 = 0)) (h1 : a1 = 0) : (a2 = 0) → ((a3 < a4) ∧ (a4 ≤ a5)) := by simp only [Int32.le_iff_toInt_le, Int32.lt_iff_toInt_lt, ← Int32.toInt_inj, ne_eq] at *; have l0 : (0 : Int32).toInt = 0 := (by decide); omega
theorem zz_f9caaffa20 {a1 a2 a3 a4 : Int32} (h0 : ¬ (a1 = 0)) (h1 : a1 = 0) : (a2 = 0) → (a3 ≤ a4) := by simp only [Int32.le_iff_toInt_le, Int32.lt_iff_toInt_lt, ← Int32.toInt_inj, ne_eq] at *; have l0 : (0 : Int32).toInt = 0 := (by decide); omega
theorem zz_0de0e8ed46 {a1 a2 a3 a4 a5 : Int32} (h0 : a1 = a2) (h1 : ¬ (a2 = 0)) : (a1 = 0) → ((a3 < a4) ∧ (a4 ≤ a5)) := by simp only [Int32.le_iff_toInt_le, Int32.lt_iff_toInt_lt, ← Int32.toInt_inj, ne_eq] at *; have l0 : (0 : Int32).toInt = 0 := (by decide); omega
set_option maxHeartbeats 4000000 in
theorem p_Mod_readPattern_114_n {L : q_L} {W : Nat → Prop} {h0 : z_H} {π : Nat → Nat → Option Nat} {N : Nat} {f0 : Int32} {lo : Nat → Int32} (hqn : q_Q lo 301) : ∀ (n : Nat) (v0 : Nat) (v1 : Int32) (h : z_H), q_U L W h0 π h → q_M L π v0 → (∀ a, v0 ≤ a → a < v0 + 46 → W a) → (0 ≤ v1) → (v1 < 260) → (v1 = (130 * vI h v0 42 + vA h (v0 + 20) (vI h v0 42))) → (vA h (v0 + 20) (vI h v0 42) ≤ 128) → (vI h v0 48 = 0 → vI h v0 41 ≤ vI h v0 3) → (vI h v0 48 = 0 → vA h (v0 + 21) (vI h v0 42) ≤ vI h v0 41) → (vI h v0 48 = 0 → q_JM (vA h (v0 + 26)) (vA h (v0 + 27)) f0 (260 * vI h v0 42 + vA h (v0 + 21) (vI h v0 42)) (vI h v0 44) (vI h v0 49) (vI h v0 50)) → (vA h (v0 + 23) v1 = f0) → (vI h v0 48 = 0 → vA h (v0 + 31) v1 ≠ 0 → vI h v0 41 < vI h v0 3) → (vI h v0 41 ≤ 242) → (vA h (v0 + 21) (vI h v0 42) ≤ 241) → (100000 ≤ N) → (lo n ≤ (if vI h v0 48 = 0 then vI h v0 41 else 300)) → qk (f_Mod_readPattern_114 N  n v0 v1 h) (fun r => q_U L W h0 π r.2 ∧ (r.1 = v1) ∧ (∀ a k, ¬ (a = v0 ∧ (k = 5 ∨ k = 46 ∨ k = 48 ∨ k = 50 ∨ k = 41 ∨ k = 44 ∨ k = 49 ∨ k = 45)) → vI r.2 a k = vI h a k) ∧ (∀ a j, 0 ≤ j → ¬ (a = v0 + 21 ∨ a = v0 + 26 ∨ a = v0 + 27 ∨ a = v0 + 29 ∨ a = v0 + 24 ∨ a = v0 + 25 ∨ a = v0 + 31 ∨ a = v0 + 20) → vA r.2 a j = vA h a j) ∧ (∀ j, 0 ≤ j → j ≠ vI h v0 42 → vA r.2 (v0 + 21) j = vA h (v0 + 21) j) ∧ (∀ j, 0 ≤ j → (j < (260 * vI h v0 42 + vA h (v0 + 21) (vI h v0 42)) ∨ 260 * vI h v0 42 + 260 ≤ j) → vA r.2 (v0 + 26) j = vA h (v0 + 26) j ∧ vA r.2 (v0 + 27) j = vA h (v0 + 27) j) ∧ (∀ j, 0 ≤ j → j ≠ vI h v0 42 → vA r.2 (v0 + 20) j = vA h (v0 + 20) j) ∧ (∀ j, 0 ≤ j → j ≠ v1 → vA r.2 (v0 + 23) j = vA h (v0 + 23) j ∧ vA r.2 (v0 + 24) j = vA h (v0 + 24) j ∧ vA r.2 (v0 + 25) j = vA h (v0 + 25) j) ∧ (vA r.2 (v0 + 20) (vI h v0 42) = vA h (v0 + 20) (vI h v0 42) + 1) ∧ (vI r.2 v0 48 = 0 → vI h v0 41 < vI r.2 v0 41 ∧ vI r.2 v0 41 ≤ vI h v0 3) ∧ (vI r.2 v0 48 = 0 → vA r.2 (v0 + 21) (vI h v0 42) ≤ vI r.2 v0 41) ∧ (vI r.2 v0 48 = 0 → q_PM r.2 v0 v1 ∧ vA r.2 (v0 + 24) v1 = (260 * vI h v0 42 + vA r.2 (v0 + 21) (vI h v0 42))) ∧ (vI h v0 41 ≤ vI r.2 v0 41 ∧ vI r.2 v0 41 ≤ 244) ∧ (vA h (v0 + 21) (vI h v0 42) ≤ vA r.2 (v0 + 21) (vI h v0 42) ∧ vA r.2 (v0 + 21) (vI h v0 42) ≤ 241)) := by
  intro n
  induction n with
  | zero => intro v0 v1 h T kv0 wM q0 q1 qq pb hl hi J ef ae ab ib hN hms; have rg_at := g_Mo_41 T kv0; have hz := hqn.1; exact absurd hms (by grind)
  | succ n ih =>
    intro v0 v1 h T kv0 wM q0 q1 qq pb hl hi J ef ae ab ib hN hms
    obtain ⟨hq1, hq2, hq3⟩ := hqn.2 n
    rw [f_Mod_readPattern_114]
    refine r_Mo_48 T kv0 ?_
    intro x1 ex1
    subst ex1
    refine qk_if (fun cc1 => ?_) (fun cc1 => ?_)
    · skip
      refine r_Mo_o T kv0 ?_
      refine c_Mod_here2 (v0 := v0) T kv0 ?_
      intro yr4 gr4_0 gr4_1 gr4_2 gr4_3 gr4_4
      dsimp only
      refine qk_if (fun cc2 => ?_) (fun cc2 => ?_)
      · skip
        unfold f_Mod_readPattern_317
        refine r_Mo_48 T kv0 ?_
        intro x1i3 ex1i3
        subst ex1i3
        refine qk_if (fun cc4 => ?_) (fun cc4 => ?_)
        · skip
          refine r_Mo_49 T kv0 ?_
          intro x3i3 ex3i3
          subst ex3i3
          refine qk_if (fun cc5 => ?_) (fun cc5 => ?_)
          · skip
            unfold f_Mod_readPattern_339
            refine r_Mo_41 T kv0 ?_
            intro x1i6 ex1i6 lx1i6 ux1i6
            subst ex1i6
            have o7 := g_Mo_41 T kv0
            refine w_Mo_41 T kv0 (wM _ (by omega) (by omega)) (zz_5664edf06b o7) (zz_c81e5df24d ab o7) ?_
            intro h2i6 Th2i6 ih2i6 ah2i6
            refine r_Mo_29 Th2i6 kv0 ?_
            refine r_Mo_42 Th2i6 kv0 ?_
            intro x4i6 ex4i6 lx4i6 ux4i6
            have sx4i6 : (vI h v0 42) = x4i6 := (ex4i6.trans (by rw [ih2i6 v0 42, if_neg (fun z => absurd z.2 (by decide))])).symm
            subst sx4i6
            refine r_Mo_26 Th2i6 kv0 ?_
            refine r_Mo_42 Th2i6 kv0 ?_
            intro x6i6 ex6i6 lx6i6 ux6i6
            have sx6i6 : (vI h v0 42) = x6i6 := (ex6i6.trans (by rw [ih2i6 v0 42, if_neg (fun z => absurd z.2 (by decide))])).symm
            subst sx6i6
            have o8 := g_Mo_42 T kv0
            refine r_Mo_e21 Th2i6 kv0 lx6i6 (zz_e1f2e57bfa o8) ?_
            intro x7i6 ex7i6 lx7i6 ux7i6
            have sx7i6 : (vA h (v0 + 21) (vI h v0 42)) = x7i6 := (ex7i6.trans (by rw [ah2i6 (v0 + 21) (vI h v0 42)])).symm
            subst sx7i6
            have o9 := g_Mo_e21 T kv0 (vI h v0 42)
            refine w_Mo_e24 Th2i6 kv0 (wM _ (by omega) (by omega)) q0 q1 (zz_7a9193dccd o8 o9) (zz_ee38f1e714 o8 ib o9) ?_
            intro h8i6 Th8i6 ih8i6 ah8i6
            refine r_Mo_30 Th8i6 kv0 ?_
            refine r_Mo_44 Th8i6 kv0 ?_
            intro x10i6 ex10i6 lx10i6 ux10i6
            have sx10i6 : (vI h v0 44) = x10i6 := (ex10i6.trans (by rw [ih8i6 v0 44, ih2i6 v0 44, if_neg (fun z => absurd z.2 (by decide))])).symm
            subst sx10i6
            refine w_Mo_e25 Th8i6 kv0 (wM _ (by omega) (by omega)) q0 q1 lx10i6 ux10i6 ?_
            intro h11i6 Th11i6 ih11i6 ah11i6
            refine r_Mo_25 Th11i6 kv0 ?_
            refine r_Mo_42 Th11i6 kv0 ?_
            intro x13i6 ex13i6 lx13i6 ux13i6
            have sx13i6 : (vI h v0 42) = x13i6 := (ex13i6.trans (by rw [ih11i6 v0 42, ih8i6 v0 42, ih2i6 v0 42, if_neg (fun z => absurd z.2 (by decide))])).symm
            subst sx13i6
            refine r_Mo_e20 Th11i6 kv0 lx13i6 (zz_e1f2e57bfa o8) ?_
            intro x14i6 ex14i6 lx14i6 ux14i6
            have sx14i6 : (vA h (v0 + 20) (vI h v0 42)) = x14i6 := (ex14i6.trans (by rw [ah11i6 (v0 + 20) (vI h v0 42) lx13i6, if_neg (fun z => absurd z.1 (by omega)), ah8i6 (v0 + 20) (vI h v0 42) lx13i6, if_neg (fun z => absurd z.1 (by omega)), ah2i6 (v0 + 20) (vI h v0 42)])).symm
            subst sx14i6
            have o10 := g_Mo_e20 T kv0 (vI h v0 42)
            refine w_Mo_e20 Th11i6 kv0 (wM _ (by omega) (by omega)) lx13i6 (zz_e1f2e57bfa o8) (zz_cabb9e759f o10) (zz_5c896beaaf pb o10) ?_
            intro h15i6 Th15i6 ih15i6 ah15i6
            refine qk_some ?_
            have o11 : vA h15i6 (v0 + 20) (vI h v0 42) = (vA h (v0 + 20) (vI h v0 42)) + 1 := (by rw [ah15i6 (v0 + 20) (vI h v0 42) lx13i6, if_pos ⟨rfl, rfl⟩])
            have o12 : vI h15i6 v0 41 = (vI h v0 41) + 1 := (by rw [ih15i6 v0 41, ih11i6 v0 41, ih8i6 v0 41, ih2i6 v0 41, if_pos ⟨rfl, rfl⟩])
            have o13 : vA h15i6 (v0 + 21) (vI h v0 42) = vA h (v0 + 21) (vI h v0 42) := (by rw [ah15i6 (v0 + 21) (vI h v0 42) lx13i6, if_neg (fun z => absurd z.1 (by omega)), ah11i6 (v0 + 21) (vI h v0 42) lx13i6, if_neg (fun z => absurd z.1 (by omega)), ah8i6 (v0 + 21) (vI h v0 42) lx13i6, if_neg (fun z => absurd z.1 (by omega)), ah2i6 (v0 + 21) (vI h v0 42)])
            exact ⟨Th15i6, (zz_098cd87474), (by clear ih; show ∀ a k, ¬ (a = v0 ∧ (k = 5 ∨ k = 46 ∨ k = 48 ∨ k = 50 ∨ k = 41 ∨ k = 44 ∨ k = 49 ∨ k = 45)) → vI h15i6 a k = vI h a k; intro a k n0; rw [ih15i6, ih11i6, ih8i6, ih2i6, if_neg (by omega)]), (by clear ih; show ∀ a j, 0 ≤ j → ¬ (a = v0 + 21 ∨ a = v0 + 26 ∨ a = v0 + 27 ∨ a = v0 + 29 ∨ a = v0 + 24 ∨ a = v0 + 25 ∨ a = v0 + 31 ∨ a = v0 + 20) → vA h15i6 a j = vA h a j; intro a j j0 n0; rw [ah15i6 a j j0, if_neg (by omega), ah11i6 a j j0, if_neg (by omega), ah8i6 a j j0, if_neg (by omega), ah2i6]), (by clear ih; show ∀ j, 0 ≤ j → j ≠ vI h v0 42 → vA h15i6 (v0 + 21) j = vA h (v0 + 21) j; intro j j0 n0; rw [ah15i6 (v0 + 21) j j0, if_neg (fun z => absurd z.1 (by omega)), ah11i6 (v0 + 21) j j0, if_neg (fun z => absurd z.1 (by omega)), ah8i6 (v0 + 21) j j0, if_neg (fun z => absurd z.1 (by omega)), ah2i6 (v0 + 21) j]), (by clear ih; show ∀ j, 0 ≤ j → (j < (260 * vI h v0 42 + vA h (v0 + 21) (vI h v0 42)) ∨ 260 * vI h v0 42 + 260 ≤ j) → vA h15i6 (v0 + 26) j = vA h (v0 + 26) j ∧ vA h15i6 (v0 + 27) j = vA h (v0 + 27) j; intro j j0 n0; exact ⟨(by rw [ah15i6 (v0 + 26) j j0, if_neg (fun z => absurd z.1 (by omega)), ah11i6 (v0 + 26) j j0, if_neg (fun z => absurd z.1 (by omega)), ah8i6 (v0 + 26) j j0, if_neg (fun z => absurd z.1 (by omega)), ah2i6 (v0 + 26) j]), (by rw [ah15i6 (v0 + 27) j j0, if_neg (fun z => absurd z.1 (by omega)), ah11i6 (v0 + 27) j j0, if_neg (fun z => absurd z.1 (by omega)), ah8i6 (v0 + 27) j j0, if_neg (fun z => absurd z.1 (by omega)), ah2i6 (v0 + 27) j])⟩), (by clear ih; show ∀ j, 0 ≤ j → j ≠ vI h v0 42 → vA h15i6 (v0 + 20) j = vA h (v0 + 20) j; intro j j0 n0; rw [ah15i6 (v0 + 20) j j0, if_neg (fun z => absurd z.2 (zz_946771669d n0)), ah11i6 (v0 + 20) j j0, if_neg (fun z => absurd z.1 (by omega)), ah8i6 (v0 + 20) j j0, if_neg (fun z => absurd z.1 (by omega)), ah2i6 (v0 + 20) j]), (by clear ih; show ∀ j, 0 ≤ j → j ≠ v1 → vA h15i6 (v0 + 23) j = vA h (v0 + 23) j ∧ vA h15i6 (v0 + 24) j = vA h (v0 + 24) j ∧ vA h15i6 (v0 + 25) j = vA h (v0 + 25) j; intro j j0 n0; exact ⟨(by rw [ah15i6 (v0 + 23) j j0, if_neg (fun z => absurd z.1 (by omega)), ah11i6 (v0 + 23) j j0, if_neg (fun z => absurd z.1 (by omega)), ah8i6 (v0 + 23) j j0, if_neg (fun z => absurd z.1 (by omega)), ah2i6 (v0 + 23) j]), (by rw [ah15i6 (v0 + 24) j j0, if_neg (fun z => absurd z.1 (by omega)), ah11i6 (v0 + 24) j j0, if_neg (fun z => absurd z.1 (by omega)), ah8i6 (v0 + 24) j j0, if_neg (fun z => absurd z.2 (zz_946771669d n0)), ah2i6 (v0 + 24) j]), (by rw [ah15i6 (v0 + 25) j j0, if_neg (fun z => absurd z.1 (by omega)), ah11i6 (v0 + 25) j j0, if_neg (fun z => absurd z.2 (zz_946771669d n0)), ah8i6 (v0 + 25) j j0, if_neg (fun z => absurd z.1 (by omega)), ah2i6 (v0 + 25) j])⟩), (zz_454c40ae5e o11 o10), (zz_810949327d o12 gr4_2 cc2 o7), (zz_b62e0579eb o13 o12 hi cc4 o7), (by clear ih; show vI h15i6 v0 48 = 0 → q_PM h15i6 v0 v1 ∧ vA h15i6 (v0 + 24) v1 = (260 * vI h v0 42 + vA h15i6 (v0 + 21) (vI h v0 42)); intro bb; exact ⟨q_PM_of (J cc4) (fun j j0 j1 => ⟨by rw [ah15i6 (v0 + 26) j j0, if_neg (fun z => absurd z.1 (by omega)), ah11i6 (v0 + 26) j j0, if_neg (fun z => absurd z.1 (by omega)), ah8i6 (v0 + 26) j j0, if_neg (fun z => absurd z.1 (by omega)), ah2i6 (v0 + 26) j], by rw [ah15i6 (v0 + 27) j j0, if_neg (fun z => absurd z.1 (by omega)), ah11i6 (v0 + 27) j j0, if_neg (fun z => absurd z.1 (by omega)), ah8i6 (v0 + 27) j j0, if_neg (fun z => absurd z.1 (by omega)), ah2i6 (v0 + 27) j]⟩) (by rw [ah15i6 (v0 + 23) v1 q0, if_neg (fun z => absurd z.1 (by omega)), ah11i6 (v0 + 23) v1 q0, if_neg (fun z => absurd z.1 (by omega)), ah8i6 (v0 + 23) v1 q0, if_neg (fun z => absurd z.1 (by omega)), ah2i6 (v0 + 23) v1]; exact ef) (by rw [ah15i6 (v0 + 24) v1 q0, if_neg (fun z => absurd z.1 (by omega)), ah11i6 (v0 + 24) v1 q0, if_neg (fun z => absurd z.1 (by omega)), ah8i6 (v0 + 24) v1 q0, if_pos ⟨rfl, rfl⟩]), by rw [ah15i6 (v0 + 24) v1 q0, if_neg (fun z => absurd z.1 (by omega)), ah11i6 (v0 + 24) v1 q0, if_neg (fun z => absurd z.1 (by omega)), ah8i6 (v0 + 24) v1 q0, if_pos ⟨rfl, rfl⟩, ah15i6 (v0 + 21) (vI h v0 42) lx13i6, if_neg (fun z => absurd z.1 (by omega)), ah11i6 (v0 + 21) (vI h v0 42) lx13i6, if_neg (fun z => absurd z.1 (by omega)), ah8i6 (v0 + 21) (vI h v0 42) lx13i6, if_neg (fun z => absurd z.1 (by omega)), ah2i6 (v0 + 21) (vI h v0 42)]⟩), (zz_6acff39744 o12 ab o7), (zz_366c52b05d o13 ib)⟩
          · skip
            refine r_Mo_41 T kv0 ?_
            intro x5i3 ex5i3 lx5i3 ux5i3
            subst ex5i3
            refine r_Mo_o T kv0 ?_
            refine c_Mod_wrong (v0 := v0) (v1 := (vI h v0 41)) T kv0 wM ?_
            intro r7i3 Tr7i3 gr7i3_0 gr7i3_1 gr7i3_2
            unfold f_Mod_readPattern_339
            refine r_Mo_41 Tr7i3 kv0 ?_
            intro x1i14 ex1i14 lx1i14 ux1i14
            have sx1i14 : (vI h v0 41) = x1i14 := (ex1i14.trans (by rw [gr7i3_0 v0 41 (by omega)])).symm
            subst sx1i14
            have o15 := g_Mo_41 T kv0
            refine w_Mo_41 Tr7i3 kv0 (wM _ (by omega) (by omega)) (zz_5664edf06b o15) (zz_c81e5df24d ab o15) ?_
            intro h2i14 Th2i14 ih2i14 ah2i14
            refine r_Mo_29 Th2i14 kv0 ?_
            refine r_Mo_42 Th2i14 kv0 ?_
            intro x4i14 ex4i14 lx4i14 ux4i14
            have sx4i14 : (vI h v0 42) = x4i14 := (ex4i14.trans (by rw [ih2i14 v0 42, if_neg (fun z => absurd z.2 (by decide)), gr7i3_0 v0 42 (by omega)])).symm
            subst sx4i14
            refine r_Mo_26 Th2i14 kv0 ?_
            refine r_Mo_42 Th2i14 kv0 ?_
            intro x6i14 ex6i14 lx6i14 ux6i14
            have sx6i14 : (vI h v0 42) = x6i14 := (ex6i14.trans (by rw [ih2i14 v0 42, if_neg (fun z => absurd z.2 (by decide)), gr7i3_0 v0 42 (by omega)])).symm
            subst sx6i14
            have o16 := g_Mo_42 T kv0
            refine r_Mo_e21 Th2i14 kv0 lx6i14 (zz_e1f2e57bfa o16) ?_
            intro x7i14 ex7i14 lx7i14 ux7i14
            have sx7i14 : (vA h (v0 + 21) (vI h v0 42)) = x7i14 := (ex7i14.trans (by rw [ah2i14 (v0 + 21) (vI h v0 42), gr7i3_2 (v0 + 21) (vI h v0 42)])).symm
            subst sx7i14
            have o17 := g_Mo_e21 T kv0 (vI h v0 42)
            refine w_Mo_e24 Th2i14 kv0 (wM _ (by omega) (by omega)) q0 q1 (zz_7a9193dccd o16 o17) (zz_ee38f1e714 o16 ib o17) ?_
            intro h8i14 Th8i14 ih8i14 ah8i14
            refine r_Mo_30 Th8i14 kv0 ?_
            refine r_Mo_44 Th8i14 kv0 ?_
            intro x10i14 ex10i14 lx10i14 ux10i14
            have sx10i14 : (vI h v0 44) = x10i14 := (ex10i14.trans (by rw [ih8i14 v0 44, ih2i14 v0 44, if_neg (fun z => absurd z.2 (by decide)), gr7i3_0 v0 44 (by omega)])).symm
            subst sx10i14
            refine w_Mo_e25 Th8i14 kv0 (wM _ (by omega) (by omega)) q0 q1 lx10i14 ux10i14 ?_
            intro h11i14 Th11i14 ih11i14 ah11i14
            refine r_Mo_25 Th11i14 kv0 ?_
            refine r_Mo_42 Th11i14 kv0 ?_
            intro x13i14 ex13i14 lx13i14 ux13i14
            have sx13i14 : (vI h v0 42) = x13i14 := (ex13i14.trans (by rw [ih11i14 v0 42, ih8i14 v0 42, ih2i14 v0 42, if_neg (fun z => absurd z.2 (by decide)), gr7i3_0 v0 42 (by omega)])).symm
            subst sx13i14
            refine r_Mo_e20 Th11i14 kv0 lx13i14 (zz_e1f2e57bfa o16) ?_
            intro x14i14 ex14i14 lx14i14 ux14i14
            have sx14i14 : (vA h (v0 + 20) (vI h v0 42)) = x14i14 := (ex14i14.trans (by rw [ah11i14 (v0 + 20) (vI h v0 42) lx13i14, if_neg (fun z => absurd z.1 (by omega)), ah8i14 (v0 + 20) (vI h v0 42) lx13i14, if_neg (fun z => absurd z.1 (by omega)), ah2i14 (v0 + 20) (vI h v0 42), gr7i3_2 (v0 + 20) (vI h v0 42)])).symm
            subst sx14i14
            have o18 := g_Mo_e20 T kv0 (vI h v0 42)
            refine w_Mo_e20 Th11i14 kv0 (wM _ (by omega) (by omega)) lx13i14 (zz_e1f2e57bfa o16) (zz_cabb9e759f o18) (zz_5c896beaaf pb o18) ?_
            intro h15i14 Th15i14 ih15i14 ah15i14
            refine qk_some ?_
            have o19 : vA h15i14 (v0 + 20) (vI h v0 42) = (vA h (v0 + 20) (vI h v0 42)) + 1 := (by rw [ah15i14 (v0 + 20) (vI h v0 42) lx13i14, if_pos ⟨rfl, rfl⟩])
            have o20 : vI h15i14 v0 48 = 1 := (by rw [ih15i14 v0 48, ih11i14 v0 48, ih8i14 v0 48, ih2i14 v0 48, if_neg (fun z => absurd z.2 (by decide)), gr7i3_1])
            have o21 : vI h15i14 v0 41 = (vI h v0 41) + 1 := (by rw [ih15i14 v0 41, ih11i14 v0 41, ih8i14 v0 41, ih2i14 v0 41, if_pos ⟨rfl, rfl⟩])
            have o22 : vA h15i14 (v0 + 21) (vI h v0 42) = vA h (v0 + 21) (vI h v0 42) := (by rw [ah15i14 (v0 + 21) (vI h v0 42) lx13i14, if_neg (fun z => absurd z.1 (by omega)), ah11i14 (v0 + 21) (vI h v0 42) lx13i14, if_neg (fun z => absurd z.1 (by omega)), ah8i14 (v0 + 21) (vI h v0 42) lx13i14, if_neg (fun z => absurd z.1 (by omega)), ah2i14 (v0 + 21) (vI h v0 42), gr7i3_2 (v0 + 21) (vI h v0 42)])
            exact ⟨Th15i14, (zz_098cd87474), (by clear ih; show ∀ a k, ¬ (a = v0 ∧ (k = 5 ∨ k = 46 ∨ k = 48 ∨ k = 50 ∨ k = 41 ∨ k = 44 ∨ k = 49 ∨ k = 45)) → vI h15i14 a k = vI h a k; intro a k n0; rw [ih15i14, ih11i14, ih8i14, ih2i14, if_neg (by omega), gr7i3_0 a k (by omega)]), (by clear ih; show ∀ a j, 0 ≤ j → ¬ (a = v0 + 21 ∨ a = v0 + 26 ∨ a = v0 + 27 ∨ a = v0 + 29 ∨ a = v0 + 24 ∨ a = v0 + 25 ∨ a = v0 + 31 ∨ a = v0 + 20) → vA h15i14 a j = vA h a j; intro a j j0 n0; rw [ah15i14 a j j0, if_neg (by omega), ah11i14 a j j0, if_neg (by omega), ah8i14 a j j0, if_neg (by omega), ah2i14, gr7i3_2 a j]), (by clear ih; show ∀ j, 0 ≤ j → j ≠ vI h v0 42 → vA h15i14 (v0 + 21) j = vA h (v0 + 21) j; intro j j0 n0; rw [ah15i14 (v0 + 21) j j0, if_neg (fun z => absurd z.1 (by omega)), ah11i14 (v0 + 21) j j0, if_neg (fun z => absurd z.1 (by omega)), ah8i14 (v0 + 21) j j0, if_neg (fun z => absurd z.1 (by omega)), ah2i14 (v0 + 21) j, gr7i3_2 (v0 + 21) j]), (by clear ih; show ∀ j, 0 ≤ j → (j < (260 * vI h v0 42 + vA h (v0 + 21) (vI h v0 42)) ∨ 260 * vI h v0 42 + 260 ≤ j) → vA h15i14 (v0 + 26) j = vA h (v0 + 26) j ∧ vA h15i14 (v0 + 27) j = vA h (v0 + 27) j; intro j j0 n0; exact ⟨(by rw [ah15i14 (v0 + 26) j j0, if_neg (fun z => absurd z.1 (by omega)), ah11i14 (v0 + 26) j j0, if_neg (fun z => absurd z.1 (by omega)), ah8i14 (v0 + 26) j j0, if_neg (fun z => absurd z.1 (by omega)), ah2i14 (v0 + 26) j, gr7i3_2 (v0 + 26) j]), (by rw [ah15i14 (v0 + 27) j j0, if_neg (fun z => absurd z.1 (by omega)), ah11i14 (v0 + 27) j j0, if_neg (fun z => absurd z.1 (by omega)), ah8i14 (v0 + 27) j j0, if_neg (fun z => absurd z.1 (by omega)), ah2i14 (v0 + 27) j, gr7i3_2 (v0 + 27) j])⟩), (by clear ih; show ∀ j, 0 ≤ j → j ≠ vI h v0 42 → vA h15i14 (v0 + 20) j = vA h (v0 + 20) j; intro j j0 n0; rw [ah15i14 (v0 + 20) j j0, if_neg (fun z => absurd z.2 (zz_946771669d n0)), ah11i14 (v0 + 20) j j0, if_neg (fun z => absurd z.1 (by omega)), ah8i14 (v0 + 20) j j0, if_neg (fun z => absurd z.1 (by omega)), ah2i14 (v0 + 20) j, gr7i3_2 (v0 + 20) j]), (by clear ih; show ∀ j, 0 ≤ j → j ≠ v1 → vA h15i14 (v0 + 23) j = vA h (v0 + 23) j ∧ vA h15i14 (v0 + 24) j = vA h (v0 + 24) j ∧ vA h15i14 (v0 + 25) j = vA h (v0 + 25) j; intro j j0 n0; exact ⟨(by rw [ah15i14 (v0 + 23) j j0, if_neg (fun z => absurd z.1 (by omega)), ah11i14 (v0 + 23) j j0, if_neg (fun z => absurd z.1 (by omega)), ah8i14 (v0 + 23) j j0, if_neg (fun z => absurd z.1 (by omega)), ah2i14 (v0 + 23) j, gr7i3_2 (v0 + 23) j]), (by rw [ah15i14 (v0 + 24) j j0, if_neg (fun z => absurd z.1 (by omega)), ah11i14 (v0 + 24) j j0, if_neg (fun z => absurd z.1 (by omega)), ah8i14 (v0 + 24) j j0, if_neg (fun z => absurd z.2 (zz_946771669d n0)), ah2i14 (v0 + 24) j, gr7i3_2 (v0 + 24) j]), (by rw [ah15i14 (v0 + 25) j j0, if_neg (fun z => absurd z.1 (by omega)), ah11i14 (v0 + 25) j j0, if_neg (fun z => absurd z.2 (zz_946771669d n0)), ah8i14 (v0 + 25) j j0, if_neg (fun z => absurd z.1 (by omega)), ah2i14 (v0 + 25) j, gr7i3_2 (v0 + 25) j])⟩), (zz_454c40ae5e o19 o18), (zz_8cbda2a0b7 o20), (zz_72bcbc58f7 o20), (by clear ih; show vI h15i14 v0 48 = 0 → q_PM h15i14 v0 v1 ∧ vA h15i14 (v0 + 24) v1 = (260 * vI h v0 42 + vA h15i14 (v0 + 21) (vI h v0 42)); intro bb; exact absurd bb (zz_f5f80cd091 o20)), (zz_6acff39744 o21 ab o15), (zz_366c52b05d o22 ib)⟩
        · skip
          unfold f_Mod_readPattern_339
          refine r_Mo_41 T kv0 ?_
          intro x1i23 ex1i23 lx1i23 ux1i23
          subst ex1i23
          have o24 := g_Mo_41 T kv0
          refine w_Mo_41 T kv0 (wM _ (by omega) (by omega)) (zz_5664edf06b o24) (zz_c81e5df24d ab o24) ?_
          intro h2i23 Th2i23 ih2i23 ah2i23
          refine r_Mo_29 Th2i23 kv0 ?_
          refine r_Mo_42 Th2i23 kv0 ?_
          intro x4i23 ex4i23 lx4i23 ux4i23
          have sx4i23 : (vI h v0 42) = x4i23 := (ex4i23.trans (by rw [ih2i23 v0 42, if_neg (fun z => absurd z.2 (by decide))])).symm
          subst sx4i23
          refine r_Mo_26 Th2i23 kv0 ?_
          refine r_Mo_42 Th2i23 kv0 ?_
          intro x6i23 ex6i23 lx6i23 ux6i23
          have sx6i23 : (vI h v0 42) = x6i23 := (ex6i23.trans (by rw [ih2i23 v0 42, if_neg (fun z => absurd z.2 (by decide))])).symm
          subst sx6i23
          have o25 := g_Mo_42 T kv0
          refine r_Mo_e21 Th2i23 kv0 lx6i23 (zz_e1f2e57bfa o25) ?_
          intro x7i23 ex7i23 lx7i23 ux7i23
          have sx7i23 : (vA h (v0 + 21) (vI h v0 42)) = x7i23 := (ex7i23.trans (by rw [ah2i23 (v0 + 21) (vI h v0 42)])).symm
          subst sx7i23
          have o26 := g_Mo_e21 T kv0 (vI h v0 42)
          refine w_Mo_e24 Th2i23 kv0 (wM _ (by omega) (by omega)) q0 q1 (zz_7a9193dccd o25 o26) (zz_ee38f1e714 o25 ib o26) ?_
          intro h8i23 Th8i23 ih8i23 ah8i23
          refine r_Mo_30 Th8i23 kv0 ?_
          refine r_Mo_44 Th8i23 kv0 ?_
          intro x10i23 ex10i23 lx10i23 ux10i23
          have sx10i23 : (vI h v0 44) = x10i23 := (ex10i23.trans (by rw [ih8i23 v0 44, ih2i23 v0 44, if_neg (fun z => absurd z.2 (by decide))])).symm
          subst sx10i23
          refine w_Mo_e25 Th8i23 kv0 (wM _ (by omega) (by omega)) q0 q1 lx10i23 ux10i23 ?_
          intro h11i23 Th11i23 ih11i23 ah11i23
          refine r_Mo_25 Th11i23 kv0 ?_
          refine r_Mo_42 Th11i23 kv0 ?_
          intro x13i23 ex13i23 lx13i23 ux13i23
          have sx13i23 : (vI h v0 42) = x13i23 := (ex13i23.trans (by rw [ih11i23 v0 42, ih8i23 v0 42, ih2i23 v0 42, if_neg (fun z => absurd z.2 (by decide))])).symm
          subst sx13i23
          refine r_Mo_e20 Th11i23 kv0 lx13i23 (zz_e1f2e57bfa o25) ?_
          intro x14i23 ex14i23 lx14i23 ux14i23
          have sx14i23 : (vA h (v0 + 20) (vI h v0 42)) = x14i23 := (ex14i23.trans (by rw [ah11i23 (v0 + 20) (vI h v0 42) lx13i23, if_neg (fun z => absurd z.1 (by omega)), ah8i23 (v0 + 20) (vI h v0 42) lx13i23, if_neg (fun z => absurd z.1 (by omega)), ah2i23 (v0 + 20) (vI h v0 42)])).symm
          subst sx14i23
          have o27 := g_Mo_e20 T kv0 (vI h v0 42)
          refine w_Mo_e20 Th11i23 kv0 (wM _ (by omega) (by omega)) lx13i23 (zz_e1f2e57bfa o25) (zz_cabb9e759f o27) (zz_5c896beaaf pb o27) ?_
          intro h15i23 Th15i23 ih15i23 ah15i23
          refine qk_some ?_
          have o28 : vA h15i23 (v0 + 20) (vI h v0 42) = (vA h (v0 + 20) (vI h v0 42)) + 1 := (by rw [ah15i23 (v0 + 20) (vI h v0 42) lx13i23, if_pos ⟨rfl, rfl⟩])
          have o29 : vI h15i23 v0 41 = (vI h v0 41) + 1 := (by rw [ih15i23 v0 41, ih11i23 v0 41, ih8i23 v0 41, ih2i23 v0 41, if_pos ⟨rfl, rfl⟩])
          have o30 : vA h15i23 (v0 + 21) (vI h v0 42) = vA h (v0 + 21) (vI h v0 42) := (by rw [ah15i23 (v0 + 21) (vI h v0 42) lx13i23, if_neg (fun z => absurd z.1 (by omega)), ah11i23 (v0 + 21) (vI h v0 42) lx13i23, if_neg (fun z => absurd z.1 (by omega)), ah8i23 (v0 + 21) (vI h v0 42) lx13i23, if_neg (fun z => absurd z.1 (by omega)), ah2i23 (v0 + 21) (vI h v0 42)])
          exact ⟨Th15i23, (zz_098cd87474), (by clear ih; show ∀ a k, ¬ (a = v0 ∧ (k = 5 ∨ k = 46 ∨ k = 48 ∨ k = 50 ∨ k = 41 ∨ k = 44 ∨ k = 49 ∨ k = 45)) → vI h15i23 a k = vI h a k; intro a k n0; rw [ih15i23, ih11i23, ih8i23, ih2i23, if_neg (by omega)]), (by clear ih; show ∀ a j, 0 ≤ j → ¬ (a = v0 + 21 ∨ a = v0 + 26 ∨ a = v0 + 27 ∨ a = v0 + 29 ∨ a = v0 + 24 ∨ a = v0 + 25 ∨ a = v0 + 31 ∨ a = v0 + 20) → vA h15i23 a j = vA h a j; intro a j j0 n0; rw [ah15i23 a j j0, if_neg (by omega), ah11i23 a j j0, if_neg (by omega), ah8i23 a j j0, if_neg (by omega), ah2i23]), (by clear ih; show ∀ j, 0 ≤ j → j ≠ vI h v0 42 → vA h15i23 (v0 + 21) j = vA h (v0 + 21) j; intro j j0 n0; rw [ah15i23 (v0 + 21) j j0, if_neg (fun z => absurd z.1 (by omega)), ah11i23 (v0 + 21) j j0, if_neg (fun z => absurd z.1 (by omega)), ah8i23 (v0 + 21) j j0, if_neg (fun z => absurd z.1 (by omega)), ah2i23 (v0 + 21) j]), (by clear ih; show ∀ j, 0 ≤ j → (j < (260 * vI h v0 42 + vA h (v0 + 21) (vI h v0 42)) ∨ 260 * vI h v0 42 + 260 ≤ j) → vA h15i23 (v0 + 26) j = vA h (v0 + 26) j ∧ vA h15i23 (v0 + 27) j = vA h (v0 + 27) j; intro j j0 n0; exact ⟨(by rw [ah15i23 (v0 + 26) j j0, if_neg (fun z => absurd z.1 (by omega)), ah11i23 (v0 + 26) j j0, if_neg (fun z => absurd z.1 (by omega)), ah8i23 (v0 + 26) j j0, if_neg (fun z => absurd z.1 (by omega)), ah2i23 (v0 + 26) j]), (by rw [ah15i23 (v0 + 27) j j0, if_neg (fun z => absurd z.1 (by omega)), ah11i23 (v0 + 27) j j0, if_neg (fun z => absurd z.1 (by omega)), ah8i23 (v0 + 27) j j0, if_neg (fun z => absurd z.1 (by omega)), ah2i23 (v0 + 27) j])⟩), (by clear ih; show ∀ j, 0 ≤ j → j ≠ vI h v0 42 → vA h15i23 (v0 + 20) j = vA h (v0 + 20) j; intro j j0 n0; rw [ah15i23 (v0 + 20) j j0, if_neg (fun z => absurd z.2 (zz_946771669d n0)), ah11i23 (v0 + 20) j j0, if_neg (fun z => absurd z.1 (by omega)), ah8i23 (v0 + 20) j j0, if_neg (fun z => absurd z.1 (by omega)), ah2i23 (v0 + 20) j]), (by clear ih; show ∀ j, 0 ≤ j → j ≠ v1 → vA h15i23 (v0 + 23) j = vA h (v0 + 23) j ∧ vA h15i23 (v0 + 24) j = vA h (v0 + 24) j ∧ vA h15i23 (v0 + 25) j = vA h (v0 + 25) j; intro j j0 n0; exact ⟨(by rw [ah15i23 (v0 + 23) j j0, if_neg (fun z => absurd z.1 (by omega)), ah11i23 (v0 + 23) j j0, if_neg (fun z => absurd z.1 (by omega)), ah8i23 (v0 + 23) j j0, if_neg (fun z => absurd z.1 (by omega)), ah2i23 (v0 + 23) j]), (by rw [ah15i23 (v0 + 24) j j0, if_neg (fun z => absurd z.1 (by omega)), ah11i23 (v0 + 24) j j0, if_neg (fun z => absurd z.1 (by omega)), ah8i23 (v0 + 24) j j0, if_neg (fun z => absurd z.2 (zz_946771669d n0)), ah2i23 (v0 + 24) j]), (by rw [ah15i23 (v0 + 25) j j0, if_neg (fun z => absurd z.1 (by omega)), ah11i23 (v0 + 25) j j0, if_neg (fun z => absurd z.2 (zz_946771669d n0)), ah8i23 (v0 + 25) j j0, if_neg (fun z => absurd z.1 (by omega)), ah2i23 (v0 + 25) j])⟩), (zz_454c40ae5e o28 o27), (zz_71df0bd6b9 cc1 cc4), (zz_19eb077e89 cc1 cc4), (by clear ih; show vI h15i23 v0 48 = 0 → q_PM h15i23 v0 v1 ∧ vA h15i23 (v0 + 24) v1 = (260 * vI h v0 42 + vA h15i23 (v0 + 21) (vI h v0 42)); intro bb; exact ⟨q_PM_of (J cc1) (fun j j0 j1 => ⟨by rw [ah15i23 (v0 + 26) j j0, if_neg (fun z => absurd z.1 (by omega)), ah11i23 (v0 + 26) j j0, if_neg (fun z => absurd z.1 (by omega)), ah8i23 (v0 + 26) j j0, if_neg (fun z => absurd z.1 (by omega)), ah2i23 (v0 + 26) j], by rw [ah15i23 (v0 + 27) j j0, if_neg (fun z => absurd z.1 (by omega)), ah11i23 (v0 + 27) j j0, if_neg (fun z => absurd z.1 (by omega)), ah8i23 (v0 + 27) j j0, if_neg (fun z => absurd z.1 (by omega)), ah2i23 (v0 + 27) j]⟩) (by rw [ah15i23 (v0 + 23) v1 q0, if_neg (fun z => absurd z.1 (by omega)), ah11i23 (v0 + 23) v1 q0, if_neg (fun z => absurd z.1 (by omega)), ah8i23 (v0 + 23) v1 q0, if_neg (fun z => absurd z.1 (by omega)), ah2i23 (v0 + 23) v1]; exact ef) (by rw [ah15i23 (v0 + 24) v1 q0, if_neg (fun z => absurd z.1 (by omega)), ah11i23 (v0 + 24) v1 q0, if_neg (fun z => absurd z.1 (by omega)), ah8i23 (v0 + 24) v1 q0, if_pos ⟨rfl, rfl⟩]), by rw [ah15i23 (v0 + 24) v1 q0, if_neg (fun z => absurd z.1 (by omega)), ah11i23 (v0 + 24) v1 q0, if_neg (fun z => absurd z.1 (by omega)), ah8i23 (v0 + 24) v1 q0, if_pos ⟨rfl, rfl⟩, ah15i23 (v0 + 21) (vI h v0 42) lx13i23, if_neg (fun z => absurd z.1 (by omega)), ah11i23 (v0 + 21) (vI h v0 42) lx13i23, if_neg (fun z => absurd z.1 (by omega)), ah8i23 (v0 + 21) (vI h v0 42) lx13i23, if_neg (fun z => absurd z.1 (by omega)), ah2i23 (v0 + 21) (vI h v0 42)]⟩), (zz_6acff39744 o29 ab o24), (zz_366c52b05d o30 ib)⟩
      · skip
        refine r_Mo_36 T kv0 ?_
        refine r_Mo_e31 T kv0 q0 q1 ?_
        intro x7 ex7
        subst ex7
        refine qk_if (fun cc31 => ?_) (fun cc31 => ?_)
        · skip
          refine r_Mo_o T kv0 ?_
          refine c_Mod_here2 (v0 := v0) T kv0 ?_
          intro yr10 gr10_0 gr10_1 gr10_2 gr10_3 gr10_4
          dsimp only
          refine qk_bs ?_
          refine qk_if (fun cc32 => ?_) (fun cc32 => ?_)
          · skip
            refine r_Mo_3 T kv0 ?_
            intro x24 ex24 lx24 ux24
            subst ex24
            refine r_Mo_o T kv0 ?_
            refine c_Mod_wrong (v0 := v0) (v1 := (vI h v0 3)) T kv0 wM ?_
            intro r26 Tr26 gr26_0 gr26_1 gr26_2
            have o33 : vA r26 (v0 + 20) (vI h v0 42) = vA h (v0 + 20) (vI h v0 42) := (by rw [gr26_2 (v0 + 20) (vI h v0 42)])
            have o34 := g_Mo_42 T kv0
            have o35 := g_Mo_e20 T kv0 (vI h v0 42)
            have o36 : vA r26 (v0 + 23) v1 = vA h (v0 + 23) v1 := (by rw [gr26_2 (v0 + 23) v1])
            have o37 : vI r26 v0 41 = vI h v0 41 := (by rw [gr26_0 v0 41 (by omega)])
            have o38 : vA r26 (v0 + 21) (vI h v0 42) = vA h (v0 + 21) (vI h v0 42) := (by rw [gr26_2 (v0 + 21) (vI h v0 42)])
            refine qk_mono (ih (v0) (v1) r26 Tr26 kv0 wM q0 q1 (by show v1 = (130 * vI r26 v0 42 + vA r26 (v0 + 20) (vI r26 v0 42)); have qc1 : vI r26 v0 42 = (vI h v0 42) := (by rw [gr26_0 v0 42 (by omega)]); rw [qc1]; exact zz_1cd0b996d1 o33 qq o34 o35) (by show vA r26 (v0 + 20) (vI r26 v0 42) ≤ 128; have qc1 : vI r26 v0 42 = (vI h v0 42) := (by rw [gr26_0 v0 42 (by omega)]); rw [qc1]; exact zz_766354e410 o33 pb) (zz_72bcbc58f7 gr26_1) (by show vI r26 v0 48 = 0 → vA r26 (v0 + 21) (vI r26 v0 42) ≤ vI r26 v0 41; have qc1 : vI r26 v0 42 = (vI h v0 42) := (by rw [gr26_0 v0 42 (by omega)]); rw [qc1]; exact zz_72bcbc58f7 gr26_1) (by clear ih; intro bb; exact absurd bb (zz_f5f80cd091 gr26_1)) (zz_5a73c3e9c5 o36 ef) (zz_21417ab933 gr26_1) (zz_01413b5888 o37 ab) (by show vA r26 (v0 + 21) (vI r26 v0 42) ≤ 241; have qc1 : vI r26 v0 42 = (vI h v0 42) := (by rw [gr26_0 v0 42 (by omega)]); rw [qc1]; exact zz_4339c4c768 o38 ib) hN (zz_eac49e2e22 ab hms hq1 gr26_1 cc1 hq2 hq3)) ?_
            rintro ⟨y, hz⟩ ⟨Tz, g0, g1, g2, g3, g4, g5, g6, g7, g8, g9, g10, g11, g12⟩
            try dsimp only at *
            have qh42_g0 : vI r26 v0 42 = (vI h v0 42) := by rw [gr26_0 v0 42 (by omega)]
            rw [qh42_g0] at g3
            rw [qh42_g0] at g4
            rw [qh42_g0] at g5
            rw [qh42_g0] at g7
            rw [qh42_g0] at g9
            rw [qh42_g0] at g10
            rw [qh42_g0] at g12
            have o40 := g_Mo_e21 T kv0 (vI h v0 42)
            have o41 : vI r26 v0 3 = vI h v0 3 := (by rw [gr26_0 v0 3 (by omega)])
            exact ⟨Tz, g0, (by clear ih; show ∀ a k, ¬ (a = v0 ∧ (k = 5 ∨ k = 46 ∨ k = 48 ∨ k = 50 ∨ k = 41 ∨ k = 44 ∨ k = 49 ∨ k = 45)) → vI hz a k = vI h a k; intro a k n0; rw [g1 a k (by omega), gr26_0 a k (by omega)]), (by clear ih; show ∀ a j, 0 ≤ j → ¬ (a = v0 + 21 ∨ a = v0 + 26 ∨ a = v0 + 27 ∨ a = v0 + 29 ∨ a = v0 + 24 ∨ a = v0 + 25 ∨ a = v0 + 31 ∨ a = v0 + 20) → vA hz a j = vA h a j; intro a j j0 n0; rw [g2 a j j0 (by omega), gr26_2 a j]), (by clear ih; show ∀ j, 0 ≤ j → j ≠ vI h v0 42 → vA hz (v0 + 21) j = vA h (v0 + 21) j; intro j j0 n0; rw [g3 j j0 n0, gr26_2 (v0 + 21) j]), (by clear ih; show ∀ j, 0 ≤ j → (j < (260 * vI h v0 42 + vA h (v0 + 21) (vI h v0 42)) ∨ 260 * vI h v0 42 + 260 ≤ j) → vA hz (v0 + 26) j = vA h (v0 + 26) j ∧ vA hz (v0 + 27) j = vA h (v0 + 27) j; intro j j0 n0; exact ⟨(by rw [(g4 j j0 (zz_9637c0da44 o38 n0 o34 o40)).1, gr26_2 (v0 + 26) j]), (by rw [(g4 j j0 (zz_9637c0da44 o38 n0 o34 o40)).2, gr26_2 (v0 + 27) j])⟩), (by clear ih; show ∀ j, 0 ≤ j → j ≠ vI h v0 42 → vA hz (v0 + 20) j = vA h (v0 + 20) j; intro j j0 n0; rw [g5 j j0 n0, gr26_2 (v0 + 20) j]), (by clear ih; show ∀ j, 0 ≤ j → j ≠ v1 → vA hz (v0 + 23) j = vA h (v0 + 23) j ∧ vA hz (v0 + 24) j = vA h (v0 + 24) j ∧ vA hz (v0 + 25) j = vA h (v0 + 25) j; intro j j0 n0; exact ⟨(by rw [g2 (v0 + 23) j j0 (by omega), gr26_2 (v0 + 23) j]), (by rw [(g6 j j0 n0).2.1, gr26_2 (v0 + 24) j]), (by rw [(g6 j j0 n0).2.2, gr26_2 (v0 + 25) j])⟩), (zz_00b52b5978 o33 g7 o35), (zz_cf91319686 g8 o37 o41), (zz_c52fc66c1a g9), (by clear ih; show vI hz v0 48 = 0 → q_PM hz v0 v1 ∧ vA hz (v0 + 24) v1 = (260 * vI h v0 42 + vA hz (v0 + 21) (vI h v0 42)); exact g10), (zz_f8c4aeaa3c o37 g11), (zz_cdf7ac87ea g12 o38)⟩
          · skip
            refine qk_if (fun cc42 => ?_) (fun cc42 => ?_)
            · skip
              refine r_Mo_41 T kv0 ?_
              intro x21 ex21 lx21 ux21
              subst ex21
              refine r_Mo_o T kv0 ?_
              refine c_Mod_wrong (v0 := v0) (v1 := (vI h v0 41)) T kv0 wM ?_
              intro r23 Tr23 gr23_0 gr23_1 gr23_2
              have o43 : vA r23 (v0 + 20) (vI h v0 42) = vA h (v0 + 20) (vI h v0 42) := (by rw [gr23_2 (v0 + 20) (vI h v0 42)])
              have o44 := g_Mo_42 T kv0
              have o45 := g_Mo_e20 T kv0 (vI h v0 42)
              have o46 : vA r23 (v0 + 23) v1 = vA h (v0 + 23) v1 := (by rw [gr23_2 (v0 + 23) v1])
              have o47 : vI r23 v0 41 = vI h v0 41 := (by rw [gr23_0 v0 41 (by omega)])
              have o48 : vA r23 (v0 + 21) (vI h v0 42) = vA h (v0 + 21) (vI h v0 42) := (by rw [gr23_2 (v0 + 21) (vI h v0 42)])
              refine qk_mono (ih (v0) (v1) r23 Tr23 kv0 wM q0 q1 (by show v1 = (130 * vI r23 v0 42 + vA r23 (v0 + 20) (vI r23 v0 42)); have qc1 : vI r23 v0 42 = (vI h v0 42) := (by rw [gr23_0 v0 42 (by omega)]); rw [qc1]; exact zz_1cd0b996d1 o43 qq o44 o45) (by show vA r23 (v0 + 20) (vI r23 v0 42) ≤ 128; have qc1 : vI r23 v0 42 = (vI h v0 42) := (by rw [gr23_0 v0 42 (by omega)]); rw [qc1]; exact zz_766354e410 o43 pb) (zz_72bcbc58f7 gr23_1) (by show vI r23 v0 48 = 0 → vA r23 (v0 + 21) (vI r23 v0 42) ≤ vI r23 v0 41; have qc1 : vI r23 v0 42 = (vI h v0 42) := (by rw [gr23_0 v0 42 (by omega)]); rw [qc1]; exact zz_72bcbc58f7 gr23_1) (by clear ih; intro bb; exact absurd bb (zz_f5f80cd091 gr23_1)) (zz_5a73c3e9c5 o46 ef) (zz_21417ab933 gr23_1) (zz_01413b5888 o47 ab) (by show vA r23 (v0 + 21) (vI r23 v0 42) ≤ 241; have qc1 : vI r23 v0 42 = (vI h v0 42) := (by rw [gr23_0 v0 42 (by omega)]); rw [qc1]; exact zz_4339c4c768 o48 ib) hN (zz_612c40eabe hms hq1 gr10_3 gr23_1 cc1 cc42 hq2 hq3)) ?_
              rintro ⟨y, hz⟩ ⟨Tz, g0, g1, g2, g3, g4, g5, g6, g7, g8, g9, g10, g11, g12⟩
              try dsimp only at *
              have qh42_g0 : vI r23 v0 42 = (vI h v0 42) := by rw [gr23_0 v0 42 (by omega)]
              rw [qh42_g0] at g3
              rw [qh42_g0] at g4
              rw [qh42_g0] at g5
              rw [qh42_g0] at g7
              rw [qh42_g0] at g9
              rw [qh42_g0] at g10
              rw [qh42_g0] at g12
              have o50 := g_Mo_e21 T kv0 (vI h v0 42)
              have o51 : vI r23 v0 3 = vI h v0 3 := (by rw [gr23_0 v0 3 (by omega)])
              exact ⟨Tz, g0, (by clear ih; show ∀ a k, ¬ (a = v0 ∧ (k = 5 ∨ k = 46 ∨ k = 48 ∨ k = 50 ∨ k = 41 ∨ k = 44 ∨ k = 49 ∨ k = 45)) → vI hz a k = vI h a k; intro a k n0; rw [g1 a k (by omega), gr23_0 a k (by omega)]), (by clear ih; show ∀ a j, 0 ≤ j → ¬ (a = v0 + 21 ∨ a = v0 + 26 ∨ a = v0 + 27 ∨ a = v0 + 29 ∨ a = v0 + 24 ∨ a = v0 + 25 ∨ a = v0 + 31 ∨ a = v0 + 20) → vA hz a j = vA h a j; intro a j j0 n0; rw [g2 a j j0 (by omega), gr23_2 a j]), (by clear ih; show ∀ j, 0 ≤ j → j ≠ vI h v0 42 → vA hz (v0 + 21) j = vA h (v0 + 21) j; intro j j0 n0; rw [g3 j j0 n0, gr23_2 (v0 + 21) j]), (by clear ih; show ∀ j, 0 ≤ j → (j < (260 * vI h v0 42 + vA h (v0 + 21) (vI h v0 42)) ∨ 260 * vI h v0 42 + 260 ≤ j) → vA hz (v0 + 26) j = vA h (v0 + 26) j ∧ vA hz (v0 + 27) j = vA h (v0 + 27) j; intro j j0 n0; exact ⟨(by rw [(g4 j j0 (zz_9637c0da44 o48 n0 o44 o50)).1, gr23_2 (v0 + 26) j]), (by rw [(g4 j j0 (zz_9637c0da44 o48 n0 o44 o50)).2, gr23_2 (v0 + 27) j])⟩), (by clear ih; show ∀ j, 0 ≤ j → j ≠ vI h v0 42 → vA hz (v0 + 20) j = vA h (v0 + 20) j; intro j j0 n0; rw [g5 j j0 n0, gr23_2 (v0 + 20) j]), (by clear ih; show ∀ j, 0 ≤ j → j ≠ v1 → vA hz (v0 + 23) j = vA h (v0 + 23) j ∧ vA hz (v0 + 24) j = vA h (v0 + 24) j ∧ vA hz (v0 + 25) j = vA h (v0 + 25) j; intro j j0 n0; exact ⟨(by rw [g2 (v0 + 23) j j0 (by omega), gr23_2 (v0 + 23) j]), (by rw [(g6 j j0 n0).2.1, gr23_2 (v0 + 24) j]), (by rw [(g6 j j0 n0).2.2, gr23_2 (v0 + 25) j])⟩), (zz_00b52b5978 o43 g7 o45), (zz_cf91319686 g8 o47 o51), (zz_c52fc66c1a g9), (by clear ih; show vI hz v0 48 = 0 → q_PM hz v0 v1 ∧ vA hz (v0 + 24) v1 = (260 * vI h v0 42 + vA hz (v0 + 21) (vI h v0 42)); exact g10), (zz_f8c4aeaa3c o47 g11), (zz_cdf7ac87ea g12 o48)⟩
            · skip
              refine qk_if (fun cc52 => ?_) (fun cc52 => ?_)
              · skip
                refine r_Mo_o T kv0 ?_
                refine c_Mod_behind (v0 := v0) T kv0 ?_
                intro yr16 gr16_0 gr16_1
                dsimp only
                refine qk_if (fun cc53 => ?_) (fun cc53 => ?_)
                · skip
                  refine r_Mo_3 T kv0 ?_
                  intro x18 ex18 lx18 ux18
                  subst ex18
                  refine r_Mo_o T kv0 ?_
                  refine c_Mod_wrong (v0 := v0) (v1 := (vI h v0 3)) T kv0 wM ?_
                  intro r20 Tr20 gr20_0 gr20_1 gr20_2
                  have o54 : vA r20 (v0 + 20) (vI h v0 42) = vA h (v0 + 20) (vI h v0 42) := (by rw [gr20_2 (v0 + 20) (vI h v0 42)])
                  have o55 := g_Mo_42 T kv0
                  have o56 := g_Mo_e20 T kv0 (vI h v0 42)
                  have o57 : vA r20 (v0 + 23) v1 = vA h (v0 + 23) v1 := (by rw [gr20_2 (v0 + 23) v1])
                  have o58 : vI r20 v0 41 = vI h v0 41 := (by rw [gr20_0 v0 41 (by omega)])
                  have o59 : vA r20 (v0 + 21) (vI h v0 42) = vA h (v0 + 21) (vI h v0 42) := (by rw [gr20_2 (v0 + 21) (vI h v0 42)])
                  refine qk_mono (ih (v0) (v1) r20 Tr20 kv0 wM q0 q1 (by show v1 = (130 * vI r20 v0 42 + vA r20 (v0 + 20) (vI r20 v0 42)); have qc1 : vI r20 v0 42 = (vI h v0 42) := (by rw [gr20_0 v0 42 (by omega)]); rw [qc1]; exact zz_1cd0b996d1 o54 qq o55 o56) (by show vA r20 (v0 + 20) (vI r20 v0 42) ≤ 128; have qc1 : vI r20 v0 42 = (vI h v0 42) := (by rw [gr20_0 v0 42 (by omega)]); rw [qc1]; exact zz_766354e410 o54 pb) (zz_72bcbc58f7 gr20_1) (by show vI r20 v0 48 = 0 → vA r20 (v0 + 21) (vI r20 v0 42) ≤ vI r20 v0 41; have qc1 : vI r20 v0 42 = (vI h v0 42) := (by rw [gr20_0 v0 42 (by omega)]); rw [qc1]; exact zz_72bcbc58f7 gr20_1) (by clear ih; intro bb; exact absurd bb (zz_f5f80cd091 gr20_1)) (zz_5a73c3e9c5 o57 ef) (zz_21417ab933 gr20_1) (zz_01413b5888 o58 ab) (by show vA r20 (v0 + 21) (vI r20 v0 42) ≤ 241; have qc1 : vI r20 v0 42 = (vI h v0 42) := (by rw [gr20_0 v0 42 (by omega)]); rw [qc1]; exact zz_4339c4c768 o59 ib) hN (zz_1c29ada950 hms hq1 gr10_3 gr20_1 cc1 cc52 hq2 hq3)) ?_
                  rintro ⟨y, hz⟩ ⟨Tz, g0, g1, g2, g3, g4, g5, g6, g7, g8, g9, g10, g11, g12⟩
                  try dsimp only at *
                  have qh42_g0 : vI r20 v0 42 = (vI h v0 42) := by rw [gr20_0 v0 42 (by omega)]
                  rw [qh42_g0] at g3
                  rw [qh42_g0] at g4
                  rw [qh42_g0] at g5
                  rw [qh42_g0] at g7
                  rw [qh42_g0] at g9
                  rw [qh42_g0] at g10
                  rw [qh42_g0] at g12
                  have o61 := g_Mo_e21 T kv0 (vI h v0 42)
                  have o62 : vI r20 v0 3 = vI h v0 3 := (by rw [gr20_0 v0 3 (by omega)])
                  exact ⟨Tz, g0, (by clear ih; show ∀ a k, ¬ (a = v0 ∧ (k = 5 ∨ k = 46 ∨ k = 48 ∨ k = 50 ∨ k = 41 ∨ k = 44 ∨ k = 49 ∨ k = 45)) → vI hz a k = vI h a k; intro a k n0; rw [g1 a k (by omega), gr20_0 a k (by omega)]), (by clear ih; show ∀ a j, 0 ≤ j → ¬ (a = v0 + 21 ∨ a = v0 + 26 ∨ a = v0 + 27 ∨ a = v0 + 29 ∨ a = v0 + 24 ∨ a = v0 + 25 ∨ a = v0 + 31 ∨ a = v0 + 20) → vA hz a j = vA h a j; intro a j j0 n0; rw [g2 a j j0 (by omega), gr20_2 a j]), (by clear ih; show ∀ j, 0 ≤ j → j ≠ vI h v0 42 → vA hz (v0 + 21) j = vA h (v0 + 21) j; intro j j0 n0; rw [g3 j j0 n0, gr20_2 (v0 + 21) j]), (by clear ih; show ∀ j, 0 ≤ j → (j < (260 * vI h v0 42 + vA h (v0 + 21) (vI h v0 42)) ∨ 260 * vI h v0 42 + 260 ≤ j) → vA hz (v0 + 26) j = vA h (v0 + 26) j ∧ vA hz (v0 + 27) j = vA h (v0 + 27) j; intro j j0 n0; exact ⟨(by rw [(g4 j j0 (zz_9637c0da44 o59 n0 o55 o61)).1, gr20_2 (v0 + 26) j]), (by rw [(g4 j j0 (zz_9637c0da44 o59 n0 o55 o61)).2, gr20_2 (v0 + 27) j])⟩), (by clear ih; show ∀ j, 0 ≤ j → j ≠ vI h v0 42 → vA hz (v0 + 20) j = vA h (v0 + 20) j; intro j j0 n0; rw [g5 j j0 n0, gr20_2 (v0 + 20) j]), (by clear ih; show ∀ j, 0 ≤ j → j ≠ v1 → vA hz (v0 + 23) j = vA h (v0 + 23) j ∧ vA hz (v0 + 24) j = vA h (v0 + 24) j ∧ vA hz (v0 + 25) j = vA h (v0 + 25) j; intro j j0 n0; exact ⟨(by rw [g2 (v0 + 23) j j0 (by omega), gr20_2 (v0 + 23) j]), (by rw [(g6 j j0 n0).2.1, gr20_2 (v0 + 24) j]), (by rw [(g6 j j0 n0).2.2, gr20_2 (v0 + 25) j])⟩), (zz_00b52b5978 o54 g7 o56), (zz_cf91319686 g8 o58 o62), (zz_c52fc66c1a g9), (by clear ih; show vI hz v0 48 = 0 → q_PM hz v0 v1 ∧ vA hz (v0 + 24) v1 = (260 * vI h v0 42 + vA hz (v0 + 21) (vI h v0 42)); exact g10), (zz_f8c4aeaa3c o58 g11), (zz_cdf7ac87ea g12 o59)⟩
                · skip
                  unfold f_Mod_readPattern_202
                  refine qk_if (fun cc64 => ?_) (fun cc64 => ?_)
                  · skip
                    refine r_Mo_o T kv0 ?_
                    refine c_Mod_behind (v0 := v0) T kv0 ?_
                    intro yr3i63 gr3i63_0 gr3i63_1
                    dsimp only
                    refine qk_if (fun cc65 => ?_) (fun cc65 => ?_)
                    · skip
                      refine r_Mo_36 T kv0 ?_
                      refine w_Mo_e31 T kv0 (wM _ (by omega) (by omega)) q0 q1 ?_
                      intro h6i63 Th6i63 ih6i63 ah6i63
                      refine r_Mo_41 Th6i63 kv0 ?_
                      intro x7i63 ex7i63 lx7i63 ux7i63
                      have sx7i63 : (vI h v0 41) = x7i63 := (ex7i63.trans (by rw [ih6i63 v0 41])).symm
                      subst sx7i63
                      have o66 := g_Mo_41 T kv0
                      refine w_Mo_41 Th6i63 kv0 (wM _ (by omega) (by omega)) (zz_5664edf06b o66) (zz_c81e5df24d ab o66) ?_
                      intro h8i63 Th8i63 ih8i63 ah8i63
                      have o67 : vA h8i63 (v0 + 20) (vI h v0 42) = vA h (v0 + 20) (vI h v0 42) := (by rw [ah8i63 (v0 + 20) (vI h v0 42), ah6i63 (v0 + 20) (vI h v0 42) (g_Mo_42 T kv0).1, if_neg (fun z => absurd z.1 (by omega))])
                      have o68 := g_Mo_42 T kv0
                      have o69 := g_Mo_e20 T kv0 (vI h v0 42)
                      have o70 : vI h8i63 v0 41 = (vI h v0 41) + 1 := (by rw [ih8i63 v0 41, if_pos ⟨rfl, rfl⟩])
                      have o71 : vI h8i63 v0 3 = vI h v0 3 := (by rw [ih8i63 v0 3, if_neg (fun z => absurd z.2 (by decide)), ih6i63 v0 3])
                      have o72 : vA h8i63 (v0 + 21) (vI h v0 42) = vA h (v0 + 21) (vI h v0 42) := (by rw [ah8i63 (v0 + 21) (vI h v0 42), ah6i63 (v0 + 21) (vI h v0 42) (g_Mo_42 T kv0).1, if_neg (fun z => absurd z.1 (by omega))])
                      have o73 : vA h8i63 (v0 + 23) v1 = vA h (v0 + 23) v1 := (by rw [ah8i63 (v0 + 23) v1, ah6i63 (v0 + 23) v1 q0, if_neg (fun z => absurd z.1 (by omega))])
                      have o74 := g_Mo_3 T kv0
                      refine qk_mono (ih (v0) (v1) h8i63 Th8i63 kv0 wM q0 q1 (by show v1 = (130 * vI h8i63 v0 42 + vA h8i63 (v0 + 20) (vI h8i63 v0 42)); have qc1 : vI h8i63 v0 42 = (vI h v0 42) := (by rw [ih8i63 v0 42, if_neg (fun z => absurd z.2 (by decide)), ih6i63 v0 42]); rw [qc1]; exact zz_1cd0b996d1 o67 qq o68 o69) (by show vA h8i63 (v0 + 20) (vI h8i63 v0 42) ≤ 128; have qc1 : vI h8i63 v0 42 = (vI h v0 42) := (by rw [ih8i63 v0 42, if_neg (fun z => absurd z.2 (by decide)), ih6i63 v0 42]); rw [qc1]; exact zz_766354e410 o67 pb) (zz_5373ca5f81 o70 o71 gr10_2 cc64 o66) (by show vI h8i63 v0 48 = 0 → vA h8i63 (v0 + 21) (vI h8i63 v0 42) ≤ vI h8i63 v0 41; have qc1 : vI h8i63 v0 42 = (vI h v0 42) := (by rw [ih8i63 v0 42, if_neg (fun z => absurd z.2 (by decide)), ih6i63 v0 42]); rw [qc1]; exact zz_b62e0579eb o72 o70 hi cc1 o66) (by clear ih; intro bb; exact q_JM_eq (J cc1) (fun j j0 j1 => ⟨by rw [ah8i63 (v0 + 26) j, ah6i63 (v0 + 26) j j0, if_neg (fun z => absurd z.1 (by omega))], by rw [ah8i63 (v0 + 27) j, ah6i63 (v0 + 27) j j0, if_neg (fun z => absurd z.1 (by omega))]⟩) rfl (by rw [ih8i63 v0 42, if_neg (fun z => absurd z.2 (by decide)), ih6i63 v0 42, ah8i63 (v0 + 21) (vI h v0 42), ah6i63 (v0 + 21) (vI h v0 42) (g_Mo_42 T kv0).1, if_neg (fun z => absurd z.1 (by omega))]) (by rw [ih8i63 v0 44, if_neg (fun z => absurd z.2 (by decide)), ih6i63 v0 44]) (by rw [ih8i63 v0 49, if_neg (fun z => absurd z.2 (by decide)), ih6i63 v0 49]) (Or.inl (by rw [ih8i63 v0 50, if_neg (fun z => absurd z.2 (by decide)), ih6i63 v0 50]))) (zz_5a73c3e9c5 o73 ef) (zz_be32a072eb o70 o71 gr3i63_1 cc65 o66) (zz_49fd61fcc2 o70 o74 gr10_2 cc64 o66) (by show vA h8i63 (v0 + 21) (vI h8i63 v0 42) ≤ 241; have qc1 : vI h8i63 v0 42 = (vI h v0 42) := (by rw [ih8i63 v0 42, if_neg (fun z => absurd z.2 (by decide)), ih6i63 v0 42]); rw [qc1]; exact zz_4339c4c768 o72 ib) hN (zz_395d806045 o70 ab hms hq1 cc1 hq2 hq3 o66)) ?_
                      rintro ⟨y, hz⟩ ⟨Tz, g0, g1, g2, g3, g4, g5, g6, g7, g8, g9, g10, g11, g12⟩
                      try dsimp only at *
                      have qh42_g0 : vI h8i63 v0 42 = (vI h v0 42) := by rw [ih8i63 v0 42, if_neg (fun z => absurd z.2 (by decide)), ih6i63 v0 42]
                      rw [qh42_g0] at g3
                      rw [qh42_g0] at g4
                      rw [qh42_g0] at g5
                      rw [qh42_g0] at g7
                      rw [qh42_g0] at g9
                      rw [qh42_g0] at g10
                      rw [qh42_g0] at g12
                      have o76 := g_Mo_e21 T kv0 (vI h v0 42)
                      exact ⟨Tz, g0, (by clear ih; show ∀ a k, ¬ (a = v0 ∧ (k = 5 ∨ k = 46 ∨ k = 48 ∨ k = 50 ∨ k = 41 ∨ k = 44 ∨ k = 49 ∨ k = 45)) → vI hz a k = vI h a k; intro a k n0; rw [g1 a k (by omega), ih8i63, if_neg (by omega), ih6i63]), (by clear ih; show ∀ a j, 0 ≤ j → ¬ (a = v0 + 21 ∨ a = v0 + 26 ∨ a = v0 + 27 ∨ a = v0 + 29 ∨ a = v0 + 24 ∨ a = v0 + 25 ∨ a = v0 + 31 ∨ a = v0 + 20) → vA hz a j = vA h a j; intro a j j0 n0; rw [g2 a j j0 (by omega), ah8i63, ah6i63 a j j0, if_neg (by omega)]), (by clear ih; show ∀ j, 0 ≤ j → j ≠ vI h v0 42 → vA hz (v0 + 21) j = vA h (v0 + 21) j; intro j j0 n0; rw [g3 j j0 n0, ah8i63 (v0 + 21) j, ah6i63 (v0 + 21) j j0, if_neg (fun z => absurd z.1 (by omega))]), (by clear ih; show ∀ j, 0 ≤ j → (j < (260 * vI h v0 42 + vA h (v0 + 21) (vI h v0 42)) ∨ 260 * vI h v0 42 + 260 ≤ j) → vA hz (v0 + 26) j = vA h (v0 + 26) j ∧ vA hz (v0 + 27) j = vA h (v0 + 27) j; intro j j0 n0; exact ⟨(by rw [(g4 j j0 (zz_9637c0da44 o72 n0 o68 o76)).1, ah8i63 (v0 + 26) j, ah6i63 (v0 + 26) j j0, if_neg (fun z => absurd z.1 (by omega))]), (by rw [(g4 j j0 (zz_9637c0da44 o72 n0 o68 o76)).2, ah8i63 (v0 + 27) j, ah6i63 (v0 + 27) j j0, if_neg (fun z => absurd z.1 (by omega))])⟩), (by clear ih; show ∀ j, 0 ≤ j → j ≠ vI h v0 42 → vA hz (v0 + 20) j = vA h (v0 + 20) j; intro j j0 n0; rw [g5 j j0 n0, ah8i63 (v0 + 20) j, ah6i63 (v0 + 20) j j0, if_neg (fun z => absurd z.1 (by omega))]), (by clear ih; show ∀ j, 0 ≤ j → j ≠ v1 → vA hz (v0 + 23) j = vA h (v0 + 23) j ∧ vA hz (v0 + 24) j = vA h (v0 + 24) j ∧ vA hz (v0 + 25) j = vA h (v0 + 25) j; intro j j0 n0; exact ⟨(by rw [g2 (v0 + 23) j j0 (by omega), ah8i63 (v0 + 23) j, ah6i63 (v0 + 23) j j0, if_neg (fun z => absurd z.1 (by omega))]), (by rw [(g6 j j0 n0).2.1, ah8i63 (v0 + 24) j, ah6i63 (v0 + 24) j j0, if_neg (fun z => absurd z.1 (by omega))]), (by rw [(g6 j j0 n0).2.2, ah8i63 (v0 + 25) j, ah6i63 (v0 + 25) j j0, if_neg (fun z => absurd z.1 (by omega))])⟩), (zz_00b52b5978 o67 g7 o69), (zz_a5143cc316 g8 o70 o71 o66), (zz_c52fc66c1a g9), (by clear ih; show vI hz v0 48 = 0 → q_PM hz v0 v1 ∧ vA hz (v0 + 24) v1 = (260 * vI h v0 42 + vA hz (v0 + 21) (vI h v0 42)); exact g10), (zz_b8fccb5cff o70 g11 o66), (zz_cdf7ac87ea g12 o72)⟩
                    · skip
                      unfold f_Mod_readPattern_237
                      refine qk_if (fun cc78 => ?_) (fun cc78 => ?_)
                      · skip
                        refine r_Mo_41 T kv0 ?_
                        intro x10i77 ex10i77 lx10i77 ux10i77
                        subst ex10i77
                        refine r_Mo_o T kv0 ?_
                        refine c_Mod_escaped (v0 := v0) (v1 := (vI h v0 41)) (f0 := f0) T kv0 wM cc1 (zz_04d0698cec cc64 cc78) (zz_a57acd4686 cc64 cc78) (by clear ih; exact J cc1) ?_
                        intro r12i77 Tr12i77 gr12i77_0 gr12i77_1 gr12i77_2 gr12i77_3 gr12i77_4 gr12i77_5 gr12i77_6 gr12i77_7 gr12i77_8
                        have o79 : vA r12i77 (v0 + 20) (vI h v0 42) = vA h (v0 + 20) (vI h v0 42) := (by rw [gr12i77_1 (v0 + 20) (vI h v0 42) (g_Mo_42 T kv0).1 (by omega)])
                        have o80 := g_Mo_42 T kv0
                        have o81 := g_Mo_e20 T kv0 (vI h v0 42)
                        have o82 : vI r12i77 v0 3 = vI h v0 3 := (by rw [gr12i77_0 v0 3 (by omega)])
                        have o83 : vA r12i77 (v0 + 23) v1 = vA h (v0 + 23) v1 := (by rw [gr12i77_1 (v0 + 23) v1 q0 (by omega)])
                        have o84 : vA r12i77 (v0 + 31) v1 = vA h (v0 + 31) v1 := (by rw [gr12i77_1 (v0 + 31) v1 q0 (by omega)])
                        refine qk_mono (ih (v0) (v1) r12i77 Tr12i77 kv0 wM q0 q1 (by show v1 = (130 * vI r12i77 v0 42 + vA r12i77 (v0 + 20) (vI r12i77 v0 42)); have qc1 : vI r12i77 v0 42 = (vI h v0 42) := (by rw [gr12i77_0 v0 42 (by omega)]); rw [qc1]; exact zz_1cd0b996d1 o79 qq o80 o81) (by show vA r12i77 (v0 + 20) (vI r12i77 v0 42) ≤ 128; have qc1 : vI r12i77 v0 42 = (vI h v0 42) := (by rw [gr12i77_0 v0 42 (by omega)]); rw [qc1]; exact zz_766354e410 o79 pb) (zz_3547589d98 o82 gr12i77_4) (by show vI r12i77 v0 48 = 0 → vA r12i77 (v0 + 21) (vI r12i77 v0 42) ≤ vI r12i77 v0 41; have qc1 : vI r12i77 v0 42 = (vI h v0 42) := (by rw [gr12i77_0 v0 42 (by omega)]); rw [qc1]; exact zz_c52fc66c1a gr12i77_5) (by clear ih; intro bb; exact q_JM_eq (gr12i77_6 bb) (fun j j0 j1 => ⟨by rfl, by rfl⟩) rfl rfl rfl rfl (Or.inl rfl)) (zz_5a73c3e9c5 o83 ef) (zz_de47fbffb3 o84 cc31) (zz_0da4948674 gr12i77_7) (by show vA r12i77 (v0 + 21) (vI r12i77 v0 42) ≤ 241; have qc1 : vI r12i77 v0 42 = (vI h v0 42) := (by rw [gr12i77_0 v0 42 (by omega)]); rw [qc1]; exact zz_b5e1c3f4ab gr12i77_8) hN (zz_cf9a56694f hms hq1 gr12i77_4 ab cc1 hq2 hq3)) ?_
                        rintro ⟨y, hz⟩ ⟨Tz, g0, g1, g2, g3, g4, g5, g6, g7, g8, g9, g10, g11, g12⟩
                        try dsimp only at *
                        have qh42_g0 : vI r12i77 v0 42 = (vI h v0 42) := by rw [gr12i77_0 v0 42 (by omega)]
                        rw [qh42_g0] at g3
                        rw [qh42_g0] at g4
                        rw [qh42_g0] at g5
                        rw [qh42_g0] at g7
                        rw [qh42_g0] at g9
                        rw [qh42_g0] at g10
                        rw [qh42_g0] at g12
                        have o86 := g_Mo_e21 T kv0 (vI h v0 42)
                        have o87 := g_Mo_e21 Tr12i77 kv0 (vI h v0 42)
                        exact ⟨Tz, g0, (by clear ih; show ∀ a k, ¬ (a = v0 ∧ (k = 5 ∨ k = 46 ∨ k = 48 ∨ k = 50 ∨ k = 41 ∨ k = 44 ∨ k = 49 ∨ k = 45)) → vI hz a k = vI h a k; intro a k n0; rw [g1 a k (by omega), gr12i77_0 a k (by omega)]), (by clear ih; show ∀ a j, 0 ≤ j → ¬ (a = v0 + 21 ∨ a = v0 + 26 ∨ a = v0 + 27 ∨ a = v0 + 29 ∨ a = v0 + 24 ∨ a = v0 + 25 ∨ a = v0 + 31 ∨ a = v0 + 20) → vA hz a j = vA h a j; intro a j j0 n0; rw [g2 a j j0 (by omega), gr12i77_1 a j j0 (by omega)]), (by clear ih; show ∀ j, 0 ≤ j → j ≠ vI h v0 42 → vA hz (v0 + 21) j = vA h (v0 + 21) j; intro j j0 n0; rw [g3 j j0 n0, gr12i77_2 j j0 n0]), (by clear ih; show ∀ j, 0 ≤ j → (j < (260 * vI h v0 42 + vA h (v0 + 21) (vI h v0 42)) ∨ 260 * vI h v0 42 + 260 ≤ j) → vA hz (v0 + 26) j = vA h (v0 + 26) j ∧ vA hz (v0 + 27) j = vA h (v0 + 27) j; intro j j0 n0; exact ⟨(by rw [(g4 j j0 (zz_0e57fb70c4 gr12i77_8 n0 o80 o86 o87)).1, (gr12i77_3 j j0 (zz_f468153ada n0 o80 o86)).1]), (by rw [(g4 j j0 (zz_0e57fb70c4 gr12i77_8 n0 o80 o86 o87)).2, (gr12i77_3 j j0 (zz_f468153ada n0 o80 o86)).2])⟩), (by clear ih; show ∀ j, 0 ≤ j → j ≠ vI h v0 42 → vA hz (v0 + 20) j = vA h (v0 + 20) j; intro j j0 n0; rw [g5 j j0 n0, gr12i77_1 (v0 + 20) j j0 (by omega)]), (by clear ih; show ∀ j, 0 ≤ j → j ≠ v1 → vA hz (v0 + 23) j = vA h (v0 + 23) j ∧ vA hz (v0 + 24) j = vA h (v0 + 24) j ∧ vA hz (v0 + 25) j = vA h (v0 + 25) j; intro j j0 n0; exact ⟨(by rw [g2 (v0 + 23) j j0 (by omega), gr12i77_1 (v0 + 23) j j0 (by omega)]), (by rw [(g6 j j0 n0).2.1, gr12i77_1 (v0 + 24) j j0 (by omega)]), (by rw [(g6 j j0 n0).2.2, gr12i77_1 (v0 + 25) j j0 (by omega)])⟩), (zz_00b52b5978 o79 g7 o81), (zz_e051a1c329 gr12i77_7 g8 o82), (zz_c52fc66c1a g9), (by clear ih; show vI hz v0 48 = 0 → q_PM hz v0 v1 ∧ vA hz (v0 + 24) v1 = (260 * vI h v0 42 + vA hz (v0 + 21) (vI h v0 42)); exact g10), (zz_285027bacb gr12i77_7 g11), (zz_72aebe666a gr12i77_8 g12)⟩
                      · skip
                        refine qk_if (fun cc88 => ?_) (fun cc88 => ?_)
                        · skip
                          refine r_Mo_41 T kv0 ?_
                          intro x7i77 ex7i77 lx7i77 ux7i77
                          subst ex7i77
                          refine r_Mo_o T kv0 ?_
                          refine c_Mod_set (v0 := v0) (v1 := (vI h v0 41)) (f0 := f0) T kv0 wM cc1 (zz_af9a98756d cc64 cc88) (zz_64e4564fcd cc64 cc88) (by clear ih; exact J cc1) hN ?_
                          intro r9i77 Tr9i77 gr9i77_0 gr9i77_1 gr9i77_2 gr9i77_3 gr9i77_4 gr9i77_5 gr9i77_6 gr9i77_7 gr9i77_8
                          have o89 : vA r9i77 (v0 + 20) (vI h v0 42) = vA h (v0 + 20) (vI h v0 42) := (by rw [gr9i77_1 (v0 + 20) (vI h v0 42) (g_Mo_42 T kv0).1 (by omega)])
                          have o90 := g_Mo_42 T kv0
                          have o91 := g_Mo_e20 T kv0 (vI h v0 42)
                          have o92 : vI r9i77 v0 3 = vI h v0 3 := (by rw [gr9i77_0 v0 3 (by omega)])
                          have o93 : vA r9i77 (v0 + 23) v1 = vA h (v0 + 23) v1 := (by rw [gr9i77_1 (v0 + 23) v1 q0 (by omega)])
                          have o94 : vA r9i77 (v0 + 31) v1 = vA h (v0 + 31) v1 := (by rw [gr9i77_1 (v0 + 31) v1 q0 (by omega)])
                          refine qk_mono (ih (v0) (v1) r9i77 Tr9i77 kv0 wM q0 q1 (by show v1 = (130 * vI r9i77 v0 42 + vA r9i77 (v0 + 20) (vI r9i77 v0 42)); have qc1 : vI r9i77 v0 42 = (vI h v0 42) := (by rw [gr9i77_0 v0 42 (by omega)]); rw [qc1]; exact zz_1cd0b996d1 o89 qq o90 o91) (by show vA r9i77 (v0 + 20) (vI r9i77 v0 42) ≤ 128; have qc1 : vI r9i77 v0 42 = (vI h v0 42) := (by rw [gr9i77_0 v0 42 (by omega)]); rw [qc1]; exact zz_766354e410 o89 pb) (zz_3547589d98 o92 gr9i77_4) (by show vI r9i77 v0 48 = 0 → vA r9i77 (v0 + 21) (vI r9i77 v0 42) ≤ vI r9i77 v0 41; have qc1 : vI r9i77 v0 42 = (vI h v0 42) := (by rw [gr9i77_0 v0 42 (by omega)]); rw [qc1]; exact zz_c52fc66c1a gr9i77_5) (by clear ih; intro bb; exact q_JM_eq (gr9i77_6 bb) (fun j j0 j1 => ⟨by rfl, by rfl⟩) rfl rfl rfl rfl (Or.inl rfl)) (zz_5a73c3e9c5 o93 ef) (zz_de47fbffb3 o94 cc31) (zz_0da4948674 gr9i77_7) (by show vA r9i77 (v0 + 21) (vI r9i77 v0 42) ≤ 241; have qc1 : vI r9i77 v0 42 = (vI h v0 42) := (by rw [gr9i77_0 v0 42 (by omega)]); rw [qc1]; exact zz_b5e1c3f4ab gr9i77_8) hN (zz_cf9a56694f hms hq1 gr9i77_4 ab cc1 hq2 hq3)) ?_
                          rintro ⟨y, hz⟩ ⟨Tz, g0, g1, g2, g3, g4, g5, g6, g7, g8, g9, g10, g11, g12⟩
                          try dsimp only at *
                          have qh42_g0 : vI r9i77 v0 42 = (vI h v0 42) := by rw [gr9i77_0 v0 42 (by omega)]
                          rw [qh42_g0] at g3
                          rw [qh42_g0] at g4
                          rw [qh42_g0] at g5
                          rw [qh42_g0] at g7
                          rw [qh42_g0] at g9
                          rw [qh42_g0] at g10
                          rw [qh42_g0] at g12
                          have o96 := g_Mo_e21 T kv0 (vI h v0 42)
                          have o97 := g_Mo_e21 Tr9i77 kv0 (vI h v0 42)
                          exact ⟨Tz, g0, (by clear ih; show ∀ a k, ¬ (a = v0 ∧ (k = 5 ∨ k = 46 ∨ k = 48 ∨ k = 50 ∨ k = 41 ∨ k = 44 ∨ k = 49 ∨ k = 45)) → vI hz a k = vI h a k; intro a k n0; rw [g1 a k (by omega), gr9i77_0 a k (by omega)]), (by clear ih; show ∀ a j, 0 ≤ j → ¬ (a = v0 + 21 ∨ a = v0 + 26 ∨ a = v0 + 27 ∨ a = v0 + 29 ∨ a = v0 + 24 ∨ a = v0 + 25 ∨ a = v0 + 31 ∨ a = v0 + 20) → vA hz a j = vA h a j; intro a j j0 n0; rw [g2 a j j0 (by omega), gr9i77_1 a j j0 (by omega)]), (by clear ih; show ∀ j, 0 ≤ j → j ≠ vI h v0 42 → vA hz (v0 + 21) j = vA h (v0 + 21) j; intro j j0 n0; rw [g3 j j0 n0, gr9i77_2 j j0 n0]), (by clear ih; show ∀ j, 0 ≤ j → (j < (260 * vI h v0 42 + vA h (v0 + 21) (vI h v0 42)) ∨ 260 * vI h v0 42 + 260 ≤ j) → vA hz (v0 + 26) j = vA h (v0 + 26) j ∧ vA hz (v0 + 27) j = vA h (v0 + 27) j; intro j j0 n0; exact ⟨(by rw [(g4 j j0 (zz_0e57fb70c4 gr9i77_8 n0 o90 o96 o97)).1, (gr9i77_3 j j0 (zz_f468153ada n0 o90 o96)).1]), (by rw [(g4 j j0 (zz_0e57fb70c4 gr9i77_8 n0 o90 o96 o97)).2, (gr9i77_3 j j0 (zz_f468153ada n0 o90 o96)).2])⟩), (by clear ih; show ∀ j, 0 ≤ j → j ≠ vI h v0 42 → vA hz (v0 + 20) j = vA h (v0 + 20) j; intro j j0 n0; rw [g5 j j0 n0, gr9i77_1 (v0 + 20) j j0 (by omega)]), (by clear ih; show ∀ j, 0 ≤ j → j ≠ v1 → vA hz (v0 + 23) j = vA h (v0 + 23) j ∧ vA hz (v0 + 24) j = vA h (v0 + 24) j ∧ vA hz (v0 + 25) j = vA h (v0 + 25) j; intro j j0 n0; exact ⟨(by rw [g2 (v0 + 23) j j0 (by omega), gr9i77_1 (v0 + 23) j j0 (by omega)]), (by rw [(g6 j j0 n0).2.1, gr9i77_1 (v0 + 24) j j0 (by omega)]), (by rw [(g6 j j0 n0).2.2, gr9i77_1 (v0 + 25) j j0 (by omega)])⟩), (zz_00b52b5978 o89 g7 o91), (zz_e051a1c329 gr9i77_7 g8 o92), (zz_c52fc66c1a g9), (by clear ih; show vI hz v0 48 = 0 → q_PM hz v0 v1 ∧ vA hz (v0 + 24) v1 = (260 * vI h v0 42 + vA hz (v0 + 21) (vI h v0 42)); exact g10), (zz_285027bacb gr9i77_7 g11), (zz_72aebe666a gr9i77_8 g12)⟩
                        · skip
                          refine qk_if (fun cc98 => ?_) (fun cc98 => ?_)
                          · skip
                            refine r_Mo_o T kv0 ?_
                            refine c_Mod_star (v0 := v0) (f0 := f0) T kv0 wM cc1 (zz_ed98345f9a cc64 cc98) (zz_1364e13ed5 cc64 cc98) (by clear ih; exact J cc1) ?_
                            intro r6i77 Tr6i77 gr6i77_0 gr6i77_1 gr6i77_2 gr6i77_3 gr6i77_4 gr6i77_5 gr6i77_6 gr6i77_7 gr6i77_8
                            have o99 : vA r6i77 (v0 + 20) (vI h v0 42) = vA h (v0 + 20) (vI h v0 42) := (by rw [gr6i77_1 (v0 + 20) (vI h v0 42) (g_Mo_42 T kv0).1 (by omega)])
                            have o100 := g_Mo_42 T kv0
                            have o101 := g_Mo_e20 T kv0 (vI h v0 42)
                            have o102 : vI r6i77 v0 3 = vI h v0 3 := (by rw [gr6i77_0 v0 3 (by omega)])
                            have o103 : vA r6i77 (v0 + 23) v1 = vA h (v0 + 23) v1 := (by rw [gr6i77_1 (v0 + 23) v1 q0 (by omega)])
                            have o104 : vA r6i77 (v0 + 31) v1 = vA h (v0 + 31) v1 := (by rw [gr6i77_1 (v0 + 31) v1 q0 (by omega)])
                            refine qk_mono (ih (v0) (v1) r6i77 Tr6i77 kv0 wM q0 q1 (by show v1 = (130 * vI r6i77 v0 42 + vA r6i77 (v0 + 20) (vI r6i77 v0 42)); have qc1 : vI r6i77 v0 42 = (vI h v0 42) := (by rw [gr6i77_0 v0 42 (by omega)]); rw [qc1]; exact zz_1cd0b996d1 o99 qq o100 o101) (by show vA r6i77 (v0 + 20) (vI r6i77 v0 42) ≤ 128; have qc1 : vI r6i77 v0 42 = (vI h v0 42) := (by rw [gr6i77_0 v0 42 (by omega)]); rw [qc1]; exact zz_766354e410 o99 pb) (zz_3547589d98 o102 gr6i77_4) (by show vI r6i77 v0 48 = 0 → vA r6i77 (v0 + 21) (vI r6i77 v0 42) ≤ vI r6i77 v0 41; have qc1 : vI r6i77 v0 42 = (vI h v0 42) := (by rw [gr6i77_0 v0 42 (by omega)]); rw [qc1]; exact zz_c52fc66c1a gr6i77_5) (by clear ih; intro bb; exact q_JM_eq (gr6i77_6 bb) (fun j j0 j1 => ⟨by rfl, by rfl⟩) rfl rfl rfl rfl (Or.inl rfl)) (zz_5a73c3e9c5 o103 ef) (zz_de47fbffb3 o104 cc31) (zz_0da4948674 gr6i77_7) (by show vA r6i77 (v0 + 21) (vI r6i77 v0 42) ≤ 241; have qc1 : vI r6i77 v0 42 = (vI h v0 42) := (by rw [gr6i77_0 v0 42 (by omega)]); rw [qc1]; exact zz_b5e1c3f4ab gr6i77_8) hN (zz_cf9a56694f hms hq1 gr6i77_4 ab cc1 hq2 hq3)) ?_
                            rintro ⟨y, hz⟩ ⟨Tz, g0, g1, g2, g3, g4, g5, g6, g7, g8, g9, g10, g11, g12⟩
                            try dsimp only at *
                            have qh42_g0 : vI r6i77 v0 42 = (vI h v0 42) := by rw [gr6i77_0 v0 42 (by omega)]
                            rw [qh42_g0] at g3
                            rw [qh42_g0] at g4
                            rw [qh42_g0] at g5
                            rw [qh42_g0] at g7
                            rw [qh42_g0] at g9
                            rw [qh42_g0] at g10
                            rw [qh42_g0] at g12
                            have o106 := g_Mo_e21 T kv0 (vI h v0 42)
                            have o107 := g_Mo_e21 Tr6i77 kv0 (vI h v0 42)
                            exact ⟨Tz, g0, (by clear ih; show ∀ a k, ¬ (a = v0 ∧ (k = 5 ∨ k = 46 ∨ k = 48 ∨ k = 50 ∨ k = 41 ∨ k = 44 ∨ k = 49 ∨ k = 45)) → vI hz a k = vI h a k; intro a k n0; rw [g1 a k (by omega), gr6i77_0 a k (by omega)]), (by clear ih; show ∀ a j, 0 ≤ j → ¬ (a = v0 + 21 ∨ a = v0 + 26 ∨ a = v0 + 27 ∨ a = v0 + 29 ∨ a = v0 + 24 ∨ a = v0 + 25 ∨ a = v0 + 31 ∨ a = v0 + 20) → vA hz a j = vA h a j; intro a j j0 n0; rw [g2 a j j0 (by omega), gr6i77_1 a j j0 (by omega)]), (by clear ih; show ∀ j, 0 ≤ j → j ≠ vI h v0 42 → vA hz (v0 + 21) j = vA h (v0 + 21) j; intro j j0 n0; rw [g3 j j0 n0, gr6i77_2 j j0 n0]), (by clear ih; show ∀ j, 0 ≤ j → (j < (260 * vI h v0 42 + vA h (v0 + 21) (vI h v0 42)) ∨ 260 * vI h v0 42 + 260 ≤ j) → vA hz (v0 + 26) j = vA h (v0 + 26) j ∧ vA hz (v0 + 27) j = vA h (v0 + 27) j; intro j j0 n0; exact ⟨(by rw [(g4 j j0 (zz_0e57fb70c4 gr6i77_8 n0 o100 o106 o107)).1, (gr6i77_3 j j0 (zz_f468153ada n0 o100 o106)).1]), (by rw [(g4 j j0 (zz_0e57fb70c4 gr6i77_8 n0 o100 o106 o107)).2, (gr6i77_3 j j0 (zz_f468153ada n0 o100 o106)).2])⟩), (by clear ih; show ∀ j, 0 ≤ j → j ≠ vI h v0 42 → vA hz (v0 + 20) j = vA h (v0 + 20) j; intro j j0 n0; rw [g5 j j0 n0, gr6i77_1 (v0 + 20) j j0 (by omega)]), (by clear ih; show ∀ j, 0 ≤ j → j ≠ v1 → vA hz (v0 + 23) j = vA h (v0 + 23) j ∧ vA hz (v0 + 24) j = vA h (v0 + 24) j ∧ vA hz (v0 + 25) j = vA h (v0 + 25) j; intro j j0 n0; exact ⟨(by rw [g2 (v0 + 23) j j0 (by omega), gr6i77_1 (v0 + 23) j j0 (by omega)]), (by rw [(g6 j j0 n0).2.1, gr6i77_1 (v0 + 24) j j0 (by omega)]), (by rw [(g6 j j0 n0).2.2, gr6i77_1 (v0 + 25) j j0 (by omega)])⟩), (zz_00b52b5978 o99 g7 o101), (zz_e051a1c329 gr6i77_7 g8 o102), (zz_c52fc66c1a g9), (by clear ih; show vI hz v0 48 = 0 → q_PM hz v0 v1 ∧ vA hz (v0 + 24) v1 = (260 * vI h v0 42 + vA hz (v0 + 21) (vI h v0 42)); exact g10), (zz_285027bacb gr6i77_7 g11), (zz_72aebe666a gr6i77_8 g12)⟩
                          · skip
                            refine qk_if (fun cc108 => ?_) (fun cc108 => ?_)
                            · skip
                              unfold f_Mod_readPattern_296
                              refine r_Mo_41 T kv0 ?_
                              intro x1i109 ex1i109 lx1i109 ux1i109
                              subst ex1i109
                              refine r_Mo_o T kv0 ?_
                              refine c_Mod_addItem (v0 := v0) (v1 := 1) (v2 := (yr10)) (v3 := (vI h v0 41)) T kv0 wM cc1 (by decide) (by decide) (zz_633d7db2af ib) ?_
                              intro r3i109 Tr3i109 gr3i109_0 gr3i109_1 gr3i109_2 gr3i109_3 gr3i109_4 gr3i109_5
                              refine r_Mo_41 Tr3i109 kv0 ?_
                              intro x4i109 ex4i109 lx4i109 ux4i109
                              have sx4i109 : (vI h v0 41) = x4i109 := (ex4i109.trans (by rw [gr3i109_0 v0 41 (by omega)])).symm
                              subst sx4i109
                              have o110 := g_Mo_41 T kv0
                              refine w_Mo_41 Tr3i109 kv0 (wM _ (by omega) (by omega)) (zz_5664edf06b o110) (zz_c81e5df24d ab o110) ?_
                              intro h5i109 Th5i109 ih5i109 ah5i109
                              have o111 : vA h5i109 (v0 + 20) (vI h v0 42) = vA h (v0 + 20) (vI h v0 42) := (by rw [ah5i109 (v0 + 20) (vI h v0 42), gr3i109_1 (v0 + 20) (vI h v0 42) (g_Mo_42 T kv0).1 (by omega)])
                              have o112 := g_Mo_42 T kv0
                              have o113 := g_Mo_e20 T kv0 (vI h v0 42)
                              have o115 : vA h5i109 (v0 + 23) v1 = vA h (v0 + 23) v1 := (by rw [ah5i109 (v0 + 23) v1, gr3i109_1 (v0 + 23) v1 q0 (by omega)])
                              have o116 : vA h5i109 (v0 + 31) v1 = vA h (v0 + 31) v1 := (by rw [ah5i109 (v0 + 31) v1, gr3i109_1 (v0 + 31) v1 q0 (by omega)])
                              refine qk_mono (ih (v0) (v1) h5i109 Th5i109 kv0 wM q0 q1 (by show v1 = (130 * vI h5i109 v0 42 + vA h5i109 (v0 + 20) (vI h5i109 v0 42)); have qc1 : vI h5i109 v0 42 = (vI h v0 42) := (by rw [ih5i109 v0 42, if_neg (fun z => absurd z.2 (by decide)), gr3i109_0 v0 42 (by omega)]); rw [qc1]; exact zz_1cd0b996d1 o111 qq o112 o113) (by show vA h5i109 (v0 + 20) (vI h5i109 v0 42) ≤ 128; have qc1 : vI h5i109 v0 42 = (vI h v0 42) := (by rw [ih5i109 v0 42, if_neg (fun z => absurd z.2 (by decide)), gr3i109_0 v0 42 (by omega)]); rw [qc1]; exact zz_766354e410 o111 pb) (zz_e18ceb2b2e cc64 cc108) (by show vI h5i109 v0 48 = 0 → vA h5i109 (v0 + 21) (vI h5i109 v0 42) ≤ vI h5i109 v0 41; have qc1 : vI h5i109 v0 42 = (vI h v0 42) := (by rw [ih5i109 v0 42, if_neg (fun z => absurd z.2 (by decide)), gr3i109_0 v0 42 (by omega)]); rw [qc1]; exact zz_e18ceb2b2e cc64 cc108) (by clear ih; intro bb; have rg_half := g_Mo_42 T kv0; have re_items := g_Mo_e21 T kv0 (vI h v0 42); have z4 := gr3i109_4 (by show vI r3i109 v0 48 = 0; have o114 : vI h5i109 v0 48 = vI r3i109 v0 48 := (by rw [ih5i109 v0 48, if_neg (fun z => absurd z.2 (by decide))]); exact zz_24965f4b2c bb o114); exact q_JM_it (k := 1) (x := (yr10)) (J cc1) rg_half.1 rg_half.2 re_items.1 (zz_11d26c57a8 ib) (by rw [ih5i109 v0 42, if_neg (fun z => absurd z.2 (by decide)), gr3i109_0 v0 42 (by omega)]) (fun j j0 jn => ⟨by rw [ah5i109 (v0 + 26) j]; exact (gr3i109_3 j j0 jn).1, by rw [ah5i109 (v0 + 27) j]; exact (gr3i109_3 j j0 jn).2⟩) (by rw [ah5i109 (v0 + 26) (260 * vI h v0 42 + vA h (v0 + 21) (vI h v0 42))]; exact z4.1) (by rw [ah5i109 (v0 + 27) (260 * vI h v0 42 + vA h (v0 + 21) (vI h v0 42))]; exact z4.2.1) (by rw [ah5i109 (v0 + 21) (vI h v0 42)]; exact z4.2.2) (Or.inl ⟨by decide, (by rw [ih5i109 v0 44, if_neg (fun z => absurd z.2 (by decide)), gr3i109_0 v0 44 (by omega)]), (by rw [ih5i109 v0 49, if_neg (fun z => absurd z.2 (by decide)), gr3i109_0 v0 49 (by omega)])⟩)) (zz_5a73c3e9c5 o115 ef) (zz_de47fbffb3 o116 cc31) (zz_892db05e96 cc64 cc108) (by show vA h5i109 (v0 + 21) (vI h5i109 v0 42) ≤ 241; have qc1 : vI h5i109 v0 42 = (vI h v0 42) := (by rw [ih5i109 v0 42, if_neg (fun z => absurd z.2 (by decide)), gr3i109_0 v0 42 (by omega)]); rw [qc1]; exact zz_78aac04ab4 cc64 cc108) hN (zz_3b1ba46fbc cc64 cc108)) ?_
                              rintro ⟨y, hz⟩ ⟨Tz, g0, g1, g2, g3, g4, g5, g6, g7, g8, g9, g10, g11, g12⟩
                              try dsimp only at *
                              have qh42_g0 : vI h5i109 v0 42 = (vI h v0 42) := by rw [ih5i109 v0 42, if_neg (fun z => absurd z.2 (by decide)), gr3i109_0 v0 42 (by omega)]
                              rw [qh42_g0] at g3
                              rw [qh42_g0] at g4
                              rw [qh42_g0] at g5
                              rw [qh42_g0] at g7
                              rw [qh42_g0] at g9
                              rw [qh42_g0] at g10
                              rw [qh42_g0] at g12
                              have o119 := g_Mo_e21 T kv0 (vI h v0 42)
                              have o120 := g_Mo_e21 Tr3i109 kv0 (vI h v0 42)
                              have o122 : vI h5i109 v0 41 = (vI h v0 41) + 1 := (by rw [ih5i109 v0 41, if_pos ⟨rfl, rfl⟩])
                              have o123 : vI h5i109 v0 3 = vI h v0 3 := (by rw [ih5i109 v0 3, if_neg (fun z => absurd z.2 (by decide)), gr3i109_0 v0 3 (by omega)])
                              have o124 : vA h5i109 (v0 + 21) (vI h v0 42) = vA r3i109 (v0 + 21) (vI h v0 42) := (by rw [ah5i109 (v0 + 21) (vI h v0 42)])
                              exact ⟨Tz, g0, (by clear ih; show ∀ a k, ¬ (a = v0 ∧ (k = 5 ∨ k = 46 ∨ k = 48 ∨ k = 50 ∨ k = 41 ∨ k = 44 ∨ k = 49 ∨ k = 45)) → vI hz a k = vI h a k; intro a k n0; rw [g1 a k (by omega), ih5i109, if_neg (by omega), gr3i109_0 a k (by omega)]), (by clear ih; show ∀ a j, 0 ≤ j → ¬ (a = v0 + 21 ∨ a = v0 + 26 ∨ a = v0 + 27 ∨ a = v0 + 29 ∨ a = v0 + 24 ∨ a = v0 + 25 ∨ a = v0 + 31 ∨ a = v0 + 20) → vA hz a j = vA h a j; intro a j j0 n0; rw [g2 a j j0 (by omega), ah5i109, gr3i109_1 a j j0 (by omega)]), (by clear ih; show ∀ j, 0 ≤ j → j ≠ vI h v0 42 → vA hz (v0 + 21) j = vA h (v0 + 21) j; intro j j0 n0; rw [g3 j j0 n0, ah5i109 (v0 + 21) j, gr3i109_2 j j0 n0]), (by clear ih; show ∀ j, 0 ≤ j → (j < (260 * vI h v0 42 + vA h (v0 + 21) (vI h v0 42)) ∨ 260 * vI h v0 42 + 260 ≤ j) → vA hz (v0 + 26) j = vA h (v0 + 26) j ∧ vA hz (v0 + 27) j = vA h (v0 + 27) j; intro j j0 n0; exact ⟨(by rw [(g4 j j0 (by show (j < (260 * (vI h v0 42) + vA h5i109 (v0 + 21) (vI h v0 42)) ∨ 260 * (vI h v0 42) + 260 ≤ j); have o118 : vA h5i109 (v0 + 21) (vI h v0 42) = vA r3i109 (v0 + 21) (vI h v0 42) := (by rw [ah5i109 (v0 + 21) (vI h v0 42)]); exact zz_260df0df9b o118 gr3i109_4 gr3i109_5 n0 o112 o119 o120)).1, ah5i109 (v0 + 26) j, (gr3i109_3 j j0 (zz_ebfb0d8f28 ib n0 o112 o119)).1]), (by rw [(g4 j j0 (by show (j < (260 * (vI h v0 42) + vA h5i109 (v0 + 21) (vI h v0 42)) ∨ 260 * (vI h v0 42) + 260 ≤ j); have o121 : vA h5i109 (v0 + 21) (vI h v0 42) = vA r3i109 (v0 + 21) (vI h v0 42) := (by rw [ah5i109 (v0 + 21) (vI h v0 42)]); exact zz_260df0df9b o121 gr3i109_4 gr3i109_5 n0 o112 o119 o120)).2, ah5i109 (v0 + 27) j, (gr3i109_3 j j0 (zz_ebfb0d8f28 ib n0 o112 o119)).2])⟩), (by clear ih; show ∀ j, 0 ≤ j → j ≠ vI h v0 42 → vA hz (v0 + 20) j = vA h (v0 + 20) j; intro j j0 n0; rw [g5 j j0 n0, ah5i109 (v0 + 20) j, gr3i109_1 (v0 + 20) j j0 (by omega)]), (by clear ih; show ∀ j, 0 ≤ j → j ≠ v1 → vA hz (v0 + 23) j = vA h (v0 + 23) j ∧ vA hz (v0 + 24) j = vA h (v0 + 24) j ∧ vA hz (v0 + 25) j = vA h (v0 + 25) j; intro j j0 n0; exact ⟨(by rw [g2 (v0 + 23) j j0 (by omega), ah5i109 (v0 + 23) j, gr3i109_1 (v0 + 23) j j0 (by omega)]), (by rw [(g6 j j0 n0).2.1, ah5i109 (v0 + 24) j, gr3i109_1 (v0 + 24) j j0 (by omega)]), (by rw [(g6 j j0 n0).2.2, ah5i109 (v0 + 25) j, gr3i109_1 (v0 + 25) j j0 (by omega)])⟩), (zz_00b52b5978 o111 g7 o113), (zz_a5143cc316 g8 o122 o123 o110), (zz_c52fc66c1a g9), (by clear ih; show vI hz v0 48 = 0 → q_PM hz v0 v1 ∧ vA hz (v0 + 24) v1 = (260 * vI h v0 42 + vA hz (v0 + 21) (vI h v0 42)); exact g10), (zz_b8fccb5cff o122 g11 o110), (zz_1ef23b8398 gr3i109_4 gr3i109_5 g12 o124 o119)⟩
                            · skip
                              unfold f_Mod_readPattern_296
                              refine r_Mo_41 T kv0 ?_
                              intro x1i125 ex1i125 lx1i125 ux1i125
                              subst ex1i125
                              refine r_Mo_o T kv0 ?_
                              refine c_Mod_addItem (v0 := v0) (v1 := 0) (v2 := (yr10)) (v3 := (vI h v0 41)) T kv0 wM cc1 (by decide) (by decide) (zz_633d7db2af ib) ?_
                              intro r3i125 Tr3i125 gr3i125_0 gr3i125_1 gr3i125_2 gr3i125_3 gr3i125_4 gr3i125_5
                              refine r_Mo_41 Tr3i125 kv0 ?_
                              intro x4i125 ex4i125 lx4i125 ux4i125
                              have sx4i125 : (vI h v0 41) = x4i125 := (ex4i125.trans (by rw [gr3i125_0 v0 41 (by omega)])).symm
                              subst sx4i125
                              have o126 := g_Mo_41 T kv0
                              refine w_Mo_41 Tr3i125 kv0 (wM _ (by omega) (by omega)) (zz_5664edf06b o126) (zz_c81e5df24d ab o126) ?_
                              intro h5i125 Th5i125 ih5i125 ah5i125
                              have o127 : vA h5i125 (v0 + 20) (vI h v0 42) = vA h (v0 + 20) (vI h v0 42) := (by rw [ah5i125 (v0 + 20) (vI h v0 42), gr3i125_1 (v0 + 20) (vI h v0 42) (g_Mo_42 T kv0).1 (by omega)])
                              have o128 := g_Mo_42 T kv0
                              have o129 := g_Mo_e20 T kv0 (vI h v0 42)
                              have o130 : vI h5i125 v0 41 = (vI h v0 41) + 1 := (by rw [ih5i125 v0 41, if_pos ⟨rfl, rfl⟩])
                              have o131 : vI h5i125 v0 3 = vI h v0 3 := (by rw [ih5i125 v0 3, if_neg (fun z => absurd z.2 (by decide)), gr3i125_0 v0 3 (by omega)])
                              have o132 : vA h5i125 (v0 + 21) (vI h v0 42) = vA r3i125 (v0 + 21) (vI h v0 42) := (by rw [ah5i125 (v0 + 21) (vI h v0 42)])
                              have o133 := g_Mo_e21 T kv0 (vI h v0 42)
                              have o135 : vA h5i125 (v0 + 23) v1 = vA h (v0 + 23) v1 := (by rw [ah5i125 (v0 + 23) v1, gr3i125_1 (v0 + 23) v1 q0 (by omega)])
                              have o136 : vA h5i125 (v0 + 31) v1 = vA h (v0 + 31) v1 := (by rw [ah5i125 (v0 + 31) v1, gr3i125_1 (v0 + 31) v1 q0 (by omega)])
                              have o137 := g_Mo_3 T kv0
                              refine qk_mono (ih (v0) (v1) h5i125 Th5i125 kv0 wM q0 q1 (by show v1 = (130 * vI h5i125 v0 42 + vA h5i125 (v0 + 20) (vI h5i125 v0 42)); have qc1 : vI h5i125 v0 42 = (vI h v0 42) := (by rw [ih5i125 v0 42, if_neg (fun z => absurd z.2 (by decide)), gr3i125_0 v0 42 (by omega)]); rw [qc1]; exact zz_1cd0b996d1 o127 qq o128 o129) (by show vA h5i125 (v0 + 20) (vI h5i125 v0 42) ≤ 128; have qc1 : vI h5i125 v0 42 = (vI h v0 42) := (by rw [ih5i125 v0 42, if_neg (fun z => absurd z.2 (by decide)), gr3i125_0 v0 42 (by omega)]); rw [qc1]; exact zz_766354e410 o127 pb) (zz_5373ca5f81 o130 o131 gr10_2 cc64 o126) (by show vI h5i125 v0 48 = 0 → vA h5i125 (v0 + 21) (vI h5i125 v0 42) ≤ vI h5i125 v0 41; have qc1 : vI h5i125 v0 42 = (vI h v0 42) := (by rw [ih5i125 v0 42, if_neg (fun z => absurd z.2 (by decide)), gr3i125_0 v0 42 (by omega)]); rw [qc1]; exact zz_bd72b2919d o132 o130 hi gr3i125_4 gr3i125_5 cc1 o133 o126) (by clear ih; intro bb; have rg_half := g_Mo_42 T kv0; have re_items := g_Mo_e21 T kv0 (vI h v0 42); have z4 := gr3i125_4 (by show vI r3i125 v0 48 = 0; have o134 : vI h5i125 v0 48 = vI r3i125 v0 48 := (by rw [ih5i125 v0 48, if_neg (fun z => absurd z.2 (by decide))]); exact zz_24965f4b2c bb o134); exact q_JM_it (k := 0) (x := (yr10)) (J cc1) rg_half.1 rg_half.2 re_items.1 (zz_11d26c57a8 ib) (by rw [ih5i125 v0 42, if_neg (fun z => absurd z.2 (by decide)), gr3i125_0 v0 42 (by omega)]) (fun j j0 jn => ⟨by rw [ah5i125 (v0 + 26) j]; exact (gr3i125_3 j j0 jn).1, by rw [ah5i125 (v0 + 27) j]; exact (gr3i125_3 j j0 jn).2⟩) (by rw [ah5i125 (v0 + 26) (260 * vI h v0 42 + vA h (v0 + 21) (vI h v0 42))]; exact z4.1) (by rw [ah5i125 (v0 + 27) (260 * vI h v0 42 + vA h (v0 + 21) (vI h v0 42))]; exact z4.2.1) (by rw [ah5i125 (v0 + 21) (vI h v0 42)]; exact z4.2.2) (Or.inl ⟨by decide, (by rw [ih5i125 v0 44, if_neg (fun z => absurd z.2 (by decide)), gr3i125_0 v0 44 (by omega)]), (by rw [ih5i125 v0 49, if_neg (fun z => absurd z.2 (by decide)), gr3i125_0 v0 49 (by omega)])⟩)) (zz_5a73c3e9c5 o135 ef) (zz_de47fbffb3 o136 cc31) (zz_49fd61fcc2 o130 o137 gr10_2 cc64 o126) (by show vA h5i125 (v0 + 21) (vI h5i125 v0 42) ≤ 241; have qc1 : vI h5i125 v0 42 = (vI h v0 42) := (by rw [ih5i125 v0 42, if_neg (fun z => absurd z.2 (by decide)), gr3i125_0 v0 42 (by omega)]); rw [qc1]; exact zz_94b1578766 o132 gr3i125_4 gr3i125_5 hi gr10_3 cc64 cc1 o133) hN (zz_09341b5453 o130 o137 hms hq1 gr16_1 cc1 cc53 o126 hq2 hq3)) ?_
                              rintro ⟨y, hz⟩ ⟨Tz, g0, g1, g2, g3, g4, g5, g6, g7, g8, g9, g10, g11, g12⟩
                              try dsimp only at *
                              have qh42_g0 : vI h5i125 v0 42 = (vI h v0 42) := by rw [ih5i125 v0 42, if_neg (fun z => absurd z.2 (by decide)), gr3i125_0 v0 42 (by omega)]
                              rw [qh42_g0] at g3
                              rw [qh42_g0] at g4
                              rw [qh42_g0] at g5
                              rw [qh42_g0] at g7
                              rw [qh42_g0] at g9
                              rw [qh42_g0] at g10
                              rw [qh42_g0] at g12
                              have o139 := g_Mo_e21 Tr3i125 kv0 (vI h v0 42)
                              exact ⟨Tz, g0, (by clear ih; show ∀ a k, ¬ (a = v0 ∧ (k = 5 ∨ k = 46 ∨ k = 48 ∨ k = 50 ∨ k = 41 ∨ k = 44 ∨ k = 49 ∨ k = 45)) → vI hz a k = vI h a k; intro a k n0; rw [g1 a k (by omega), ih5i125, if_neg (by omega), gr3i125_0 a k (by omega)]), (by clear ih; show ∀ a j, 0 ≤ j → ¬ (a = v0 + 21 ∨ a = v0 + 26 ∨ a = v0 + 27 ∨ a = v0 + 29 ∨ a = v0 + 24 ∨ a = v0 + 25 ∨ a = v0 + 31 ∨ a = v0 + 20) → vA hz a j = vA h a j; intro a j j0 n0; rw [g2 a j j0 (by omega), ah5i125, gr3i125_1 a j j0 (by omega)]), (by clear ih; show ∀ j, 0 ≤ j → j ≠ vI h v0 42 → vA hz (v0 + 21) j = vA h (v0 + 21) j; intro j j0 n0; rw [g3 j j0 n0, ah5i125 (v0 + 21) j, gr3i125_2 j j0 n0]), (by clear ih; show ∀ j, 0 ≤ j → (j < (260 * vI h v0 42 + vA h (v0 + 21) (vI h v0 42)) ∨ 260 * vI h v0 42 + 260 ≤ j) → vA hz (v0 + 26) j = vA h (v0 + 26) j ∧ vA hz (v0 + 27) j = vA h (v0 + 27) j; intro j j0 n0; exact ⟨(by rw [(g4 j j0 (zz_5913666c7d o132 gr3i125_4 gr3i125_5 n0 o128 o133 o139)).1, ah5i125 (v0 + 26) j, (gr3i125_3 j j0 (zz_ebfb0d8f28 ib n0 o128 o133)).1]), (by rw [(g4 j j0 (zz_5913666c7d o132 gr3i125_4 gr3i125_5 n0 o128 o133 o139)).2, ah5i125 (v0 + 27) j, (gr3i125_3 j j0 (zz_ebfb0d8f28 ib n0 o128 o133)).2])⟩), (by clear ih; show ∀ j, 0 ≤ j → j ≠ vI h v0 42 → vA hz (v0 + 20) j = vA h (v0 + 20) j; intro j j0 n0; rw [g5 j j0 n0, ah5i125 (v0 + 20) j, gr3i125_1 (v0 + 20) j j0 (by omega)]), (by clear ih; show ∀ j, 0 ≤ j → j ≠ v1 → vA hz (v0 + 23) j = vA h (v0 + 23) j ∧ vA hz (v0 + 24) j = vA h (v0 + 24) j ∧ vA hz (v0 + 25) j = vA h (v0 + 25) j; intro j j0 n0; exact ⟨(by rw [g2 (v0 + 23) j j0 (by omega), ah5i125 (v0 + 23) j, gr3i125_1 (v0 + 23) j j0 (by omega)]), (by rw [(g6 j j0 n0).2.1, ah5i125 (v0 + 24) j, gr3i125_1 (v0 + 24) j j0 (by omega)]), (by rw [(g6 j j0 n0).2.2, ah5i125 (v0 + 25) j, gr3i125_1 (v0 + 25) j j0 (by omega)])⟩), (zz_00b52b5978 o127 g7 o129), (zz_a5143cc316 g8 o130 o131 o126), (zz_c52fc66c1a g9), (by clear ih; show vI hz v0 48 = 0 → q_PM hz v0 v1 ∧ vA hz (v0 + 24) v1 = (260 * vI h v0 42 + vA hz (v0 + 21) (vI h v0 42)); exact g10), (zz_b8fccb5cff o130 g11 o126), (zz_a923bf6e82 gr3i125_4 gr3i125_5 g12 o132 o133)⟩
                  · skip
                    unfold f_Mod_readPattern_237
                    refine qk_if (fun cc141 => ?_) (fun cc141 => ?_)
                    · skip
                      refine r_Mo_41 T kv0 ?_
                      intro x10i140 ex10i140 lx10i140 ux10i140
                      subst ex10i140
                      refine r_Mo_o T kv0 ?_
                      refine c_Mod_escaped (v0 := v0) (v1 := (vI h v0 41)) (f0 := f0) T kv0 wM cc1 (zz_04d0698cec cc52 cc141) (zz_a57acd4686 cc52 cc141) (by clear ih; exact J cc1) ?_
                      intro r12i140 Tr12i140 gr12i140_0 gr12i140_1 gr12i140_2 gr12i140_3 gr12i140_4 gr12i140_5 gr12i140_6 gr12i140_7 gr12i140_8
                      have o142 : vA r12i140 (v0 + 20) (vI h v0 42) = vA h (v0 + 20) (vI h v0 42) := (by rw [gr12i140_1 (v0 + 20) (vI h v0 42) (g_Mo_42 T kv0).1 (by omega)])
                      have o143 := g_Mo_42 T kv0
                      have o144 := g_Mo_e20 T kv0 (vI h v0 42)
                      have o145 : vI r12i140 v0 3 = vI h v0 3 := (by rw [gr12i140_0 v0 3 (by omega)])
                      have o146 : vA r12i140 (v0 + 23) v1 = vA h (v0 + 23) v1 := (by rw [gr12i140_1 (v0 + 23) v1 q0 (by omega)])
                      have o147 : vA r12i140 (v0 + 31) v1 = vA h (v0 + 31) v1 := (by rw [gr12i140_1 (v0 + 31) v1 q0 (by omega)])
                      refine qk_mono (ih (v0) (v1) r12i140 Tr12i140 kv0 wM q0 q1 (by show v1 = (130 * vI r12i140 v0 42 + vA r12i140 (v0 + 20) (vI r12i140 v0 42)); have qc1 : vI r12i140 v0 42 = (vI h v0 42) := (by rw [gr12i140_0 v0 42 (by omega)]); rw [qc1]; exact zz_1cd0b996d1 o142 qq o143 o144) (by show vA r12i140 (v0 + 20) (vI r12i140 v0 42) ≤ 128; have qc1 : vI r12i140 v0 42 = (vI h v0 42) := (by rw [gr12i140_0 v0 42 (by omega)]); rw [qc1]; exact zz_766354e410 o142 pb) (zz_3547589d98 o145 gr12i140_4) (by show vI r12i140 v0 48 = 0 → vA r12i140 (v0 + 21) (vI r12i140 v0 42) ≤ vI r12i140 v0 41; have qc1 : vI r12i140 v0 42 = (vI h v0 42) := (by rw [gr12i140_0 v0 42 (by omega)]); rw [qc1]; exact zz_c52fc66c1a gr12i140_5) (by clear ih; intro bb; exact q_JM_eq (gr12i140_6 bb) (fun j j0 j1 => ⟨by rfl, by rfl⟩) rfl rfl rfl rfl (Or.inl rfl)) (zz_5a73c3e9c5 o146 ef) (zz_de47fbffb3 o147 cc31) (zz_0da4948674 gr12i140_7) (by show vA r12i140 (v0 + 21) (vI r12i140 v0 42) ≤ 241; have qc1 : vI r12i140 v0 42 = (vI h v0 42) := (by rw [gr12i140_0 v0 42 (by omega)]); rw [qc1]; exact zz_b5e1c3f4ab gr12i140_8) hN (zz_cf9a56694f hms hq1 gr12i140_4 ab cc1 hq2 hq3)) ?_
                      rintro ⟨y, hz⟩ ⟨Tz, g0, g1, g2, g3, g4, g5, g6, g7, g8, g9, g10, g11, g12⟩
                      try dsimp only at *
                      have qh42_g0 : vI r12i140 v0 42 = (vI h v0 42) := by rw [gr12i140_0 v0 42 (by omega)]
                      rw [qh42_g0] at g3
                      rw [qh42_g0] at g4
                      rw [qh42_g0] at g5
                      rw [qh42_g0] at g7
                      rw [qh42_g0] at g9
                      rw [qh42_g0] at g10
                      rw [qh42_g0] at g12
                      have o149 := g_Mo_e21 T kv0 (vI h v0 42)
                      have o150 := g_Mo_e21 Tr12i140 kv0 (vI h v0 42)
                      exact ⟨Tz, g0, (by clear ih; show ∀ a k, ¬ (a = v0 ∧ (k = 5 ∨ k = 46 ∨ k = 48 ∨ k = 50 ∨ k = 41 ∨ k = 44 ∨ k = 49 ∨ k = 45)) → vI hz a k = vI h a k; intro a k n0; rw [g1 a k (by omega), gr12i140_0 a k (by omega)]), (by clear ih; show ∀ a j, 0 ≤ j → ¬ (a = v0 + 21 ∨ a = v0 + 26 ∨ a = v0 + 27 ∨ a = v0 + 29 ∨ a = v0 + 24 ∨ a = v0 + 25 ∨ a = v0 + 31 ∨ a = v0 + 20) → vA hz a j = vA h a j; intro a j j0 n0; rw [g2 a j j0 (by omega), gr12i140_1 a j j0 (by omega)]), (by clear ih; show ∀ j, 0 ≤ j → j ≠ vI h v0 42 → vA hz (v0 + 21) j = vA h (v0 + 21) j; intro j j0 n0; rw [g3 j j0 n0, gr12i140_2 j j0 n0]), (by clear ih; show ∀ j, 0 ≤ j → (j < (260 * vI h v0 42 + vA h (v0 + 21) (vI h v0 42)) ∨ 260 * vI h v0 42 + 260 ≤ j) → vA hz (v0 + 26) j = vA h (v0 + 26) j ∧ vA hz (v0 + 27) j = vA h (v0 + 27) j; intro j j0 n0; exact ⟨(by rw [(g4 j j0 (zz_0e57fb70c4 gr12i140_8 n0 o143 o149 o150)).1, (gr12i140_3 j j0 (zz_f468153ada n0 o143 o149)).1]), (by rw [(g4 j j0 (zz_0e57fb70c4 gr12i140_8 n0 o143 o149 o150)).2, (gr12i140_3 j j0 (zz_f468153ada n0 o143 o149)).2])⟩), (by clear ih; show ∀ j, 0 ≤ j → j ≠ vI h v0 42 → vA hz (v0 + 20) j = vA h (v0 + 20) j; intro j j0 n0; rw [g5 j j0 n0, gr12i140_1 (v0 + 20) j j0 (by omega)]), (by clear ih; show ∀ j, 0 ≤ j → j ≠ v1 → vA hz (v0 + 23) j = vA h (v0 + 23) j ∧ vA hz (v0 + 24) j = vA h (v0 + 24) j ∧ vA hz (v0 + 25) j = vA h (v0 + 25) j; intro j j0 n0; exact ⟨(by rw [g2 (v0 + 23) j j0 (by omega), gr12i140_1 (v0 + 23) j j0 (by omega)]), (by rw [(g6 j j0 n0).2.1, gr12i140_1 (v0 + 24) j j0 (by omega)]), (by rw [(g6 j j0 n0).2.2, gr12i140_1 (v0 + 25) j j0 (by omega)])⟩), (zz_00b52b5978 o142 g7 o144), (zz_e051a1c329 gr12i140_7 g8 o145), (zz_c52fc66c1a g9), (by clear ih; show vI hz v0 48 = 0 → q_PM hz v0 v1 ∧ vA hz (v0 + 24) v1 = (260 * vI h v0 42 + vA hz (v0 + 21) (vI h v0 42)); exact g10), (zz_285027bacb gr12i140_7 g11), (zz_72aebe666a gr12i140_8 g12)⟩
                    · skip
                      refine qk_if (fun cc151 => ?_) (fun cc151 => ?_)
                      · skip
                        refine r_Mo_41 T kv0 ?_
                        intro x7i140 ex7i140 lx7i140 ux7i140
                        subst ex7i140
                        refine r_Mo_o T kv0 ?_
                        refine c_Mod_set (v0 := v0) (v1 := (vI h v0 41)) (f0 := f0) T kv0 wM cc1 (zz_af9a98756d cc52 cc151) (zz_64e4564fcd cc52 cc151) (by clear ih; exact J cc1) hN ?_
                        intro r9i140 Tr9i140 gr9i140_0 gr9i140_1 gr9i140_2 gr9i140_3 gr9i140_4 gr9i140_5 gr9i140_6 gr9i140_7 gr9i140_8
                        have o152 : vA r9i140 (v0 + 20) (vI h v0 42) = vA h (v0 + 20) (vI h v0 42) := (by rw [gr9i140_1 (v0 + 20) (vI h v0 42) (g_Mo_42 T kv0).1 (by omega)])
                        have o153 := g_Mo_42 T kv0
                        have o154 := g_Mo_e20 T kv0 (vI h v0 42)
                        have o155 : vI r9i140 v0 3 = vI h v0 3 := (by rw [gr9i140_0 v0 3 (by omega)])
                        have o156 : vA r9i140 (v0 + 23) v1 = vA h (v0 + 23) v1 := (by rw [gr9i140_1 (v0 + 23) v1 q0 (by omega)])
                        have o157 : vA r9i140 (v0 + 31) v1 = vA h (v0 + 31) v1 := (by rw [gr9i140_1 (v0 + 31) v1 q0 (by omega)])
                        refine qk_mono (ih (v0) (v1) r9i140 Tr9i140 kv0 wM q0 q1 (by show v1 = (130 * vI r9i140 v0 42 + vA r9i140 (v0 + 20) (vI r9i140 v0 42)); have qc1 : vI r9i140 v0 42 = (vI h v0 42) := (by rw [gr9i140_0 v0 42 (by omega)]); rw [qc1]; exact zz_1cd0b996d1 o152 qq o153 o154) (by show vA r9i140 (v0 + 20) (vI r9i140 v0 42) ≤ 128; have qc1 : vI r9i140 v0 42 = (vI h v0 42) := (by rw [gr9i140_0 v0 42 (by omega)]); rw [qc1]; exact zz_766354e410 o152 pb) (zz_3547589d98 o155 gr9i140_4) (by show vI r9i140 v0 48 = 0 → vA r9i140 (v0 + 21) (vI r9i140 v0 42) ≤ vI r9i140 v0 41; have qc1 : vI r9i140 v0 42 = (vI h v0 42) := (by rw [gr9i140_0 v0 42 (by omega)]); rw [qc1]; exact zz_c52fc66c1a gr9i140_5) (by clear ih; intro bb; exact q_JM_eq (gr9i140_6 bb) (fun j j0 j1 => ⟨by rfl, by rfl⟩) rfl rfl rfl rfl (Or.inl rfl)) (zz_5a73c3e9c5 o156 ef) (zz_de47fbffb3 o157 cc31) (zz_0da4948674 gr9i140_7) (by show vA r9i140 (v0 + 21) (vI r9i140 v0 42) ≤ 241; have qc1 : vI r9i140 v0 42 = (vI h v0 42) := (by rw [gr9i140_0 v0 42 (by omega)]); rw [qc1]; exact zz_b5e1c3f4ab gr9i140_8) hN (zz_cf9a56694f hms hq1 gr9i140_4 ab cc1 hq2 hq3)) ?_
                        rintro ⟨y, hz⟩ ⟨Tz, g0, g1, g2, g3, g4, g5, g6, g7, g8, g9, g10, g11, g12⟩
                        try dsimp only at *
                        have qh42_g0 : vI r9i140 v0 42 = (vI h v0 42) := by rw [gr9i140_0 v0 42 (by omega)]
                        rw [qh42_g0] at g3
                        rw [qh42_g0] at g4
                        rw [qh42_g0] at g5
                        rw [qh42_g0] at g7
                        rw [qh42_g0] at g9
                        rw [qh42_g0] at g10
                        rw [qh42_g0] at g12
                        have o159 := g_Mo_e21 T kv0 (vI h v0 42)
                        have o160 := g_Mo_e21 Tr9i140 kv0 (vI h v0 42)
                        exact ⟨Tz, g0, (by clear ih; show ∀ a k, ¬ (a = v0 ∧ (k = 5 ∨ k = 46 ∨ k = 48 ∨ k = 50 ∨ k = 41 ∨ k = 44 ∨ k = 49 ∨ k = 45)) → vI hz a k = vI h a k; intro a k n0; rw [g1 a k (by omega), gr9i140_0 a k (by omega)]), (by clear ih; show ∀ a j, 0 ≤ j → ¬ (a = v0 + 21 ∨ a = v0 + 26 ∨ a = v0 + 27 ∨ a = v0 + 29 ∨ a = v0 + 24 ∨ a = v0 + 25 ∨ a = v0 + 31 ∨ a = v0 + 20) → vA hz a j = vA h a j; intro a j j0 n0; rw [g2 a j j0 (by omega), gr9i140_1 a j j0 (by omega)]), (by clear ih; show ∀ j, 0 ≤ j → j ≠ vI h v0 42 → vA hz (v0 + 21) j = vA h (v0 + 21) j; intro j j0 n0; rw [g3 j j0 n0, gr9i140_2 j j0 n0]), (by clear ih; show ∀ j, 0 ≤ j → (j < (260 * vI h v0 42 + vA h (v0 + 21) (vI h v0 42)) ∨ 260 * vI h v0 42 + 260 ≤ j) → vA hz (v0 + 26) j = vA h (v0 + 26) j ∧ vA hz (v0 + 27) j = vA h (v0 + 27) j; intro j j0 n0; exact ⟨(by rw [(g4 j j0 (zz_0e57fb70c4 gr9i140_8 n0 o153 o159 o160)).1, (gr9i140_3 j j0 (zz_f468153ada n0 o153 o159)).1]), (by rw [(g4 j j0 (zz_0e57fb70c4 gr9i140_8 n0 o153 o159 o160)).2, (gr9i140_3 j j0 (zz_f468153ada n0 o153 o159)).2])⟩), (by clear ih; show ∀ j, 0 ≤ j → j ≠ vI h v0 42 → vA hz (v0 + 20) j = vA h (v0 + 20) j; intro j j0 n0; rw [g5 j j0 n0, gr9i140_1 (v0 + 20) j j0 (by omega)]), (by clear ih; show ∀ j, 0 ≤ j → j ≠ v1 → vA hz (v0 + 23) j = vA h (v0 + 23) j ∧ vA hz (v0 + 24) j = vA h (v0 + 24) j ∧ vA hz (v0 + 25) j = vA h (v0 + 25) j; intro j j0 n0; exact ⟨(by rw [g2 (v0 + 23) j j0 (by omega), gr9i140_1 (v0 + 23) j j0 (by omega)]), (by rw [(g6 j j0 n0).2.1, gr9i140_1 (v0 + 24) j j0 (by omega)]), (by rw [(g6 j j0 n0).2.2, gr9i140_1 (v0 + 25) j j0 (by omega)])⟩), (zz_00b52b5978 o152 g7 o154), (zz_e051a1c329 gr9i140_7 g8 o155), (zz_c52fc66c1a g9), (by clear ih; show vI hz v0 48 = 0 → q_PM hz v0 v1 ∧ vA hz (v0 + 24) v1 = (260 * vI h v0 42 + vA hz (v0 + 21) (vI h v0 42)); exact g10), (zz_285027bacb gr9i140_7 g11), (zz_72aebe666a gr9i140_8 g12)⟩
                      · skip
                        refine qk_if (fun cc161 => ?_) (fun cc161 => ?_)
                        · skip
                          refine r_Mo_o T kv0 ?_
                          refine c_Mod_star (v0 := v0) (f0 := f0) T kv0 wM cc1 (zz_ed98345f9a cc52 cc161) (zz_1364e13ed5 cc52 cc161) (by clear ih; exact J cc1) ?_
                          intro r6i140 Tr6i140 gr6i140_0 gr6i140_1 gr6i140_2 gr6i140_3 gr6i140_4 gr6i140_5 gr6i140_6 gr6i140_7 gr6i140_8
                          have o162 : vA r6i140 (v0 + 20) (vI h v0 42) = vA h (v0 + 20) (vI h v0 42) := (by rw [gr6i140_1 (v0 + 20) (vI h v0 42) (g_Mo_42 T kv0).1 (by omega)])
                          have o163 := g_Mo_42 T kv0
                          have o164 := g_Mo_e20 T kv0 (vI h v0 42)
                          have o165 : vI r6i140 v0 3 = vI h v0 3 := (by rw [gr6i140_0 v0 3 (by omega)])
                          have o166 : vA r6i140 (v0 + 23) v1 = vA h (v0 + 23) v1 := (by rw [gr6i140_1 (v0 + 23) v1 q0 (by omega)])
                          have o167 : vA r6i140 (v0 + 31) v1 = vA h (v0 + 31) v1 := (by rw [gr6i140_1 (v0 + 31) v1 q0 (by omega)])
                          refine qk_mono (ih (v0) (v1) r6i140 Tr6i140 kv0 wM q0 q1 (by show v1 = (130 * vI r6i140 v0 42 + vA r6i140 (v0 + 20) (vI r6i140 v0 42)); have qc1 : vI r6i140 v0 42 = (vI h v0 42) := (by rw [gr6i140_0 v0 42 (by omega)]); rw [qc1]; exact zz_1cd0b996d1 o162 qq o163 o164) (by show vA r6i140 (v0 + 20) (vI r6i140 v0 42) ≤ 128; have qc1 : vI r6i140 v0 42 = (vI h v0 42) := (by rw [gr6i140_0 v0 42 (by omega)]); rw [qc1]; exact zz_766354e410 o162 pb) (zz_3547589d98 o165 gr6i140_4) (by show vI r6i140 v0 48 = 0 → vA r6i140 (v0 + 21) (vI r6i140 v0 42) ≤ vI r6i140 v0 41; have qc1 : vI r6i140 v0 42 = (vI h v0 42) := (by rw [gr6i140_0 v0 42 (by omega)]); rw [qc1]; exact zz_c52fc66c1a gr6i140_5) (by clear ih; intro bb; exact q_JM_eq (gr6i140_6 bb) (fun j j0 j1 => ⟨by rfl, by rfl⟩) rfl rfl rfl rfl (Or.inl rfl)) (zz_5a73c3e9c5 o166 ef) (zz_de47fbffb3 o167 cc31) (zz_0da4948674 gr6i140_7) (by show vA r6i140 (v0 + 21) (vI r6i140 v0 42) ≤ 241; have qc1 : vI r6i140 v0 42 = (vI h v0 42) := (by rw [gr6i140_0 v0 42 (by omega)]); rw [qc1]; exact zz_b5e1c3f4ab gr6i140_8) hN (zz_cf9a56694f hms hq1 gr6i140_4 ab cc1 hq2 hq3)) ?_
                          rintro ⟨y, hz⟩ ⟨Tz, g0, g1, g2, g3, g4, g5, g6, g7, g8, g9, g10, g11, g12⟩
                          try dsimp only at *
                          have qh42_g0 : vI r6i140 v0 42 = (vI h v0 42) := by rw [gr6i140_0 v0 42 (by omega)]
                          rw [qh42_g0] at g3
                          rw [qh42_g0] at g4
                          rw [qh42_g0] at g5
                          rw [qh42_g0] at g7
                          rw [qh42_g0] at g9
                          rw [qh42_g0] at g10
                          rw [qh42_g0] at g12
                          have o169 := g_Mo_e21 T kv0 (vI h v0 42)
                          have o170 := g_Mo_e21 Tr6i140 kv0 (vI h v0 42)
                          exact ⟨Tz, g0, (by clear ih; show ∀ a k, ¬ (a = v0 ∧ (k = 5 ∨ k = 46 ∨ k = 48 ∨ k = 50 ∨ k = 41 ∨ k = 44 ∨ k = 49 ∨ k = 45)) → vI hz a k = vI h a k; intro a k n0; rw [g1 a k (by omega), gr6i140_0 a k (by omega)]), (by clear ih; show ∀ a j, 0 ≤ j → ¬ (a = v0 + 21 ∨ a = v0 + 26 ∨ a = v0 + 27 ∨ a = v0 + 29 ∨ a = v0 + 24 ∨ a = v0 + 25 ∨ a = v0 + 31 ∨ a = v0 + 20) → vA hz a j = vA h a j; intro a j j0 n0; rw [g2 a j j0 (by omega), gr6i140_1 a j j0 (by omega)]), (by clear ih; show ∀ j, 0 ≤ j → j ≠ vI h v0 42 → vA hz (v0 + 21) j = vA h (v0 + 21) j; intro j j0 n0; rw [g3 j j0 n0, gr6i140_2 j j0 n0]), (by clear ih; show ∀ j, 0 ≤ j → (j < (260 * vI h v0 42 + vA h (v0 + 21) (vI h v0 42)) ∨ 260 * vI h v0 42 + 260 ≤ j) → vA hz (v0 + 26) j = vA h (v0 + 26) j ∧ vA hz (v0 + 27) j = vA h (v0 + 27) j; intro j j0 n0; exact ⟨(by rw [(g4 j j0 (zz_0e57fb70c4 gr6i140_8 n0 o163 o169 o170)).1, (gr6i140_3 j j0 (zz_f468153ada n0 o163 o169)).1]), (by rw [(g4 j j0 (zz_0e57fb70c4 gr6i140_8 n0 o163 o169 o170)).2, (gr6i140_3 j j0 (zz_f468153ada n0 o163 o169)).2])⟩), (by clear ih; show ∀ j, 0 ≤ j → j ≠ vI h v0 42 → vA hz (v0 + 20) j = vA h (v0 + 20) j; intro j j0 n0; rw [g5 j j0 n0, gr6i140_1 (v0 + 20) j j0 (by omega)]), (by clear ih; show ∀ j, 0 ≤ j → j ≠ v1 → vA hz (v0 + 23) j = vA h (v0 + 23) j ∧ vA hz (v0 + 24) j = vA h (v0 + 24) j ∧ vA hz (v0 + 25) j = vA h (v0 + 25) j; intro j j0 n0; exact ⟨(by rw [g2 (v0 + 23) j j0 (by omega), gr6i140_1 (v0 + 23) j j0 (by omega)]), (by rw [(g6 j j0 n0).2.1, gr6i140_1 (v0 + 24) j j0 (by omega)]), (by rw [(g6 j j0 n0).2.2, gr6i140_1 (v0 + 25) j j0 (by omega)])⟩), (zz_00b52b5978 o162 g7 o164), (zz_e051a1c329 gr6i140_7 g8 o165), (zz_c52fc66c1a g9), (by clear ih; show vI hz v0 48 = 0 → q_PM hz v0 v1 ∧ vA hz (v0 + 24) v1 = (260 * vI h v0 42 + vA hz (v0 + 21) (vI h v0 42)); exact g10), (zz_285027bacb gr6i140_7 g11), (zz_72aebe666a gr6i140_8 g12)⟩
                        · skip
                          refine qk_if (fun cc171 => ?_) (fun cc171 => ?_)
                          · skip
                            unfold f_Mod_readPattern_296
                            refine r_Mo_41 T kv0 ?_
                            intro x1i172 ex1i172 lx1i172 ux1i172
                            subst ex1i172
                            refine r_Mo_o T kv0 ?_
                            refine c_Mod_addItem (v0 := v0) (v1 := 1) (v2 := (yr10)) (v3 := (vI h v0 41)) T kv0 wM cc1 (by decide) (by decide) (zz_633d7db2af ib) ?_
                            intro r3i172 Tr3i172 gr3i172_0 gr3i172_1 gr3i172_2 gr3i172_3 gr3i172_4 gr3i172_5
                            refine r_Mo_41 Tr3i172 kv0 ?_
                            intro x4i172 ex4i172 lx4i172 ux4i172
                            have sx4i172 : (vI h v0 41) = x4i172 := (ex4i172.trans (by rw [gr3i172_0 v0 41 (by omega)])).symm
                            subst sx4i172
                            have o173 := g_Mo_41 T kv0
                            refine w_Mo_41 Tr3i172 kv0 (wM _ (by omega) (by omega)) (zz_5664edf06b o173) (zz_c81e5df24d ab o173) ?_
                            intro h5i172 Th5i172 ih5i172 ah5i172
                            have o174 : vA h5i172 (v0 + 20) (vI h v0 42) = vA h (v0 + 20) (vI h v0 42) := (by rw [ah5i172 (v0 + 20) (vI h v0 42), gr3i172_1 (v0 + 20) (vI h v0 42) (g_Mo_42 T kv0).1 (by omega)])
                            have o175 := g_Mo_42 T kv0
                            have o176 := g_Mo_e20 T kv0 (vI h v0 42)
                            have o178 : vA h5i172 (v0 + 23) v1 = vA h (v0 + 23) v1 := (by rw [ah5i172 (v0 + 23) v1, gr3i172_1 (v0 + 23) v1 q0 (by omega)])
                            have o179 : vA h5i172 (v0 + 31) v1 = vA h (v0 + 31) v1 := (by rw [ah5i172 (v0 + 31) v1, gr3i172_1 (v0 + 31) v1 q0 (by omega)])
                            refine qk_mono (ih (v0) (v1) h5i172 Th5i172 kv0 wM q0 q1 (by show v1 = (130 * vI h5i172 v0 42 + vA h5i172 (v0 + 20) (vI h5i172 v0 42)); have qc1 : vI h5i172 v0 42 = (vI h v0 42) := (by rw [ih5i172 v0 42, if_neg (fun z => absurd z.2 (by decide)), gr3i172_0 v0 42 (by omega)]); rw [qc1]; exact zz_1cd0b996d1 o174 qq o175 o176) (by show vA h5i172 (v0 + 20) (vI h5i172 v0 42) ≤ 128; have qc1 : vI h5i172 v0 42 = (vI h v0 42) := (by rw [ih5i172 v0 42, if_neg (fun z => absurd z.2 (by decide)), gr3i172_0 v0 42 (by omega)]); rw [qc1]; exact zz_766354e410 o174 pb) (zz_e18ceb2b2e cc52 cc171) (by show vI h5i172 v0 48 = 0 → vA h5i172 (v0 + 21) (vI h5i172 v0 42) ≤ vI h5i172 v0 41; have qc1 : vI h5i172 v0 42 = (vI h v0 42) := (by rw [ih5i172 v0 42, if_neg (fun z => absurd z.2 (by decide)), gr3i172_0 v0 42 (by omega)]); rw [qc1]; exact zz_e18ceb2b2e cc52 cc171) (by clear ih; intro bb; have rg_half := g_Mo_42 T kv0; have re_items := g_Mo_e21 T kv0 (vI h v0 42); have z4 := gr3i172_4 (by show vI r3i172 v0 48 = 0; have o177 : vI h5i172 v0 48 = vI r3i172 v0 48 := (by rw [ih5i172 v0 48, if_neg (fun z => absurd z.2 (by decide))]); exact zz_24965f4b2c bb o177); exact q_JM_it (k := 1) (x := (yr10)) (J cc1) rg_half.1 rg_half.2 re_items.1 (zz_11d26c57a8 ib) (by rw [ih5i172 v0 42, if_neg (fun z => absurd z.2 (by decide)), gr3i172_0 v0 42 (by omega)]) (fun j j0 jn => ⟨by rw [ah5i172 (v0 + 26) j]; exact (gr3i172_3 j j0 jn).1, by rw [ah5i172 (v0 + 27) j]; exact (gr3i172_3 j j0 jn).2⟩) (by rw [ah5i172 (v0 + 26) (260 * vI h v0 42 + vA h (v0 + 21) (vI h v0 42))]; exact z4.1) (by rw [ah5i172 (v0 + 27) (260 * vI h v0 42 + vA h (v0 + 21) (vI h v0 42))]; exact z4.2.1) (by rw [ah5i172 (v0 + 21) (vI h v0 42)]; exact z4.2.2) (Or.inl ⟨by decide, (by rw [ih5i172 v0 44, if_neg (fun z => absurd z.2 (by decide)), gr3i172_0 v0 44 (by omega)]), (by rw [ih5i172 v0 49, if_neg (fun z => absurd z.2 (by decide)), gr3i172_0 v0 49 (by omega)])⟩)) (zz_5a73c3e9c5 o178 ef) (zz_de47fbffb3 o179 cc31) (zz_892db05e96 cc52 cc171) (by show vA h5i172 (v0 + 21) (vI h5i172 v0 42) ≤ 241; have qc1 : vI h5i172 v0 42 = (vI h v0 42) := (by rw [ih5i172 v0 42, if_neg (fun z => absurd z.2 (by decide)), gr3i172_0 v0 42 (by omega)]); rw [qc1]; exact zz_78aac04ab4 cc52 cc171) hN (zz_3b1ba46fbc cc52 cc171)) ?_
                            rintro ⟨y, hz⟩ ⟨Tz, g0, g1, g2, g3, g4, g5, g6, g7, g8, g9, g10, g11, g12⟩
                            try dsimp only at *
                            have qh42_g0 : vI h5i172 v0 42 = (vI h v0 42) := by rw [ih5i172 v0 42, if_neg (fun z => absurd z.2 (by decide)), gr3i172_0 v0 42 (by omega)]
                            rw [qh42_g0] at g3
                            rw [qh42_g0] at g4
                            rw [qh42_g0] at g5
                            rw [qh42_g0] at g7
                            rw [qh42_g0] at g9
                            rw [qh42_g0] at g10
                            rw [qh42_g0] at g12
                            have o182 := g_Mo_e21 T kv0 (vI h v0 42)
                            have o183 := g_Mo_e21 Tr3i172 kv0 (vI h v0 42)
                            have o185 : vI h5i172 v0 41 = (vI h v0 41) + 1 := (by rw [ih5i172 v0 41, if_pos ⟨rfl, rfl⟩])
                            have o186 : vI h5i172 v0 3 = vI h v0 3 := (by rw [ih5i172 v0 3, if_neg (fun z => absurd z.2 (by decide)), gr3i172_0 v0 3 (by omega)])
                            have o187 : vA h5i172 (v0 + 21) (vI h v0 42) = vA r3i172 (v0 + 21) (vI h v0 42) := (by rw [ah5i172 (v0 + 21) (vI h v0 42)])
                            exact ⟨Tz, g0, (by clear ih; show ∀ a k, ¬ (a = v0 ∧ (k = 5 ∨ k = 46 ∨ k = 48 ∨ k = 50 ∨ k = 41 ∨ k = 44 ∨ k = 49 ∨ k = 45)) → vI hz a k = vI h a k; intro a k n0; rw [g1 a k (by omega), ih5i172, if_neg (by omega), gr3i172_0 a k (by omega)]), (by clear ih; show ∀ a j, 0 ≤ j → ¬ (a = v0 + 21 ∨ a = v0 + 26 ∨ a = v0 + 27 ∨ a = v0 + 29 ∨ a = v0 + 24 ∨ a = v0 + 25 ∨ a = v0 + 31 ∨ a = v0 + 20) → vA hz a j = vA h a j; intro a j j0 n0; rw [g2 a j j0 (by omega), ah5i172, gr3i172_1 a j j0 (by omega)]), (by clear ih; show ∀ j, 0 ≤ j → j ≠ vI h v0 42 → vA hz (v0 + 21) j = vA h (v0 + 21) j; intro j j0 n0; rw [g3 j j0 n0, ah5i172 (v0 + 21) j, gr3i172_2 j j0 n0]), (by clear ih; show ∀ j, 0 ≤ j → (j < (260 * vI h v0 42 + vA h (v0 + 21) (vI h v0 42)) ∨ 260 * vI h v0 42 + 260 ≤ j) → vA hz (v0 + 26) j = vA h (v0 + 26) j ∧ vA hz (v0 + 27) j = vA h (v0 + 27) j; intro j j0 n0; exact ⟨(by rw [(g4 j j0 (by show (j < (260 * (vI h v0 42) + vA h5i172 (v0 + 21) (vI h v0 42)) ∨ 260 * (vI h v0 42) + 260 ≤ j); have o181 : vA h5i172 (v0 + 21) (vI h v0 42) = vA r3i172 (v0 + 21) (vI h v0 42) := (by rw [ah5i172 (v0 + 21) (vI h v0 42)]); exact zz_260df0df9b o181 gr3i172_4 gr3i172_5 n0 o175 o182 o183)).1, ah5i172 (v0 + 26) j, (gr3i172_3 j j0 (zz_ebfb0d8f28 ib n0 o175 o182)).1]), (by rw [(g4 j j0 (by show (j < (260 * (vI h v0 42) + vA h5i172 (v0 + 21) (vI h v0 42)) ∨ 260 * (vI h v0 42) + 260 ≤ j); have o184 : vA h5i172 (v0 + 21) (vI h v0 42) = vA r3i172 (v0 + 21) (vI h v0 42) := (by rw [ah5i172 (v0 + 21) (vI h v0 42)]); exact zz_260df0df9b o184 gr3i172_4 gr3i172_5 n0 o175 o182 o183)).2, ah5i172 (v0 + 27) j, (gr3i172_3 j j0 (zz_ebfb0d8f28 ib n0 o175 o182)).2])⟩), (by clear ih; show ∀ j, 0 ≤ j → j ≠ vI h v0 42 → vA hz (v0 + 20) j = vA h (v0 + 20) j; intro j j0 n0; rw [g5 j j0 n0, ah5i172 (v0 + 20) j, gr3i172_1 (v0 + 20) j j0 (by omega)]), (by clear ih; show ∀ j, 0 ≤ j → j ≠ v1 → vA hz (v0 + 23) j = vA h (v0 + 23) j ∧ vA hz (v0 + 24) j = vA h (v0 + 24) j ∧ vA hz (v0 + 25) j = vA h (v0 + 25) j; intro j j0 n0; exact ⟨(by rw [g2 (v0 + 23) j j0 (by omega), ah5i172 (v0 + 23) j, gr3i172_1 (v0 + 23) j j0 (by omega)]), (by rw [(g6 j j0 n0).2.1, ah5i172 (v0 + 24) j, gr3i172_1 (v0 + 24) j j0 (by omega)]), (by rw [(g6 j j0 n0).2.2, ah5i172 (v0 + 25) j, gr3i172_1 (v0 + 25) j j0 (by omega)])⟩), (zz_00b52b5978 o174 g7 o176), (zz_a5143cc316 g8 o185 o186 o173), (zz_c52fc66c1a g9), (by clear ih; show vI hz v0 48 = 0 → q_PM hz v0 v1 ∧ vA hz (v0 + 24) v1 = (260 * vI h v0 42 + vA hz (v0 + 21) (vI h v0 42)); exact g10), (zz_b8fccb5cff o185 g11 o173), (zz_1ef23b8398 gr3i172_4 gr3i172_5 g12 o187 o182)⟩
                          · skip
                            unfold f_Mod_readPattern_296
                            refine r_Mo_41 T kv0 ?_
                            intro x1i188 ex1i188 lx1i188 ux1i188
                            subst ex1i188
                            refine r_Mo_o T kv0 ?_
                            refine c_Mod_addItem (v0 := v0) (v1 := 0) (v2 := (yr10)) (v3 := (vI h v0 41)) T kv0 wM cc1 (by decide) (by decide) (zz_633d7db2af ib) ?_
                            intro r3i188 Tr3i188 gr3i188_0 gr3i188_1 gr3i188_2 gr3i188_3 gr3i188_4 gr3i188_5
                            refine r_Mo_41 Tr3i188 kv0 ?_
                            intro x4i188 ex4i188 lx4i188 ux4i188
                            have sx4i188 : (vI h v0 41) = x4i188 := (ex4i188.trans (by rw [gr3i188_0 v0 41 (by omega)])).symm
                            subst sx4i188
                            have o189 := g_Mo_41 T kv0
                            refine w_Mo_41 Tr3i188 kv0 (wM _ (by omega) (by omega)) (zz_5664edf06b o189) (zz_c81e5df24d ab o189) ?_
                            intro h5i188 Th5i188 ih5i188 ah5i188
                            have o190 : vA h5i188 (v0 + 20) (vI h v0 42) = vA h (v0 + 20) (vI h v0 42) := (by rw [ah5i188 (v0 + 20) (vI h v0 42), gr3i188_1 (v0 + 20) (vI h v0 42) (g_Mo_42 T kv0).1 (by omega)])
                            have o191 := g_Mo_42 T kv0
                            have o192 := g_Mo_e20 T kv0 (vI h v0 42)
                            have o193 : vI h5i188 v0 41 = (vI h v0 41) + 1 := (by rw [ih5i188 v0 41, if_pos ⟨rfl, rfl⟩])
                            have o194 : vI h5i188 v0 3 = vI h v0 3 := (by rw [ih5i188 v0 3, if_neg (fun z => absurd z.2 (by decide)), gr3i188_0 v0 3 (by omega)])
                            have o196 : vA h5i188 (v0 + 23) v1 = vA h (v0 + 23) v1 := (by rw [ah5i188 (v0 + 23) v1, gr3i188_1 (v0 + 23) v1 q0 (by omega)])
                            have o197 : vA h5i188 (v0 + 31) v1 = vA h (v0 + 31) v1 := (by rw [ah5i188 (v0 + 31) v1, gr3i188_1 (v0 + 31) v1 q0 (by omega)])
                            have o198 := g_Mo_3 T kv0
                            refine qk_mono (ih (v0) (v1) h5i188 Th5i188 kv0 wM q0 q1 (by show v1 = (130 * vI h5i188 v0 42 + vA h5i188 (v0 + 20) (vI h5i188 v0 42)); have qc1 : vI h5i188 v0 42 = (vI h v0 42) := (by rw [ih5i188 v0 42, if_neg (fun z => absurd z.2 (by decide)), gr3i188_0 v0 42 (by omega)]); rw [qc1]; exact zz_1cd0b996d1 o190 qq o191 o192) (by show vA h5i188 (v0 + 20) (vI h5i188 v0 42) ≤ 128; have qc1 : vI h5i188 v0 42 = (vI h v0 42) := (by rw [ih5i188 v0 42, if_neg (fun z => absurd z.2 (by decide)), gr3i188_0 v0 42 (by omega)]); rw [qc1]; exact zz_766354e410 o190 pb) (zz_5373ca5f81 o193 o194 gr10_2 cc52 o189) (by show vI h5i188 v0 48 = 0 → vA h5i188 (v0 + 21) (vI h5i188 v0 42) ≤ vI h5i188 v0 41; have qc1 : vI h5i188 v0 42 = (vI h v0 42) := (by rw [ih5i188 v0 42, if_neg (fun z => absurd z.2 (by decide)), gr3i188_0 v0 42 (by omega)]); rw [qc1]; exact zz_76b8d757bc cc52 cc64) (by clear ih; intro bb; have rg_half := g_Mo_42 T kv0; have re_items := g_Mo_e21 T kv0 (vI h v0 42); have z4 := gr3i188_4 (by show vI r3i188 v0 48 = 0; have o195 : vI h5i188 v0 48 = vI r3i188 v0 48 := (by rw [ih5i188 v0 48, if_neg (fun z => absurd z.2 (by decide))]); exact zz_24965f4b2c bb o195); exact q_JM_it (k := 0) (x := (yr10)) (J cc1) rg_half.1 rg_half.2 re_items.1 (zz_11d26c57a8 ib) (by rw [ih5i188 v0 42, if_neg (fun z => absurd z.2 (by decide)), gr3i188_0 v0 42 (by omega)]) (fun j j0 jn => ⟨by rw [ah5i188 (v0 + 26) j]; exact (gr3i188_3 j j0 jn).1, by rw [ah5i188 (v0 + 27) j]; exact (gr3i188_3 j j0 jn).2⟩) (by rw [ah5i188 (v0 + 26) (260 * vI h v0 42 + vA h (v0 + 21) (vI h v0 42))]; exact z4.1) (by rw [ah5i188 (v0 + 27) (260 * vI h v0 42 + vA h (v0 + 21) (vI h v0 42))]; exact z4.2.1) (by rw [ah5i188 (v0 + 21) (vI h v0 42)]; exact z4.2.2) (Or.inl ⟨by decide, (by rw [ih5i188 v0 44, if_neg (fun z => absurd z.2 (by decide)), gr3i188_0 v0 44 (by omega)]), (by rw [ih5i188 v0 49, if_neg (fun z => absurd z.2 (by decide)), gr3i188_0 v0 49 (by omega)])⟩)) (zz_5a73c3e9c5 o196 ef) (zz_de47fbffb3 o197 cc31) (zz_49fd61fcc2 o193 o198 gr10_2 cc52 o189) (by show vA h5i188 (v0 + 21) (vI h5i188 v0 42) ≤ 241; have qc1 : vI h5i188 v0 42 = (vI h v0 42) := (by rw [ih5i188 v0 42, if_neg (fun z => absurd z.2 (by decide)), gr3i188_0 v0 42 (by omega)]); rw [qc1]; exact zz_178b31cec1 cc52 cc64) hN (zz_ec9707d450 cc52 cc64)) ?_
                            rintro ⟨y, hz⟩ ⟨Tz, g0, g1, g2, g3, g4, g5, g6, g7, g8, g9, g10, g11, g12⟩
                            try dsimp only at *
                            have qh42_g0 : vI h5i188 v0 42 = (vI h v0 42) := by rw [ih5i188 v0 42, if_neg (fun z => absurd z.2 (by decide)), gr3i188_0 v0 42 (by omega)]
                            rw [qh42_g0] at g3
                            rw [qh42_g0] at g4
                            rw [qh42_g0] at g5
                            rw [qh42_g0] at g7
                            rw [qh42_g0] at g9
                            rw [qh42_g0] at g10
                            rw [qh42_g0] at g12
                            have o201 := g_Mo_e21 T kv0 (vI h v0 42)
                            have o202 := g_Mo_e21 Tr3i188 kv0 (vI h v0 42)
                            have o204 : vA h5i188 (v0 + 21) (vI h v0 42) = vA r3i188 (v0 + 21) (vI h v0 42) := (by rw [ah5i188 (v0 + 21) (vI h v0 42)])
                            exact ⟨Tz, g0, (by clear ih; show ∀ a k, ¬ (a = v0 ∧ (k = 5 ∨ k = 46 ∨ k = 48 ∨ k = 50 ∨ k = 41 ∨ k = 44 ∨ k = 49 ∨ k = 45)) → vI hz a k = vI h a k; intro a k n0; rw [g1 a k (by omega), ih5i188, if_neg (by omega), gr3i188_0 a k (by omega)]), (by clear ih; show ∀ a j, 0 ≤ j → ¬ (a = v0 + 21 ∨ a = v0 + 26 ∨ a = v0 + 27 ∨ a = v0 + 29 ∨ a = v0 + 24 ∨ a = v0 + 25 ∨ a = v0 + 31 ∨ a = v0 + 20) → vA hz a j = vA h a j; intro a j j0 n0; rw [g2 a j j0 (by omega), ah5i188, gr3i188_1 a j j0 (by omega)]), (by clear ih; show ∀ j, 0 ≤ j → j ≠ vI h v0 42 → vA hz (v0 + 21) j = vA h (v0 + 21) j; intro j j0 n0; rw [g3 j j0 n0, ah5i188 (v0 + 21) j, gr3i188_2 j j0 n0]), (by clear ih; show ∀ j, 0 ≤ j → (j < (260 * vI h v0 42 + vA h (v0 + 21) (vI h v0 42)) ∨ 260 * vI h v0 42 + 260 ≤ j) → vA hz (v0 + 26) j = vA h (v0 + 26) j ∧ vA hz (v0 + 27) j = vA h (v0 + 27) j; intro j j0 n0; exact ⟨(by rw [(g4 j j0 (by show (j < (260 * (vI h v0 42) + vA h5i188 (v0 + 21) (vI h v0 42)) ∨ 260 * (vI h v0 42) + 260 ≤ j); have o200 : vA h5i188 (v0 + 21) (vI h v0 42) = vA r3i188 (v0 + 21) (vI h v0 42) := (by rw [ah5i188 (v0 + 21) (vI h v0 42)]); exact zz_5913666c7d o200 gr3i188_4 gr3i188_5 n0 o191 o201 o202)).1, ah5i188 (v0 + 26) j, (gr3i188_3 j j0 (zz_ebfb0d8f28 ib n0 o191 o201)).1]), (by rw [(g4 j j0 (by show (j < (260 * (vI h v0 42) + vA h5i188 (v0 + 21) (vI h v0 42)) ∨ 260 * (vI h v0 42) + 260 ≤ j); have o203 : vA h5i188 (v0 + 21) (vI h v0 42) = vA r3i188 (v0 + 21) (vI h v0 42) := (by rw [ah5i188 (v0 + 21) (vI h v0 42)]); exact zz_5913666c7d o203 gr3i188_4 gr3i188_5 n0 o191 o201 o202)).2, ah5i188 (v0 + 27) j, (gr3i188_3 j j0 (zz_ebfb0d8f28 ib n0 o191 o201)).2])⟩), (by clear ih; show ∀ j, 0 ≤ j → j ≠ vI h v0 42 → vA hz (v0 + 20) j = vA h (v0 + 20) j; intro j j0 n0; rw [g5 j j0 n0, ah5i188 (v0 + 20) j, gr3i188_1 (v0 + 20) j j0 (by omega)]), (by clear ih; show ∀ j, 0 ≤ j → j ≠ v1 → vA hz (v0 + 23) j = vA h (v0 + 23) j ∧ vA hz (v0 + 24) j = vA h (v0 + 24) j ∧ vA hz (v0 + 25) j = vA h (v0 + 25) j; intro j j0 n0; exact ⟨(by rw [g2 (v0 + 23) j j0 (by omega), ah5i188 (v0 + 23) j, gr3i188_1 (v0 + 23) j j0 (by omega)]), (by rw [(g6 j j0 n0).2.1, ah5i188 (v0 + 24) j, gr3i188_1 (v0 + 24) j j0 (by omega)]), (by rw [(g6 j j0 n0).2.2, ah5i188 (v0 + 25) j, gr3i188_1 (v0 + 25) j j0 (by omega)])⟩), (zz_00b52b5978 o190 g7 o192), (zz_a5143cc316 g8 o193 o194 o189), (zz_c52fc66c1a g9), (by clear ih; show vI hz v0 48 = 0 → q_PM hz v0 v1 ∧ vA hz (v0 + 24) v1 = (260 * vI h v0 42 + vA hz (v0 + 21) (vI h v0 42)); exact g10), (zz_b8fccb5cff o193 g11 o189), (zz_a923bf6e82 gr3i188_4 gr3i188_5 g12 o204 o201)⟩
              · skip
                unfold f_Mod_readPattern_202
                refine qk_if (fun cc206 => ?_) (fun cc206 => ?_)
                · skip
                  refine r_Mo_o T kv0 ?_
                  refine c_Mod_behind (v0 := v0) T kv0 ?_
                  intro yr3i205 gr3i205_0 gr3i205_1
                  dsimp only
                  refine qk_if (fun cc207 => ?_) (fun cc207 => ?_)
                  · skip
                    refine r_Mo_36 T kv0 ?_
                    refine w_Mo_e31 T kv0 (wM _ (by omega) (by omega)) q0 q1 ?_
                    intro h6i205 Th6i205 ih6i205 ah6i205
                    refine r_Mo_41 Th6i205 kv0 ?_
                    intro x7i205 ex7i205 lx7i205 ux7i205
                    have sx7i205 : (vI h v0 41) = x7i205 := (ex7i205.trans (by rw [ih6i205 v0 41])).symm
                    subst sx7i205
                    have o208 := g_Mo_41 T kv0
                    refine w_Mo_41 Th6i205 kv0 (wM _ (by omega) (by omega)) (zz_5664edf06b o208) (zz_c81e5df24d ab o208) ?_
                    intro h8i205 Th8i205 ih8i205 ah8i205
                    have o209 : vA h8i205 (v0 + 20) (vI h v0 42) = vA h (v0 + 20) (vI h v0 42) := (by rw [ah8i205 (v0 + 20) (vI h v0 42), ah6i205 (v0 + 20) (vI h v0 42) (g_Mo_42 T kv0).1, if_neg (fun z => absurd z.1 (by omega))])
                    have o210 := g_Mo_42 T kv0
                    have o211 := g_Mo_e20 T kv0 (vI h v0 42)
                    have o212 : vI h8i205 v0 41 = (vI h v0 41) + 1 := (by rw [ih8i205 v0 41, if_pos ⟨rfl, rfl⟩])
                    have o213 : vI h8i205 v0 3 = vI h v0 3 := (by rw [ih8i205 v0 3, if_neg (fun z => absurd z.2 (by decide)), ih6i205 v0 3])
                    have o214 : vA h8i205 (v0 + 21) (vI h v0 42) = vA h (v0 + 21) (vI h v0 42) := (by rw [ah8i205 (v0 + 21) (vI h v0 42), ah6i205 (v0 + 21) (vI h v0 42) (g_Mo_42 T kv0).1, if_neg (fun z => absurd z.1 (by omega))])
                    have o215 : vA h8i205 (v0 + 23) v1 = vA h (v0 + 23) v1 := (by rw [ah8i205 (v0 + 23) v1, ah6i205 (v0 + 23) v1 q0, if_neg (fun z => absurd z.1 (by omega))])
                    have o216 := g_Mo_3 T kv0
                    refine qk_mono (ih (v0) (v1) h8i205 Th8i205 kv0 wM q0 q1 (by show v1 = (130 * vI h8i205 v0 42 + vA h8i205 (v0 + 20) (vI h8i205 v0 42)); have qc1 : vI h8i205 v0 42 = (vI h v0 42) := (by rw [ih8i205 v0 42, if_neg (fun z => absurd z.2 (by decide)), ih6i205 v0 42]); rw [qc1]; exact zz_1cd0b996d1 o209 qq o210 o211) (by show vA h8i205 (v0 + 20) (vI h8i205 v0 42) ≤ 128; have qc1 : vI h8i205 v0 42 = (vI h v0 42) := (by rw [ih8i205 v0 42, if_neg (fun z => absurd z.2 (by decide)), ih6i205 v0 42]); rw [qc1]; exact zz_766354e410 o209 pb) (zz_5373ca5f81 o212 o213 gr10_2 cc206 o208) (by show vI h8i205 v0 48 = 0 → vA h8i205 (v0 + 21) (vI h8i205 v0 42) ≤ vI h8i205 v0 41; have qc1 : vI h8i205 v0 42 = (vI h v0 42) := (by rw [ih8i205 v0 42, if_neg (fun z => absurd z.2 (by decide)), ih6i205 v0 42]); rw [qc1]; exact zz_b62e0579eb o214 o212 hi cc1 o208) (by clear ih; intro bb; exact q_JM_eq (J cc1) (fun j j0 j1 => ⟨by rw [ah8i205 (v0 + 26) j, ah6i205 (v0 + 26) j j0, if_neg (fun z => absurd z.1 (by omega))], by rw [ah8i205 (v0 + 27) j, ah6i205 (v0 + 27) j j0, if_neg (fun z => absurd z.1 (by omega))]⟩) rfl (by rw [ih8i205 v0 42, if_neg (fun z => absurd z.2 (by decide)), ih6i205 v0 42, ah8i205 (v0 + 21) (vI h v0 42), ah6i205 (v0 + 21) (vI h v0 42) (g_Mo_42 T kv0).1, if_neg (fun z => absurd z.1 (by omega))]) (by rw [ih8i205 v0 44, if_neg (fun z => absurd z.2 (by decide)), ih6i205 v0 44]) (by rw [ih8i205 v0 49, if_neg (fun z => absurd z.2 (by decide)), ih6i205 v0 49]) (Or.inl (by rw [ih8i205 v0 50, if_neg (fun z => absurd z.2 (by decide)), ih6i205 v0 50]))) (zz_5a73c3e9c5 o215 ef) (zz_be32a072eb o212 o213 gr3i205_1 cc207 o208) (zz_49fd61fcc2 o212 o216 gr10_2 cc206 o208) (by show vA h8i205 (v0 + 21) (vI h8i205 v0 42) ≤ 241; have qc1 : vI h8i205 v0 42 = (vI h v0 42) := (by rw [ih8i205 v0 42, if_neg (fun z => absurd z.2 (by decide)), ih6i205 v0 42]); rw [qc1]; exact zz_4339c4c768 o214 ib) hN (zz_395d806045 o212 ab hms hq1 cc1 hq2 hq3 o208)) ?_
                    rintro ⟨y, hz⟩ ⟨Tz, g0, g1, g2, g3, g4, g5, g6, g7, g8, g9, g10, g11, g12⟩
                    try dsimp only at *
                    have qh42_g0 : vI h8i205 v0 42 = (vI h v0 42) := by rw [ih8i205 v0 42, if_neg (fun z => absurd z.2 (by decide)), ih6i205 v0 42]
                    rw [qh42_g0] at g3
                    rw [qh42_g0] at g4
                    rw [qh42_g0] at g5
                    rw [qh42_g0] at g7
                    rw [qh42_g0] at g9
                    rw [qh42_g0] at g10
                    rw [qh42_g0] at g12
                    have o218 := g_Mo_e21 T kv0 (vI h v0 42)
                    exact ⟨Tz, g0, (by clear ih; show ∀ a k, ¬ (a = v0 ∧ (k = 5 ∨ k = 46 ∨ k = 48 ∨ k = 50 ∨ k = 41 ∨ k = 44 ∨ k = 49 ∨ k = 45)) → vI hz a k = vI h a k; intro a k n0; rw [g1 a k (by omega), ih8i205, if_neg (by omega), ih6i205]), (by clear ih; show ∀ a j, 0 ≤ j → ¬ (a = v0 + 21 ∨ a = v0 + 26 ∨ a = v0 + 27 ∨ a = v0 + 29 ∨ a = v0 + 24 ∨ a = v0 + 25 ∨ a = v0 + 31 ∨ a = v0 + 20) → vA hz a j = vA h a j; intro a j j0 n0; rw [g2 a j j0 (by omega), ah8i205, ah6i205 a j j0, if_neg (by omega)]), (by clear ih; show ∀ j, 0 ≤ j → j ≠ vI h v0 42 → vA hz (v0 + 21) j = vA h (v0 + 21) j; intro j j0 n0; rw [g3 j j0 n0, ah8i205 (v0 + 21) j, ah6i205 (v0 + 21) j j0, if_neg (fun z => absurd z.1 (by omega))]), (by clear ih; show ∀ j, 0 ≤ j → (j < (260 * vI h v0 42 + vA h (v0 + 21) (vI h v0 42)) ∨ 260 * vI h v0 42 + 260 ≤ j) → vA hz (v0 + 26) j = vA h (v0 + 26) j ∧ vA hz (v0 + 27) j = vA h (v0 + 27) j; intro j j0 n0; exact ⟨(by rw [(g4 j j0 (zz_9637c0da44 o214 n0 o210 o218)).1, ah8i205 (v0 + 26) j, ah6i205 (v0 + 26) j j0, if_neg (fun z => absurd z.1 (by omega))]), (by rw [(g4 j j0 (zz_9637c0da44 o214 n0 o210 o218)).2, ah8i205 (v0 + 27) j, ah6i205 (v0 + 27) j j0, if_neg (fun z => absurd z.1 (by omega))])⟩), (by clear ih; show ∀ j, 0 ≤ j → j ≠ vI h v0 42 → vA hz (v0 + 20) j = vA h (v0 + 20) j; intro j j0 n0; rw [g5 j j0 n0, ah8i205 (v0 + 20) j, ah6i205 (v0 + 20) j j0, if_neg (fun z => absurd z.1 (by omega))]), (by clear ih; show ∀ j, 0 ≤ j → j ≠ v1 → vA hz (v0 + 23) j = vA h (v0 + 23) j ∧ vA hz (v0 + 24) j = vA h (v0 + 24) j ∧ vA hz (v0 + 25) j = vA h (v0 + 25) j; intro j j0 n0; exact ⟨(by rw [g2 (v0 + 23) j j0 (by omega), ah8i205 (v0 + 23) j, ah6i205 (v0 + 23) j j0, if_neg (fun z => absurd z.1 (by omega))]), (by rw [(g6 j j0 n0).2.1, ah8i205 (v0 + 24) j, ah6i205 (v0 + 24) j j0, if_neg (fun z => absurd z.1 (by omega))]), (by rw [(g6 j j0 n0).2.2, ah8i205 (v0 + 25) j, ah6i205 (v0 + 25) j j0, if_neg (fun z => absurd z.1 (by omega))])⟩), (zz_00b52b5978 o209 g7 o211), (zz_a5143cc316 g8 o212 o213 o208), (zz_c52fc66c1a g9), (by clear ih; show vI hz v0 48 = 0 → q_PM hz v0 v1 ∧ vA hz (v0 + 24) v1 = (260 * vI h v0 42 + vA hz (v0 + 21) (vI h v0 42)); exact g10), (zz_b8fccb5cff o212 g11 o208), (zz_cdf7ac87ea g12 o214)⟩
                  · skip
                    unfold f_Mod_readPattern_237
                    refine qk_if (fun cc220 => ?_) (fun cc220 => ?_)
                    · skip
                      refine r_Mo_41 T kv0 ?_
                      intro x10i219 ex10i219 lx10i219 ux10i219
                      subst ex10i219
                      refine r_Mo_o T kv0 ?_
                      refine c_Mod_escaped (v0 := v0) (v1 := (vI h v0 41)) (f0 := f0) T kv0 wM cc1 (zz_04d0698cec cc206 cc220) (zz_a57acd4686 cc206 cc220) (by clear ih; exact J cc1) ?_
                      intro r12i219 Tr12i219 gr12i219_0 gr12i219_1 gr12i219_2 gr12i219_3 gr12i219_4 gr12i219_5 gr12i219_6 gr12i219_7 gr12i219_8
                      have o221 : vA r12i219 (v0 + 20) (vI h v0 42) = vA h (v0 + 20) (vI h v0 42) := (by rw [gr12i219_1 (v0 + 20) (vI h v0 42) (g_Mo_42 T kv0).1 (by omega)])
                      have o222 := g_Mo_42 T kv0
                      have o223 := g_Mo_e20 T kv0 (vI h v0 42)
                      have o224 : vI r12i219 v0 3 = vI h v0 3 := (by rw [gr12i219_0 v0 3 (by omega)])
                      have o225 : vA r12i219 (v0 + 23) v1 = vA h (v0 + 23) v1 := (by rw [gr12i219_1 (v0 + 23) v1 q0 (by omega)])
                      have o226 : vA r12i219 (v0 + 31) v1 = vA h (v0 + 31) v1 := (by rw [gr12i219_1 (v0 + 31) v1 q0 (by omega)])
                      refine qk_mono (ih (v0) (v1) r12i219 Tr12i219 kv0 wM q0 q1 (by show v1 = (130 * vI r12i219 v0 42 + vA r12i219 (v0 + 20) (vI r12i219 v0 42)); have qc1 : vI r12i219 v0 42 = (vI h v0 42) := (by rw [gr12i219_0 v0 42 (by omega)]); rw [qc1]; exact zz_1cd0b996d1 o221 qq o222 o223) (by show vA r12i219 (v0 + 20) (vI r12i219 v0 42) ≤ 128; have qc1 : vI r12i219 v0 42 = (vI h v0 42) := (by rw [gr12i219_0 v0 42 (by omega)]); rw [qc1]; exact zz_766354e410 o221 pb) (zz_3547589d98 o224 gr12i219_4) (by show vI r12i219 v0 48 = 0 → vA r12i219 (v0 + 21) (vI r12i219 v0 42) ≤ vI r12i219 v0 41; have qc1 : vI r12i219 v0 42 = (vI h v0 42) := (by rw [gr12i219_0 v0 42 (by omega)]); rw [qc1]; exact zz_c52fc66c1a gr12i219_5) (by clear ih; intro bb; exact q_JM_eq (gr12i219_6 bb) (fun j j0 j1 => ⟨by rfl, by rfl⟩) rfl rfl rfl rfl (Or.inl rfl)) (zz_5a73c3e9c5 o225 ef) (zz_de47fbffb3 o226 cc31) (zz_0da4948674 gr12i219_7) (by show vA r12i219 (v0 + 21) (vI r12i219 v0 42) ≤ 241; have qc1 : vI r12i219 v0 42 = (vI h v0 42) := (by rw [gr12i219_0 v0 42 (by omega)]); rw [qc1]; exact zz_b5e1c3f4ab gr12i219_8) hN (zz_cf9a56694f hms hq1 gr12i219_4 ab cc1 hq2 hq3)) ?_
                      rintro ⟨y, hz⟩ ⟨Tz, g0, g1, g2, g3, g4, g5, g6, g7, g8, g9, g10, g11, g12⟩
                      try dsimp only at *
                      have qh42_g0 : vI r12i219 v0 42 = (vI h v0 42) := by rw [gr12i219_0 v0 42 (by omega)]
                      rw [qh42_g0] at g3
                      rw [qh42_g0] at g4
                      rw [qh42_g0] at g5
                      rw [qh42_g0] at g7
                      rw [qh42_g0] at g9
                      rw [qh42_g0] at g10
                      rw [qh42_g0] at g12
                      have o228 := g_Mo_e21 T kv0 (vI h v0 42)
                      have o229 := g_Mo_e21 Tr12i219 kv0 (vI h v0 42)
                      exact ⟨Tz, g0, (by clear ih; show ∀ a k, ¬ (a = v0 ∧ (k = 5 ∨ k = 46 ∨ k = 48 ∨ k = 50 ∨ k = 41 ∨ k = 44 ∨ k = 49 ∨ k = 45)) → vI hz a k = vI h a k; intro a k n0; rw [g1 a k (by omega), gr12i219_0 a k (by omega)]), (by clear ih; show ∀ a j, 0 ≤ j → ¬ (a = v0 + 21 ∨ a = v0 + 26 ∨ a = v0 + 27 ∨ a = v0 + 29 ∨ a = v0 + 24 ∨ a = v0 + 25 ∨ a = v0 + 31 ∨ a = v0 + 20) → vA hz a j = vA h a j; intro a j j0 n0; rw [g2 a j j0 (by omega), gr12i219_1 a j j0 (by omega)]), (by clear ih; show ∀ j, 0 ≤ j → j ≠ vI h v0 42 → vA hz (v0 + 21) j = vA h (v0 + 21) j; intro j j0 n0; rw [g3 j j0 n0, gr12i219_2 j j0 n0]), (by clear ih; show ∀ j, 0 ≤ j → (j < (260 * vI h v0 42 + vA h (v0 + 21) (vI h v0 42)) ∨ 260 * vI h v0 42 + 260 ≤ j) → vA hz (v0 + 26) j = vA h (v0 + 26) j ∧ vA hz (v0 + 27) j = vA h (v0 + 27) j; intro j j0 n0; exact ⟨(by rw [(g4 j j0 (zz_0e57fb70c4 gr12i219_8 n0 o222 o228 o229)).1, (gr12i219_3 j j0 (zz_f468153ada n0 o222 o228)).1]), (by rw [(g4 j j0 (zz_0e57fb70c4 gr12i219_8 n0 o222 o228 o229)).2, (gr12i219_3 j j0 (zz_f468153ada n0 o222 o228)).2])⟩), (by clear ih; show ∀ j, 0 ≤ j → j ≠ vI h v0 42 → vA hz (v0 + 20) j = vA h (v0 + 20) j; intro j j0 n0; rw [g5 j j0 n0, gr12i219_1 (v0 + 20) j j0 (by omega)]), (by clear ih; show ∀ j, 0 ≤ j → j ≠ v1 → vA hz (v0 + 23) j = vA h (v0 + 23) j ∧ vA hz (v0 + 24) j = vA h (v0 + 24) j ∧ vA hz (v0 + 25) j = vA h (v0 + 25) j; intro j j0 n0; exact ⟨(by rw [g2 (v0 + 23) j j0 (by omega), gr12i219_1 (v0 + 23) j j0 (by omega)]), (by rw [(g6 j j0 n0).2.1, gr12i219_1 (v0 + 24) j j0 (by omega)]), (by rw [(g6 j j0 n0).2.2, gr12i219_1 (v0 + 25) j j0 (by omega)])⟩), (zz_00b52b5978 o221 g7 o223), (zz_e051a1c329 gr12i219_7 g8 o224), (zz_c52fc66c1a g9), (by clear ih; show vI hz v0 48 = 0 → q_PM hz v0 v1 ∧ vA hz (v0 + 24) v1 = (260 * vI h v0 42 + vA hz (v0 + 21) (vI h v0 42)); exact g10), (zz_285027bacb gr12i219_7 g11), (zz_72aebe666a gr12i219_8 g12)⟩
                    · skip
                      refine qk_if (fun cc230 => ?_) (fun cc230 => ?_)
                      · skip
                        refine r_Mo_41 T kv0 ?_
                        intro x7i219 ex7i219 lx7i219 ux7i219
                        subst ex7i219
                        refine r_Mo_o T kv0 ?_
                        refine c_Mod_set (v0 := v0) (v1 := (vI h v0 41)) (f0 := f0) T kv0 wM cc1 (zz_af9a98756d cc206 cc230) (zz_64e4564fcd cc206 cc230) (by clear ih; exact J cc1) hN ?_
                        intro r9i219 Tr9i219 gr9i219_0 gr9i219_1 gr9i219_2 gr9i219_3 gr9i219_4 gr9i219_5 gr9i219_6 gr9i219_7 gr9i219_8
                        have o231 : vA r9i219 (v0 + 20) (vI h v0 42) = vA h (v0 + 20) (vI h v0 42) := (by rw [gr9i219_1 (v0 + 20) (vI h v0 42) (g_Mo_42 T kv0).1 (by omega)])
                        have o232 := g_Mo_42 T kv0
                        have o233 := g_Mo_e20 T kv0 (vI h v0 42)
                        have o234 : vI r9i219 v0 3 = vI h v0 3 := (by rw [gr9i219_0 v0 3 (by omega)])
                        have o235 : vA r9i219 (v0 + 23) v1 = vA h (v0 + 23) v1 := (by rw [gr9i219_1 (v0 + 23) v1 q0 (by omega)])
                        have o236 : vA r9i219 (v0 + 31) v1 = vA h (v0 + 31) v1 := (by rw [gr9i219_1 (v0 + 31) v1 q0 (by omega)])
                        refine qk_mono (ih (v0) (v1) r9i219 Tr9i219 kv0 wM q0 q1 (by show v1 = (130 * vI r9i219 v0 42 + vA r9i219 (v0 + 20) (vI r9i219 v0 42)); have qc1 : vI r9i219 v0 42 = (vI h v0 42) := (by rw [gr9i219_0 v0 42 (by omega)]); rw [qc1]; exact zz_1cd0b996d1 o231 qq o232 o233) (by show vA r9i219 (v0 + 20) (vI r9i219 v0 42) ≤ 128; have qc1 : vI r9i219 v0 42 = (vI h v0 42) := (by rw [gr9i219_0 v0 42 (by omega)]); rw [qc1]; exact zz_766354e410 o231 pb) (zz_3547589d98 o234 gr9i219_4) (by show vI r9i219 v0 48 = 0 → vA r9i219 (v0 + 21) (vI r9i219 v0 42) ≤ vI r9i219 v0 41; have qc1 : vI r9i219 v0 42 = (vI h v0 42) := (by rw [gr9i219_0 v0 42 (by omega)]); rw [qc1]; exact zz_c52fc66c1a gr9i219_5) (by clear ih; intro bb; exact q_JM_eq (gr9i219_6 bb) (fun j j0 j1 => ⟨by rfl, by rfl⟩) rfl rfl rfl rfl (Or.inl rfl)) (zz_5a73c3e9c5 o235 ef) (zz_de47fbffb3 o236 cc31) (zz_0da4948674 gr9i219_7) (by show vA r9i219 (v0 + 21) (vI r9i219 v0 42) ≤ 241; have qc1 : vI r9i219 v0 42 = (vI h v0 42) := (by rw [gr9i219_0 v0 42 (by omega)]); rw [qc1]; exact zz_b5e1c3f4ab gr9i219_8) hN (zz_cf9a56694f hms hq1 gr9i219_4 ab cc1 hq2 hq3)) ?_
                        rintro ⟨y, hz⟩ ⟨Tz, g0, g1, g2, g3, g4, g5, g6, g7, g8, g9, g10, g11, g12⟩
                        try dsimp only at *
                        have qh42_g0 : vI r9i219 v0 42 = (vI h v0 42) := by rw [gr9i219_0 v0 42 (by omega)]
                        rw [qh42_g0] at g3
                        rw [qh42_g0] at g4
                        rw [qh42_g0] at g5
                        rw [qh42_g0] at g7
                        rw [qh42_g0] at g9
                        rw [qh42_g0] at g10
                        rw [qh42_g0] at g12
                        have o238 := g_Mo_e21 T kv0 (vI h v0 42)
                        have o239 := g_Mo_e21 Tr9i219 kv0 (vI h v0 42)
                        exact ⟨Tz, g0, (by clear ih; show ∀ a k, ¬ (a = v0 ∧ (k = 5 ∨ k = 46 ∨ k = 48 ∨ k = 50 ∨ k = 41 ∨ k = 44 ∨ k = 49 ∨ k = 45)) → vI hz a k = vI h a k; intro a k n0; rw [g1 a k (by omega), gr9i219_0 a k (by omega)]), (by clear ih; show ∀ a j, 0 ≤ j → ¬ (a = v0 + 21 ∨ a = v0 + 26 ∨ a = v0 + 27 ∨ a = v0 + 29 ∨ a = v0 + 24 ∨ a = v0 + 25 ∨ a = v0 + 31 ∨ a = v0 + 20) → vA hz a j = vA h a j; intro a j j0 n0; rw [g2 a j j0 (by omega), gr9i219_1 a j j0 (by omega)]), (by clear ih; show ∀ j, 0 ≤ j → j ≠ vI h v0 42 → vA hz (v0 + 21) j = vA h (v0 + 21) j; intro j j0 n0; rw [g3 j j0 n0, gr9i219_2 j j0 n0]), (by clear ih; show ∀ j, 0 ≤ j → (j < (260 * vI h v0 42 + vA h (v0 + 21) (vI h v0 42)) ∨ 260 * vI h v0 42 + 260 ≤ j) → vA hz (v0 + 26) j = vA h (v0 + 26) j ∧ vA hz (v0 + 27) j = vA h (v0 + 27) j; intro j j0 n0; exact ⟨(by rw [(g4 j j0 (zz_0e57fb70c4 gr9i219_8 n0 o232 o238 o239)).1, (gr9i219_3 j j0 (zz_f468153ada n0 o232 o238)).1]), (by rw [(g4 j j0 (zz_0e57fb70c4 gr9i219_8 n0 o232 o238 o239)).2, (gr9i219_3 j j0 (zz_f468153ada n0 o232 o238)).2])⟩), (by clear ih; show ∀ j, 0 ≤ j → j ≠ vI h v0 42 → vA hz (v0 + 20) j = vA h (v0 + 20) j; intro j j0 n0; rw [g5 j j0 n0, gr9i219_1 (v0 + 20) j j0 (by omega)]), (by clear ih; show ∀ j, 0 ≤ j → j ≠ v1 → vA hz (v0 + 23) j = vA h (v0 + 23) j ∧ vA hz (v0 + 24) j = vA h (v0 + 24) j ∧ vA hz (v0 + 25) j = vA h (v0 + 25) j; intro j j0 n0; exact ⟨(by rw [g2 (v0 + 23) j j0 (by omega), gr9i219_1 (v0 + 23) j j0 (by omega)]), (by rw [(g6 j j0 n0).2.1, gr9i219_1 (v0 + 24) j j0 (by omega)]), (by rw [(g6 j j0 n0).2.2, gr9i219_1 (v0 + 25) j j0 (by omega)])⟩), (zz_00b52b5978 o231 g7 o233), (zz_e051a1c329 gr9i219_7 g8 o234), (zz_c52fc66c1a g9), (by clear ih; show vI hz v0 48 = 0 → q_PM hz v0 v1 ∧ vA hz (v0 + 24) v1 = (260 * vI h v0 42 + vA hz (v0 + 21) (vI h v0 42)); exact g10), (zz_285027bacb gr9i219_7 g11), (zz_72aebe666a gr9i219_8 g12)⟩
                      · skip
                        refine qk_if (fun cc240 => ?_) (fun cc240 => ?_)
                        · skip
                          refine r_Mo_o T kv0 ?_
                          refine c_Mod_star (v0 := v0) (f0 := f0) T kv0 wM cc1 (zz_ed98345f9a cc206 cc240) (zz_1364e13ed5 cc206 cc240) (by clear ih; exact J cc1) ?_
                          intro r6i219 Tr6i219 gr6i219_0 gr6i219_1 gr6i219_2 gr6i219_3 gr6i219_4 gr6i219_5 gr6i219_6 gr6i219_7 gr6i219_8
                          have o241 : vA r6i219 (v0 + 20) (vI h v0 42) = vA h (v0 + 20) (vI h v0 42) := (by rw [gr6i219_1 (v0 + 20) (vI h v0 42) (g_Mo_42 T kv0).1 (by omega)])
                          have o242 := g_Mo_42 T kv0
                          have o243 := g_Mo_e20 T kv0 (vI h v0 42)
                          have o244 : vI r6i219 v0 3 = vI h v0 3 := (by rw [gr6i219_0 v0 3 (by omega)])
                          have o245 : vA r6i219 (v0 + 23) v1 = vA h (v0 + 23) v1 := (by rw [gr6i219_1 (v0 + 23) v1 q0 (by omega)])
                          have o246 : vA r6i219 (v0 + 31) v1 = vA h (v0 + 31) v1 := (by rw [gr6i219_1 (v0 + 31) v1 q0 (by omega)])
                          refine qk_mono (ih (v0) (v1) r6i219 Tr6i219 kv0 wM q0 q1 (by show v1 = (130 * vI r6i219 v0 42 + vA r6i219 (v0 + 20) (vI r6i219 v0 42)); have qc1 : vI r6i219 v0 42 = (vI h v0 42) := (by rw [gr6i219_0 v0 42 (by omega)]); rw [qc1]; exact zz_1cd0b996d1 o241 qq o242 o243) (by show vA r6i219 (v0 + 20) (vI r6i219 v0 42) ≤ 128; have qc1 : vI r6i219 v0 42 = (vI h v0 42) := (by rw [gr6i219_0 v0 42 (by omega)]); rw [qc1]; exact zz_766354e410 o241 pb) (zz_3547589d98 o244 gr6i219_4) (by show vI r6i219 v0 48 = 0 → vA r6i219 (v0 + 21) (vI r6i219 v0 42) ≤ vI r6i219 v0 41; have qc1 : vI r6i219 v0 42 = (vI h v0 42) := (by rw [gr6i219_0 v0 42 (by omega)]); rw [qc1]; exact zz_c52fc66c1a gr6i219_5) (by clear ih; intro bb; exact q_JM_eq (gr6i219_6 bb) (fun j j0 j1 => ⟨by rfl, by rfl⟩) rfl rfl rfl rfl (Or.inl rfl)) (zz_5a73c3e9c5 o245 ef) (zz_de47fbffb3 o246 cc31) (zz_0da4948674 gr6i219_7) (by show vA r6i219 (v0 + 21) (vI r6i219 v0 42) ≤ 241; have qc1 : vI r6i219 v0 42 = (vI h v0 42) := (by rw [gr6i219_0 v0 42 (by omega)]); rw [qc1]; exact zz_b5e1c3f4ab gr6i219_8) hN (zz_cf9a56694f hms hq1 gr6i219_4 ab cc1 hq2 hq3)) ?_
                          rintro ⟨y, hz⟩ ⟨Tz, g0, g1, g2, g3, g4, g5, g6, g7, g8, g9, g10, g11, g12⟩
                          try dsimp only at *
                          have qh42_g0 : vI r6i219 v0 42 = (vI h v0 42) := by rw [gr6i219_0 v0 42 (by omega)]
                          rw [qh42_g0] at g3
                          rw [qh42_g0] at g4
                          rw [qh42_g0] at g5
                          rw [qh42_g0] at g7
                          rw [qh42_g0] at g9
                          rw [qh42_g0] at g10
                          rw [qh42_g0] at g12
                          have o248 := g_Mo_e21 T kv0 (vI h v0 42)
                          have o249 := g_Mo_e21 Tr6i219 kv0 (vI h v0 42)
                          exact ⟨Tz, g0, (by clear ih; show ∀ a k, ¬ (a = v0 ∧ (k = 5 ∨ k = 46 ∨ k = 48 ∨ k = 50 ∨ k = 41 ∨ k = 44 ∨ k = 49 ∨ k = 45)) → vI hz a k = vI h a k; intro a k n0; rw [g1 a k (by omega), gr6i219_0 a k (by omega)]), (by clear ih; show ∀ a j, 0 ≤ j → ¬ (a = v0 + 21 ∨ a = v0 + 26 ∨ a = v0 + 27 ∨ a = v0 + 29 ∨ a = v0 + 24 ∨ a = v0 + 25 ∨ a = v0 + 31 ∨ a = v0 + 20) → vA hz a j = vA h a j; intro a j j0 n0; rw [g2 a j j0 (by omega), gr6i219_1 a j j0 (by omega)]), (by clear ih; show ∀ j, 0 ≤ j → j ≠ vI h v0 42 → vA hz (v0 + 21) j = vA h (v0 + 21) j; intro j j0 n0; rw [g3 j j0 n0, gr6i219_2 j j0 n0]), (by clear ih; show ∀ j, 0 ≤ j → (j < (260 * vI h v0 42 + vA h (v0 + 21) (vI h v0 42)) ∨ 260 * vI h v0 42 + 260 ≤ j) → vA hz (v0 + 26) j = vA h (v0 + 26) j ∧ vA hz (v0 + 27) j = vA h (v0 + 27) j; intro j j0 n0; exact ⟨(by rw [(g4 j j0 (zz_0e57fb70c4 gr6i219_8 n0 o242 o248 o249)).1, (gr6i219_3 j j0 (zz_f468153ada n0 o242 o248)).1]), (by rw [(g4 j j0 (zz_0e57fb70c4 gr6i219_8 n0 o242 o248 o249)).2, (gr6i219_3 j j0 (zz_f468153ada n0 o242 o248)).2])⟩), (by clear ih; show ∀ j, 0 ≤ j → j ≠ vI h v0 42 → vA hz (v0 + 20) j = vA h (v0 + 20) j; intro j j0 n0; rw [g5 j j0 n0, gr6i219_1 (v0 + 20) j j0 (by omega)]), (by clear ih; show ∀ j, 0 ≤ j → j ≠ v1 → vA hz (v0 + 23) j = vA h (v0 + 23) j ∧ vA hz (v0 + 24) j = vA h (v0 + 24) j ∧ vA hz (v0 + 25) j = vA h (v0 + 25) j; intro j j0 n0; exact ⟨(by rw [g2 (v0 + 23) j j0 (by omega), gr6i219_1 (v0 + 23) j j0 (by omega)]), (by rw [(g6 j j0 n0).2.1, gr6i219_1 (v0 + 24) j j0 (by omega)]), (by rw [(g6 j j0 n0).2.2, gr6i219_1 (v0 + 25) j j0 (by omega)])⟩), (zz_00b52b5978 o241 g7 o243), (zz_e051a1c329 gr6i219_7 g8 o244), (zz_c52fc66c1a g9), (by clear ih; show vI hz v0 48 = 0 → q_PM hz v0 v1 ∧ vA hz (v0 + 24) v1 = (260 * vI h v0 42 + vA hz (v0 + 21) (vI h v0 42)); exact g10), (zz_285027bacb gr6i219_7 g11), (zz_72aebe666a gr6i219_8 g12)⟩
                        · skip
                          refine qk_if (fun cc250 => ?_) (fun cc250 => ?_)
                          · skip
                            unfold f_Mod_readPattern_296
                            refine r_Mo_41 T kv0 ?_
                            intro x1i251 ex1i251 lx1i251 ux1i251
                            subst ex1i251
                            refine r_Mo_o T kv0 ?_
                            refine c_Mod_addItem (v0 := v0) (v1 := 1) (v2 := (yr10)) (v3 := (vI h v0 41)) T kv0 wM cc1 (by decide) (by decide) (zz_633d7db2af ib) ?_
                            intro r3i251 Tr3i251 gr3i251_0 gr3i251_1 gr3i251_2 gr3i251_3 gr3i251_4 gr3i251_5
                            refine r_Mo_41 Tr3i251 kv0 ?_
                            intro x4i251 ex4i251 lx4i251 ux4i251
                            have sx4i251 : (vI h v0 41) = x4i251 := (ex4i251.trans (by rw [gr3i251_0 v0 41 (by omega)])).symm
                            subst sx4i251
                            have o252 := g_Mo_41 T kv0
                            refine w_Mo_41 Tr3i251 kv0 (wM _ (by omega) (by omega)) (zz_5664edf06b o252) (zz_c81e5df24d ab o252) ?_
                            intro h5i251 Th5i251 ih5i251 ah5i251
                            have o253 : vA h5i251 (v0 + 20) (vI h v0 42) = vA h (v0 + 20) (vI h v0 42) := (by rw [ah5i251 (v0 + 20) (vI h v0 42), gr3i251_1 (v0 + 20) (vI h v0 42) (g_Mo_42 T kv0).1 (by omega)])
                            have o254 := g_Mo_42 T kv0
                            have o255 := g_Mo_e20 T kv0 (vI h v0 42)
                            have o257 : vA h5i251 (v0 + 23) v1 = vA h (v0 + 23) v1 := (by rw [ah5i251 (v0 + 23) v1, gr3i251_1 (v0 + 23) v1 q0 (by omega)])
                            have o258 : vA h5i251 (v0 + 31) v1 = vA h (v0 + 31) v1 := (by rw [ah5i251 (v0 + 31) v1, gr3i251_1 (v0 + 31) v1 q0 (by omega)])
                            refine qk_mono (ih (v0) (v1) h5i251 Th5i251 kv0 wM q0 q1 (by show v1 = (130 * vI h5i251 v0 42 + vA h5i251 (v0 + 20) (vI h5i251 v0 42)); have qc1 : vI h5i251 v0 42 = (vI h v0 42) := (by rw [ih5i251 v0 42, if_neg (fun z => absurd z.2 (by decide)), gr3i251_0 v0 42 (by omega)]); rw [qc1]; exact zz_1cd0b996d1 o253 qq o254 o255) (by show vA h5i251 (v0 + 20) (vI h5i251 v0 42) ≤ 128; have qc1 : vI h5i251 v0 42 = (vI h v0 42) := (by rw [ih5i251 v0 42, if_neg (fun z => absurd z.2 (by decide)), gr3i251_0 v0 42 (by omega)]); rw [qc1]; exact zz_766354e410 o253 pb) (zz_e18ceb2b2e cc206 cc250) (by show vI h5i251 v0 48 = 0 → vA h5i251 (v0 + 21) (vI h5i251 v0 42) ≤ vI h5i251 v0 41; have qc1 : vI h5i251 v0 42 = (vI h v0 42) := (by rw [ih5i251 v0 42, if_neg (fun z => absurd z.2 (by decide)), gr3i251_0 v0 42 (by omega)]); rw [qc1]; exact zz_e18ceb2b2e cc206 cc250) (by clear ih; intro bb; have rg_half := g_Mo_42 T kv0; have re_items := g_Mo_e21 T kv0 (vI h v0 42); have z4 := gr3i251_4 (by show vI r3i251 v0 48 = 0; have o256 : vI h5i251 v0 48 = vI r3i251 v0 48 := (by rw [ih5i251 v0 48, if_neg (fun z => absurd z.2 (by decide))]); exact zz_24965f4b2c bb o256); exact q_JM_it (k := 1) (x := (yr10)) (J cc1) rg_half.1 rg_half.2 re_items.1 (zz_11d26c57a8 ib) (by rw [ih5i251 v0 42, if_neg (fun z => absurd z.2 (by decide)), gr3i251_0 v0 42 (by omega)]) (fun j j0 jn => ⟨by rw [ah5i251 (v0 + 26) j]; exact (gr3i251_3 j j0 jn).1, by rw [ah5i251 (v0 + 27) j]; exact (gr3i251_3 j j0 jn).2⟩) (by rw [ah5i251 (v0 + 26) (260 * vI h v0 42 + vA h (v0 + 21) (vI h v0 42))]; exact z4.1) (by rw [ah5i251 (v0 + 27) (260 * vI h v0 42 + vA h (v0 + 21) (vI h v0 42))]; exact z4.2.1) (by rw [ah5i251 (v0 + 21) (vI h v0 42)]; exact z4.2.2) (Or.inl ⟨by decide, (by rw [ih5i251 v0 44, if_neg (fun z => absurd z.2 (by decide)), gr3i251_0 v0 44 (by omega)]), (by rw [ih5i251 v0 49, if_neg (fun z => absurd z.2 (by decide)), gr3i251_0 v0 49 (by omega)])⟩)) (zz_5a73c3e9c5 o257 ef) (zz_de47fbffb3 o258 cc31) (zz_892db05e96 cc206 cc250) (by show vA h5i251 (v0 + 21) (vI h5i251 v0 42) ≤ 241; have qc1 : vI h5i251 v0 42 = (vI h v0 42) := (by rw [ih5i251 v0 42, if_neg (fun z => absurd z.2 (by decide)), gr3i251_0 v0 42 (by omega)]); rw [qc1]; exact zz_78aac04ab4 cc206 cc250) hN (zz_3b1ba46fbc cc206 cc250)) ?_
                            rintro ⟨y, hz⟩ ⟨Tz, g0, g1, g2, g3, g4, g5, g6, g7, g8, g9, g10, g11, g12⟩
                            try dsimp only at *
                            have qh42_g0 : vI h5i251 v0 42 = (vI h v0 42) := by rw [ih5i251 v0 42, if_neg (fun z => absurd z.2 (by decide)), gr3i251_0 v0 42 (by omega)]
                            rw [qh42_g0] at g3
                            rw [qh42_g0] at g4
                            rw [qh42_g0] at g5
                            rw [qh42_g0] at g7
                            rw [qh42_g0] at g9
                            rw [qh42_g0] at g10
                            rw [qh42_g0] at g12
                            have o261 := g_Mo_e21 T kv0 (vI h v0 42)
                            have o262 := g_Mo_e21 Tr3i251 kv0 (vI h v0 42)
                            have o264 : vI h5i251 v0 41 = (vI h v0 41) + 1 := (by rw [ih5i251 v0 41, if_pos ⟨rfl, rfl⟩])
                            have o265 : vI h5i251 v0 3 = vI h v0 3 := (by rw [ih5i251 v0 3, if_neg (fun z => absurd z.2 (by decide)), gr3i251_0 v0 3 (by omega)])
                            have o266 : vA h5i251 (v0 + 21) (vI h v0 42) = vA r3i251 (v0 + 21) (vI h v0 42) := (by rw [ah5i251 (v0 + 21) (vI h v0 42)])
                            exact ⟨Tz, g0, (by clear ih; show ∀ a k, ¬ (a = v0 ∧ (k = 5 ∨ k = 46 ∨ k = 48 ∨ k = 50 ∨ k = 41 ∨ k = 44 ∨ k = 49 ∨ k = 45)) → vI hz a k = vI h a k; intro a k n0; rw [g1 a k (by omega), ih5i251, if_neg (by omega), gr3i251_0 a k (by omega)]), (by clear ih; show ∀ a j, 0 ≤ j → ¬ (a = v0 + 21 ∨ a = v0 + 26 ∨ a = v0 + 27 ∨ a = v0 + 29 ∨ a = v0 + 24 ∨ a = v0 + 25 ∨ a = v0 + 31 ∨ a = v0 + 20) → vA hz a j = vA h a j; intro a j j0 n0; rw [g2 a j j0 (by omega), ah5i251, gr3i251_1 a j j0 (by omega)]), (by clear ih; show ∀ j, 0 ≤ j → j ≠ vI h v0 42 → vA hz (v0 + 21) j = vA h (v0 + 21) j; intro j j0 n0; rw [g3 j j0 n0, ah5i251 (v0 + 21) j, gr3i251_2 j j0 n0]), (by clear ih; show ∀ j, 0 ≤ j → (j < (260 * vI h v0 42 + vA h (v0 + 21) (vI h v0 42)) ∨ 260 * vI h v0 42 + 260 ≤ j) → vA hz (v0 + 26) j = vA h (v0 + 26) j ∧ vA hz (v0 + 27) j = vA h (v0 + 27) j; intro j j0 n0; exact ⟨(by rw [(g4 j j0 (by show (j < (260 * (vI h v0 42) + vA h5i251 (v0 + 21) (vI h v0 42)) ∨ 260 * (vI h v0 42) + 260 ≤ j); have o260 : vA h5i251 (v0 + 21) (vI h v0 42) = vA r3i251 (v0 + 21) (vI h v0 42) := (by rw [ah5i251 (v0 + 21) (vI h v0 42)]); exact zz_260df0df9b o260 gr3i251_4 gr3i251_5 n0 o254 o261 o262)).1, ah5i251 (v0 + 26) j, (gr3i251_3 j j0 (zz_ebfb0d8f28 ib n0 o254 o261)).1]), (by rw [(g4 j j0 (by show (j < (260 * (vI h v0 42) + vA h5i251 (v0 + 21) (vI h v0 42)) ∨ 260 * (vI h v0 42) + 260 ≤ j); have o263 : vA h5i251 (v0 + 21) (vI h v0 42) = vA r3i251 (v0 + 21) (vI h v0 42) := (by rw [ah5i251 (v0 + 21) (vI h v0 42)]); exact zz_260df0df9b o263 gr3i251_4 gr3i251_5 n0 o254 o261 o262)).2, ah5i251 (v0 + 27) j, (gr3i251_3 j j0 (zz_ebfb0d8f28 ib n0 o254 o261)).2])⟩), (by clear ih; show ∀ j, 0 ≤ j → j ≠ vI h v0 42 → vA hz (v0 + 20) j = vA h (v0 + 20) j; intro j j0 n0; rw [g5 j j0 n0, ah5i251 (v0 + 20) j, gr3i251_1 (v0 + 20) j j0 (by omega)]), (by clear ih; show ∀ j, 0 ≤ j → j ≠ v1 → vA hz (v0 + 23) j = vA h (v0 + 23) j ∧ vA hz (v0 + 24) j = vA h (v0 + 24) j ∧ vA hz (v0 + 25) j = vA h (v0 + 25) j; intro j j0 n0; exact ⟨(by rw [g2 (v0 + 23) j j0 (by omega), ah5i251 (v0 + 23) j, gr3i251_1 (v0 + 23) j j0 (by omega)]), (by rw [(g6 j j0 n0).2.1, ah5i251 (v0 + 24) j, gr3i251_1 (v0 + 24) j j0 (by omega)]), (by rw [(g6 j j0 n0).2.2, ah5i251 (v0 + 25) j, gr3i251_1 (v0 + 25) j j0 (by omega)])⟩), (zz_00b52b5978 o253 g7 o255), (zz_a5143cc316 g8 o264 o265 o252), (zz_c52fc66c1a g9), (by clear ih; show vI hz v0 48 = 0 → q_PM hz v0 v1 ∧ vA hz (v0 + 24) v1 = (260 * vI h v0 42 + vA hz (v0 + 21) (vI h v0 42)); exact g10), (zz_b8fccb5cff o264 g11 o252), (zz_1ef23b8398 gr3i251_4 gr3i251_5 g12 o266 o261)⟩
                          · skip
                            unfold f_Mod_readPattern_296
                            refine r_Mo_41 T kv0 ?_
                            intro x1i267 ex1i267 lx1i267 ux1i267
                            subst ex1i267
                            refine r_Mo_o T kv0 ?_
                            refine c_Mod_addItem (v0 := v0) (v1 := 0) (v2 := (yr10)) (v3 := (vI h v0 41)) T kv0 wM cc1 (by decide) (by decide) (zz_633d7db2af ib) ?_
                            intro r3i267 Tr3i267 gr3i267_0 gr3i267_1 gr3i267_2 gr3i267_3 gr3i267_4 gr3i267_5
                            refine r_Mo_41 Tr3i267 kv0 ?_
                            intro x4i267 ex4i267 lx4i267 ux4i267
                            have sx4i267 : (vI h v0 41) = x4i267 := (ex4i267.trans (by rw [gr3i267_0 v0 41 (by omega)])).symm
                            subst sx4i267
                            have o268 := g_Mo_41 T kv0
                            refine w_Mo_41 Tr3i267 kv0 (wM _ (by omega) (by omega)) (zz_5664edf06b o268) (zz_c81e5df24d ab o268) ?_
                            intro h5i267 Th5i267 ih5i267 ah5i267
                            have o269 : vA h5i267 (v0 + 20) (vI h v0 42) = vA h (v0 + 20) (vI h v0 42) := (by rw [ah5i267 (v0 + 20) (vI h v0 42), gr3i267_1 (v0 + 20) (vI h v0 42) (g_Mo_42 T kv0).1 (by omega)])
                            have o270 := g_Mo_42 T kv0
                            have o271 := g_Mo_e20 T kv0 (vI h v0 42)
                            have o272 : vI h5i267 v0 41 = (vI h v0 41) + 1 := (by rw [ih5i267 v0 41, if_pos ⟨rfl, rfl⟩])
                            have o273 : vI h5i267 v0 3 = vI h v0 3 := (by rw [ih5i267 v0 3, if_neg (fun z => absurd z.2 (by decide)), gr3i267_0 v0 3 (by omega)])
                            have o275 : vA h5i267 (v0 + 23) v1 = vA h (v0 + 23) v1 := (by rw [ah5i267 (v0 + 23) v1, gr3i267_1 (v0 + 23) v1 q0 (by omega)])
                            have o276 : vA h5i267 (v0 + 31) v1 = vA h (v0 + 31) v1 := (by rw [ah5i267 (v0 + 31) v1, gr3i267_1 (v0 + 31) v1 q0 (by omega)])
                            have o277 := g_Mo_3 T kv0
                            refine qk_mono (ih (v0) (v1) h5i267 Th5i267 kv0 wM q0 q1 (by show v1 = (130 * vI h5i267 v0 42 + vA h5i267 (v0 + 20) (vI h5i267 v0 42)); have qc1 : vI h5i267 v0 42 = (vI h v0 42) := (by rw [ih5i267 v0 42, if_neg (fun z => absurd z.2 (by decide)), gr3i267_0 v0 42 (by omega)]); rw [qc1]; exact zz_1cd0b996d1 o269 qq o270 o271) (by show vA h5i267 (v0 + 20) (vI h5i267 v0 42) ≤ 128; have qc1 : vI h5i267 v0 42 = (vI h v0 42) := (by rw [ih5i267 v0 42, if_neg (fun z => absurd z.2 (by decide)), gr3i267_0 v0 42 (by omega)]); rw [qc1]; exact zz_766354e410 o269 pb) (zz_5373ca5f81 o272 o273 gr10_2 cc206 o268) (by show vI h5i267 v0 48 = 0 → vA h5i267 (v0 + 21) (vI h5i267 v0 42) ≤ vI h5i267 v0 41; have qc1 : vI h5i267 v0 42 = (vI h v0 42) := (by rw [ih5i267 v0 42, if_neg (fun z => absurd z.2 (by decide)), gr3i267_0 v0 42 (by omega)]); rw [qc1]; exact zz_5192de2dd1 cc52 cc206) (by clear ih; intro bb; have rg_half := g_Mo_42 T kv0; have re_items := g_Mo_e21 T kv0 (vI h v0 42); have z4 := gr3i267_4 (by show vI r3i267 v0 48 = 0; have o274 : vI h5i267 v0 48 = vI r3i267 v0 48 := (by rw [ih5i267 v0 48, if_neg (fun z => absurd z.2 (by decide))]); exact zz_24965f4b2c bb o274); exact q_JM_it (k := 0) (x := (yr10)) (J cc1) rg_half.1 rg_half.2 re_items.1 (zz_11d26c57a8 ib) (by rw [ih5i267 v0 42, if_neg (fun z => absurd z.2 (by decide)), gr3i267_0 v0 42 (by omega)]) (fun j j0 jn => ⟨by rw [ah5i267 (v0 + 26) j]; exact (gr3i267_3 j j0 jn).1, by rw [ah5i267 (v0 + 27) j]; exact (gr3i267_3 j j0 jn).2⟩) (by rw [ah5i267 (v0 + 26) (260 * vI h v0 42 + vA h (v0 + 21) (vI h v0 42))]; exact z4.1) (by rw [ah5i267 (v0 + 27) (260 * vI h v0 42 + vA h (v0 + 21) (vI h v0 42))]; exact z4.2.1) (by rw [ah5i267 (v0 + 21) (vI h v0 42)]; exact z4.2.2) (Or.inl ⟨by decide, (by rw [ih5i267 v0 44, if_neg (fun z => absurd z.2 (by decide)), gr3i267_0 v0 44 (by omega)]), (by rw [ih5i267 v0 49, if_neg (fun z => absurd z.2 (by decide)), gr3i267_0 v0 49 (by omega)])⟩)) (zz_5a73c3e9c5 o275 ef) (zz_de47fbffb3 o276 cc31) (zz_49fd61fcc2 o272 o277 gr10_2 cc206 o268) (by show vA h5i267 (v0 + 21) (vI h5i267 v0 42) ≤ 241; have qc1 : vI h5i267 v0 42 = (vI h v0 42) := (by rw [ih5i267 v0 42, if_neg (fun z => absurd z.2 (by decide)), gr3i267_0 v0 42 (by omega)]); rw [qc1]; exact zz_dff2d80c5c cc52 cc206) hN (zz_924c8df84b cc52 cc206)) ?_
                            rintro ⟨y, hz⟩ ⟨Tz, g0, g1, g2, g3, g4, g5, g6, g7, g8, g9, g10, g11, g12⟩
                            try dsimp only at *
                            have qh42_g0 : vI h5i267 v0 42 = (vI h v0 42) := by rw [ih5i267 v0 42, if_neg (fun z => absurd z.2 (by decide)), gr3i267_0 v0 42 (by omega)]
                            rw [qh42_g0] at g3
                            rw [qh42_g0] at g4
                            rw [qh42_g0] at g5
                            rw [qh42_g0] at g7
                            rw [qh42_g0] at g9
                            rw [qh42_g0] at g10
                            rw [qh42_g0] at g12
                            have o280 := g_Mo_e21 T kv0 (vI h v0 42)
                            have o281 := g_Mo_e21 Tr3i267 kv0 (vI h v0 42)
                            have o283 : vA h5i267 (v0 + 21) (vI h v0 42) = vA r3i267 (v0 + 21) (vI h v0 42) := (by rw [ah5i267 (v0 + 21) (vI h v0 42)])
                            exact ⟨Tz, g0, (by clear ih; show ∀ a k, ¬ (a = v0 ∧ (k = 5 ∨ k = 46 ∨ k = 48 ∨ k = 50 ∨ k = 41 ∨ k = 44 ∨ k = 49 ∨ k = 45)) → vI hz a k = vI h a k; intro a k n0; rw [g1 a k (by omega), ih5i267, if_neg (by omega), gr3i267_0 a k (by omega)]), (by clear ih; show ∀ a j, 0 ≤ j → ¬ (a = v0 + 21 ∨ a = v0 + 26 ∨ a = v0 + 27 ∨ a = v0 + 29 ∨ a = v0 + 24 ∨ a = v0 + 25 ∨ a = v0 + 31 ∨ a = v0 + 20) → vA hz a j = vA h a j; intro a j j0 n0; rw [g2 a j j0 (by omega), ah5i267, gr3i267_1 a j j0 (by omega)]), (by clear ih; show ∀ j, 0 ≤ j → j ≠ vI h v0 42 → vA hz (v0 + 21) j = vA h (v0 + 21) j; intro j j0 n0; rw [g3 j j0 n0, ah5i267 (v0 + 21) j, gr3i267_2 j j0 n0]), (by clear ih; show ∀ j, 0 ≤ j → (j < (260 * vI h v0 42 + vA h (v0 + 21) (vI h v0 42)) ∨ 260 * vI h v0 42 + 260 ≤ j) → vA hz (v0 + 26) j = vA h (v0 + 26) j ∧ vA hz (v0 + 27) j = vA h (v0 + 27) j; intro j j0 n0; exact ⟨(by rw [(g4 j j0 (by show (j < (260 * (vI h v0 42) + vA h5i267 (v0 + 21) (vI h v0 42)) ∨ 260 * (vI h v0 42) + 260 ≤ j); have o279 : vA h5i267 (v0 + 21) (vI h v0 42) = vA r3i267 (v0 + 21) (vI h v0 42) := (by rw [ah5i267 (v0 + 21) (vI h v0 42)]); exact zz_5913666c7d o279 gr3i267_4 gr3i267_5 n0 o270 o280 o281)).1, ah5i267 (v0 + 26) j, (gr3i267_3 j j0 (zz_ebfb0d8f28 ib n0 o270 o280)).1]), (by rw [(g4 j j0 (by show (j < (260 * (vI h v0 42) + vA h5i267 (v0 + 21) (vI h v0 42)) ∨ 260 * (vI h v0 42) + 260 ≤ j); have o282 : vA h5i267 (v0 + 21) (vI h v0 42) = vA r3i267 (v0 + 21) (vI h v0 42) := (by rw [ah5i267 (v0 + 21) (vI h v0 42)]); exact zz_5913666c7d o282 gr3i267_4 gr3i267_5 n0 o270 o280 o281)).2, ah5i267 (v0 + 27) j, (gr3i267_3 j j0 (zz_ebfb0d8f28 ib n0 o270 o280)).2])⟩), (by clear ih; show ∀ j, 0 ≤ j → j ≠ vI h v0 42 → vA hz (v0 + 20) j = vA h (v0 + 20) j; intro j j0 n0; rw [g5 j j0 n0, ah5i267 (v0 + 20) j, gr3i267_1 (v0 + 20) j j0 (by omega)]), (by clear ih; show ∀ j, 0 ≤ j → j ≠ v1 → vA hz (v0 + 23) j = vA h (v0 + 23) j ∧ vA hz (v0 + 24) j = vA h (v0 + 24) j ∧ vA hz (v0 + 25) j = vA h (v0 + 25) j; intro j j0 n0; exact ⟨(by rw [g2 (v0 + 23) j j0 (by omega), ah5i267 (v0 + 23) j, gr3i267_1 (v0 + 23) j j0 (by omega)]), (by rw [(g6 j j0 n0).2.1, ah5i267 (v0 + 24) j, gr3i267_1 (v0 + 24) j j0 (by omega)]), (by rw [(g6 j j0 n0).2.2, ah5i267 (v0 + 25) j, gr3i267_1 (v0 + 25) j j0 (by omega)])⟩), (zz_00b52b5978 o269 g7 o271), (zz_a5143cc316 g8 o272 o273 o268), (zz_c52fc66c1a g9), (by clear ih; show vI hz v0 48 = 0 → q_PM hz v0 v1 ∧ vA hz (v0 + 24) v1 = (260 * vI h v0 42 + vA hz (v0 + 21) (vI h v0 42)); exact g10), (zz_b8fccb5cff o272 g11 o268), (zz_a923bf6e82 gr3i267_4 gr3i267_5 g12 o283 o280)⟩
                · skip
                  unfold f_Mod_readPattern_237
                  refine qk_if (fun cc285 => ?_) (fun cc285 => ?_)
                  · skip
                    refine r_Mo_41 T kv0 ?_
                    intro x10i284 ex10i284 lx10i284 ux10i284
                    subst ex10i284
                    refine r_Mo_o T kv0 ?_
                    refine c_Mod_escaped (v0 := v0) (v1 := (vI h v0 41)) (f0 := f0) T kv0 wM cc1 (zz_cc568fcafe gr10_2 cc285) (zz_3595f2c5ab hi cc1) (by clear ih; exact J cc1) ?_
                    intro r12i284 Tr12i284 gr12i284_0 gr12i284_1 gr12i284_2 gr12i284_3 gr12i284_4 gr12i284_5 gr12i284_6 gr12i284_7 gr12i284_8
                    have o286 : vA r12i284 (v0 + 20) (vI h v0 42) = vA h (v0 + 20) (vI h v0 42) := (by rw [gr12i284_1 (v0 + 20) (vI h v0 42) (g_Mo_42 T kv0).1 (by omega)])
                    have o287 := g_Mo_42 T kv0
                    have o288 := g_Mo_e20 T kv0 (vI h v0 42)
                    have o289 : vI r12i284 v0 3 = vI h v0 3 := (by rw [gr12i284_0 v0 3 (by omega)])
                    have o290 : vA r12i284 (v0 + 23) v1 = vA h (v0 + 23) v1 := (by rw [gr12i284_1 (v0 + 23) v1 q0 (by omega)])
                    have o291 : vA r12i284 (v0 + 31) v1 = vA h (v0 + 31) v1 := (by rw [gr12i284_1 (v0 + 31) v1 q0 (by omega)])
                    refine qk_mono (ih (v0) (v1) r12i284 Tr12i284 kv0 wM q0 q1 (by show v1 = (130 * vI r12i284 v0 42 + vA r12i284 (v0 + 20) (vI r12i284 v0 42)); have qc1 : vI r12i284 v0 42 = (vI h v0 42) := (by rw [gr12i284_0 v0 42 (by omega)]); rw [qc1]; exact zz_1cd0b996d1 o286 qq o287 o288) (by show vA r12i284 (v0 + 20) (vI r12i284 v0 42) ≤ 128; have qc1 : vI r12i284 v0 42 = (vI h v0 42) := (by rw [gr12i284_0 v0 42 (by omega)]); rw [qc1]; exact zz_766354e410 o286 pb) (zz_3547589d98 o289 gr12i284_4) (by show vI r12i284 v0 48 = 0 → vA r12i284 (v0 + 21) (vI r12i284 v0 42) ≤ vI r12i284 v0 41; have qc1 : vI r12i284 v0 42 = (vI h v0 42) := (by rw [gr12i284_0 v0 42 (by omega)]); rw [qc1]; exact zz_c52fc66c1a gr12i284_5) (by clear ih; intro bb; exact q_JM_eq (gr12i284_6 bb) (fun j j0 j1 => ⟨by rfl, by rfl⟩) rfl rfl rfl rfl (Or.inl rfl)) (zz_5a73c3e9c5 o290 ef) (zz_de47fbffb3 o291 cc31) (zz_0da4948674 gr12i284_7) (by show vA r12i284 (v0 + 21) (vI r12i284 v0 42) ≤ 241; have qc1 : vI r12i284 v0 42 = (vI h v0 42) := (by rw [gr12i284_0 v0 42 (by omega)]); rw [qc1]; exact zz_b5e1c3f4ab gr12i284_8) hN (zz_cf9a56694f hms hq1 gr12i284_4 ab cc1 hq2 hq3)) ?_
                    rintro ⟨y, hz⟩ ⟨Tz, g0, g1, g2, g3, g4, g5, g6, g7, g8, g9, g10, g11, g12⟩
                    try dsimp only at *
                    have qh42_g0 : vI r12i284 v0 42 = (vI h v0 42) := by rw [gr12i284_0 v0 42 (by omega)]
                    rw [qh42_g0] at g3
                    rw [qh42_g0] at g4
                    rw [qh42_g0] at g5
                    rw [qh42_g0] at g7
                    rw [qh42_g0] at g9
                    rw [qh42_g0] at g10
                    rw [qh42_g0] at g12
                    have o293 := g_Mo_e21 T kv0 (vI h v0 42)
                    have o294 := g_Mo_e21 Tr12i284 kv0 (vI h v0 42)
                    exact ⟨Tz, g0, (by clear ih; show ∀ a k, ¬ (a = v0 ∧ (k = 5 ∨ k = 46 ∨ k = 48 ∨ k = 50 ∨ k = 41 ∨ k = 44 ∨ k = 49 ∨ k = 45)) → vI hz a k = vI h a k; intro a k n0; rw [g1 a k (by omega), gr12i284_0 a k (by omega)]), (by clear ih; show ∀ a j, 0 ≤ j → ¬ (a = v0 + 21 ∨ a = v0 + 26 ∨ a = v0 + 27 ∨ a = v0 + 29 ∨ a = v0 + 24 ∨ a = v0 + 25 ∨ a = v0 + 31 ∨ a = v0 + 20) → vA hz a j = vA h a j; intro a j j0 n0; rw [g2 a j j0 (by omega), gr12i284_1 a j j0 (by omega)]), (by clear ih; show ∀ j, 0 ≤ j → j ≠ vI h v0 42 → vA hz (v0 + 21) j = vA h (v0 + 21) j; intro j j0 n0; rw [g3 j j0 n0, gr12i284_2 j j0 n0]), (by clear ih; show ∀ j, 0 ≤ j → (j < (260 * vI h v0 42 + vA h (v0 + 21) (vI h v0 42)) ∨ 260 * vI h v0 42 + 260 ≤ j) → vA hz (v0 + 26) j = vA h (v0 + 26) j ∧ vA hz (v0 + 27) j = vA h (v0 + 27) j; intro j j0 n0; exact ⟨(by rw [(g4 j j0 (zz_0e57fb70c4 gr12i284_8 n0 o287 o293 o294)).1, (gr12i284_3 j j0 (zz_f468153ada n0 o287 o293)).1]), (by rw [(g4 j j0 (zz_0e57fb70c4 gr12i284_8 n0 o287 o293 o294)).2, (gr12i284_3 j j0 (zz_f468153ada n0 o287 o293)).2])⟩), (by clear ih; show ∀ j, 0 ≤ j → j ≠ vI h v0 42 → vA hz (v0 + 20) j = vA h (v0 + 20) j; intro j j0 n0; rw [g5 j j0 n0, gr12i284_1 (v0 + 20) j j0 (by omega)]), (by clear ih; show ∀ j, 0 ≤ j → j ≠ v1 → vA hz (v0 + 23) j = vA h (v0 + 23) j ∧ vA hz (v0 + 24) j = vA h (v0 + 24) j ∧ vA hz (v0 + 25) j = vA h (v0 + 25) j; intro j j0 n0; exact ⟨(by rw [g2 (v0 + 23) j j0 (by omega), gr12i284_1 (v0 + 23) j j0 (by omega)]), (by rw [(g6 j j0 n0).2.1, gr12i284_1 (v0 + 24) j j0 (by omega)]), (by rw [(g6 j j0 n0).2.2, gr12i284_1 (v0 + 25) j j0 (by omega)])⟩), (zz_00b52b5978 o286 g7 o288), (zz_e051a1c329 gr12i284_7 g8 o289), (zz_c52fc66c1a g9), (by clear ih; show vI hz v0 48 = 0 → q_PM hz v0 v1 ∧ vA hz (v0 + 24) v1 = (260 * vI h v0 42 + vA hz (v0 + 21) (vI h v0 42)); exact g10), (zz_285027bacb gr12i284_7 g11), (zz_72aebe666a gr12i284_8 g12)⟩
                  · skip
                    refine qk_if (fun cc295 => ?_) (fun cc295 => ?_)
                    · skip
                      refine r_Mo_41 T kv0 ?_
                      intro x7i284 ex7i284 lx7i284 ux7i284
                      subst ex7i284
                      refine r_Mo_o T kv0 ?_
                      refine c_Mod_set (v0 := v0) (v1 := (vI h v0 41)) (f0 := f0) T kv0 wM cc1 (zz_4308f862fb gr10_2 cc295) (zz_3595f2c5ab hi cc1) (by clear ih; exact J cc1) hN ?_
                      intro r9i284 Tr9i284 gr9i284_0 gr9i284_1 gr9i284_2 gr9i284_3 gr9i284_4 gr9i284_5 gr9i284_6 gr9i284_7 gr9i284_8
                      have o296 : vA r9i284 (v0 + 20) (vI h v0 42) = vA h (v0 + 20) (vI h v0 42) := (by rw [gr9i284_1 (v0 + 20) (vI h v0 42) (g_Mo_42 T kv0).1 (by omega)])
                      have o297 := g_Mo_42 T kv0
                      have o298 := g_Mo_e20 T kv0 (vI h v0 42)
                      have o299 : vI r9i284 v0 3 = vI h v0 3 := (by rw [gr9i284_0 v0 3 (by omega)])
                      have o300 : vA r9i284 (v0 + 23) v1 = vA h (v0 + 23) v1 := (by rw [gr9i284_1 (v0 + 23) v1 q0 (by omega)])
                      have o301 : vA r9i284 (v0 + 31) v1 = vA h (v0 + 31) v1 := (by rw [gr9i284_1 (v0 + 31) v1 q0 (by omega)])
                      refine qk_mono (ih (v0) (v1) r9i284 Tr9i284 kv0 wM q0 q1 (by show v1 = (130 * vI r9i284 v0 42 + vA r9i284 (v0 + 20) (vI r9i284 v0 42)); have qc1 : vI r9i284 v0 42 = (vI h v0 42) := (by rw [gr9i284_0 v0 42 (by omega)]); rw [qc1]; exact zz_1cd0b996d1 o296 qq o297 o298) (by show vA r9i284 (v0 + 20) (vI r9i284 v0 42) ≤ 128; have qc1 : vI r9i284 v0 42 = (vI h v0 42) := (by rw [gr9i284_0 v0 42 (by omega)]); rw [qc1]; exact zz_766354e410 o296 pb) (zz_3547589d98 o299 gr9i284_4) (by show vI r9i284 v0 48 = 0 → vA r9i284 (v0 + 21) (vI r9i284 v0 42) ≤ vI r9i284 v0 41; have qc1 : vI r9i284 v0 42 = (vI h v0 42) := (by rw [gr9i284_0 v0 42 (by omega)]); rw [qc1]; exact zz_c52fc66c1a gr9i284_5) (by clear ih; intro bb; exact q_JM_eq (gr9i284_6 bb) (fun j j0 j1 => ⟨by rfl, by rfl⟩) rfl rfl rfl rfl (Or.inl rfl)) (zz_5a73c3e9c5 o300 ef) (zz_de47fbffb3 o301 cc31) (zz_0da4948674 gr9i284_7) (by show vA r9i284 (v0 + 21) (vI r9i284 v0 42) ≤ 241; have qc1 : vI r9i284 v0 42 = (vI h v0 42) := (by rw [gr9i284_0 v0 42 (by omega)]); rw [qc1]; exact zz_b5e1c3f4ab gr9i284_8) hN (zz_cf9a56694f hms hq1 gr9i284_4 ab cc1 hq2 hq3)) ?_
                      rintro ⟨y, hz⟩ ⟨Tz, g0, g1, g2, g3, g4, g5, g6, g7, g8, g9, g10, g11, g12⟩
                      try dsimp only at *
                      have qh42_g0 : vI r9i284 v0 42 = (vI h v0 42) := by rw [gr9i284_0 v0 42 (by omega)]
                      rw [qh42_g0] at g3
                      rw [qh42_g0] at g4
                      rw [qh42_g0] at g5
                      rw [qh42_g0] at g7
                      rw [qh42_g0] at g9
                      rw [qh42_g0] at g10
                      rw [qh42_g0] at g12
                      have o303 := g_Mo_e21 T kv0 (vI h v0 42)
                      have o304 := g_Mo_e21 Tr9i284 kv0 (vI h v0 42)
                      exact ⟨Tz, g0, (by clear ih; show ∀ a k, ¬ (a = v0 ∧ (k = 5 ∨ k = 46 ∨ k = 48 ∨ k = 50 ∨ k = 41 ∨ k = 44 ∨ k = 49 ∨ k = 45)) → vI hz a k = vI h a k; intro a k n0; rw [g1 a k (by omega), gr9i284_0 a k (by omega)]), (by clear ih; show ∀ a j, 0 ≤ j → ¬ (a = v0 + 21 ∨ a = v0 + 26 ∨ a = v0 + 27 ∨ a = v0 + 29 ∨ a = v0 + 24 ∨ a = v0 + 25 ∨ a = v0 + 31 ∨ a = v0 + 20) → vA hz a j = vA h a j; intro a j j0 n0; rw [g2 a j j0 (by omega), gr9i284_1 a j j0 (by omega)]), (by clear ih; show ∀ j, 0 ≤ j → j ≠ vI h v0 42 → vA hz (v0 + 21) j = vA h (v0 + 21) j; intro j j0 n0; rw [g3 j j0 n0, gr9i284_2 j j0 n0]), (by clear ih; show ∀ j, 0 ≤ j → (j < (260 * vI h v0 42 + vA h (v0 + 21) (vI h v0 42)) ∨ 260 * vI h v0 42 + 260 ≤ j) → vA hz (v0 + 26) j = vA h (v0 + 26) j ∧ vA hz (v0 + 27) j = vA h (v0 + 27) j; intro j j0 n0; exact ⟨(by rw [(g4 j j0 (zz_0e57fb70c4 gr9i284_8 n0 o297 o303 o304)).1, (gr9i284_3 j j0 (zz_f468153ada n0 o297 o303)).1]), (by rw [(g4 j j0 (zz_0e57fb70c4 gr9i284_8 n0 o297 o303 o304)).2, (gr9i284_3 j j0 (zz_f468153ada n0 o297 o303)).2])⟩), (by clear ih; show ∀ j, 0 ≤ j → j ≠ vI h v0 42 → vA hz (v0 + 20) j = vA h (v0 + 20) j; intro j j0 n0; rw [g5 j j0 n0, gr9i284_1 (v0 + 20) j j0 (by omega)]), (by clear ih; show ∀ j, 0 ≤ j → j ≠ v1 → vA hz (v0 + 23) j = vA h (v0 + 23) j ∧ vA hz (v0 + 24) j = vA h (v0 + 24) j ∧ vA hz (v0 + 25) j = vA h (v0 + 25) j; intro j j0 n0; exact ⟨(by rw [g2 (v0 + 23) j j0 (by omega), gr9i284_1 (v0 + 23) j j0 (by omega)]), (by rw [(g6 j j0 n0).2.1, gr9i284_1 (v0 + 24) j j0 (by omega)]), (by rw [(g6 j j0 n0).2.2, gr9i284_1 (v0 + 25) j j0 (by omega)])⟩), (zz_00b52b5978 o296 g7 o298), (zz_e051a1c329 gr9i284_7 g8 o299), (zz_c52fc66c1a g9), (by clear ih; show vI hz v0 48 = 0 → q_PM hz v0 v1 ∧ vA hz (v0 + 24) v1 = (260 * vI h v0 42 + vA hz (v0 + 21) (vI h v0 42)); exact g10), (zz_285027bacb gr9i284_7 g11), (zz_72aebe666a gr9i284_8 g12)⟩
                    · skip
                      refine qk_if (fun cc305 => ?_) (fun cc305 => ?_)
                      · skip
                        refine r_Mo_o T kv0 ?_
                        refine c_Mod_star (v0 := v0) (f0 := f0) T kv0 wM cc1 (zz_4a93c6b2f4 gr10_2 cc305) (zz_3595f2c5ab hi cc1) (by clear ih; exact J cc1) ?_
                        intro r6i284 Tr6i284 gr6i284_0 gr6i284_1 gr6i284_2 gr6i284_3 gr6i284_4 gr6i284_5 gr6i284_6 gr6i284_7 gr6i284_8
                        have o306 : vA r6i284 (v0 + 20) (vI h v0 42) = vA h (v0 + 20) (vI h v0 42) := (by rw [gr6i284_1 (v0 + 20) (vI h v0 42) (g_Mo_42 T kv0).1 (by omega)])
                        have o307 := g_Mo_42 T kv0
                        have o308 := g_Mo_e20 T kv0 (vI h v0 42)
                        have o309 : vI r6i284 v0 3 = vI h v0 3 := (by rw [gr6i284_0 v0 3 (by omega)])
                        have o310 : vA r6i284 (v0 + 23) v1 = vA h (v0 + 23) v1 := (by rw [gr6i284_1 (v0 + 23) v1 q0 (by omega)])
                        have o311 : vA r6i284 (v0 + 31) v1 = vA h (v0 + 31) v1 := (by rw [gr6i284_1 (v0 + 31) v1 q0 (by omega)])
                        refine qk_mono (ih (v0) (v1) r6i284 Tr6i284 kv0 wM q0 q1 (by show v1 = (130 * vI r6i284 v0 42 + vA r6i284 (v0 + 20) (vI r6i284 v0 42)); have qc1 : vI r6i284 v0 42 = (vI h v0 42) := (by rw [gr6i284_0 v0 42 (by omega)]); rw [qc1]; exact zz_1cd0b996d1 o306 qq o307 o308) (by show vA r6i284 (v0 + 20) (vI r6i284 v0 42) ≤ 128; have qc1 : vI r6i284 v0 42 = (vI h v0 42) := (by rw [gr6i284_0 v0 42 (by omega)]); rw [qc1]; exact zz_766354e410 o306 pb) (zz_3547589d98 o309 gr6i284_4) (by show vI r6i284 v0 48 = 0 → vA r6i284 (v0 + 21) (vI r6i284 v0 42) ≤ vI r6i284 v0 41; have qc1 : vI r6i284 v0 42 = (vI h v0 42) := (by rw [gr6i284_0 v0 42 (by omega)]); rw [qc1]; exact zz_c52fc66c1a gr6i284_5) (by clear ih; intro bb; exact q_JM_eq (gr6i284_6 bb) (fun j j0 j1 => ⟨by rfl, by rfl⟩) rfl rfl rfl rfl (Or.inl rfl)) (zz_5a73c3e9c5 o310 ef) (zz_de47fbffb3 o311 cc31) (zz_0da4948674 gr6i284_7) (by show vA r6i284 (v0 + 21) (vI r6i284 v0 42) ≤ 241; have qc1 : vI r6i284 v0 42 = (vI h v0 42) := (by rw [gr6i284_0 v0 42 (by omega)]); rw [qc1]; exact zz_b5e1c3f4ab gr6i284_8) hN (zz_cf9a56694f hms hq1 gr6i284_4 ab cc1 hq2 hq3)) ?_
                        rintro ⟨y, hz⟩ ⟨Tz, g0, g1, g2, g3, g4, g5, g6, g7, g8, g9, g10, g11, g12⟩
                        try dsimp only at *
                        have qh42_g0 : vI r6i284 v0 42 = (vI h v0 42) := by rw [gr6i284_0 v0 42 (by omega)]
                        rw [qh42_g0] at g3
                        rw [qh42_g0] at g4
                        rw [qh42_g0] at g5
                        rw [qh42_g0] at g7
                        rw [qh42_g0] at g9
                        rw [qh42_g0] at g10
                        rw [qh42_g0] at g12
                        have o313 := g_Mo_e21 T kv0 (vI h v0 42)
                        have o314 := g_Mo_e21 Tr6i284 kv0 (vI h v0 42)
                        exact ⟨Tz, g0, (by clear ih; show ∀ a k, ¬ (a = v0 ∧ (k = 5 ∨ k = 46 ∨ k = 48 ∨ k = 50 ∨ k = 41 ∨ k = 44 ∨ k = 49 ∨ k = 45)) → vI hz a k = vI h a k; intro a k n0; rw [g1 a k (by omega), gr6i284_0 a k (by omega)]), (by clear ih; show ∀ a j, 0 ≤ j → ¬ (a = v0 + 21 ∨ a = v0 + 26 ∨ a = v0 + 27 ∨ a = v0 + 29 ∨ a = v0 + 24 ∨ a = v0 + 25 ∨ a = v0 + 31 ∨ a = v0 + 20) → vA hz a j = vA h a j; intro a j j0 n0; rw [g2 a j j0 (by omega), gr6i284_1 a j j0 (by omega)]), (by clear ih; show ∀ j, 0 ≤ j → j ≠ vI h v0 42 → vA hz (v0 + 21) j = vA h (v0 + 21) j; intro j j0 n0; rw [g3 j j0 n0, gr6i284_2 j j0 n0]), (by clear ih; show ∀ j, 0 ≤ j → (j < (260 * vI h v0 42 + vA h (v0 + 21) (vI h v0 42)) ∨ 260 * vI h v0 42 + 260 ≤ j) → vA hz (v0 + 26) j = vA h (v0 + 26) j ∧ vA hz (v0 + 27) j = vA h (v0 + 27) j; intro j j0 n0; exact ⟨(by rw [(g4 j j0 (zz_0e57fb70c4 gr6i284_8 n0 o307 o313 o314)).1, (gr6i284_3 j j0 (zz_f468153ada n0 o307 o313)).1]), (by rw [(g4 j j0 (zz_0e57fb70c4 gr6i284_8 n0 o307 o313 o314)).2, (gr6i284_3 j j0 (zz_f468153ada n0 o307 o313)).2])⟩), (by clear ih; show ∀ j, 0 ≤ j → j ≠ vI h v0 42 → vA hz (v0 + 20) j = vA h (v0 + 20) j; intro j j0 n0; rw [g5 j j0 n0, gr6i284_1 (v0 + 20) j j0 (by omega)]), (by clear ih; show ∀ j, 0 ≤ j → j ≠ v1 → vA hz (v0 + 23) j = vA h (v0 + 23) j ∧ vA hz (v0 + 24) j = vA h (v0 + 24) j ∧ vA hz (v0 + 25) j = vA h (v0 + 25) j; intro j j0 n0; exact ⟨(by rw [g2 (v0 + 23) j j0 (by omega), gr6i284_1 (v0 + 23) j j0 (by omega)]), (by rw [(g6 j j0 n0).2.1, gr6i284_1 (v0 + 24) j j0 (by omega)]), (by rw [(g6 j j0 n0).2.2, gr6i284_1 (v0 + 25) j j0 (by omega)])⟩), (zz_00b52b5978 o306 g7 o308), (zz_e051a1c329 gr6i284_7 g8 o309), (zz_c52fc66c1a g9), (by clear ih; show vI hz v0 48 = 0 → q_PM hz v0 v1 ∧ vA hz (v0 + 24) v1 = (260 * vI h v0 42 + vA hz (v0 + 21) (vI h v0 42)); exact g10), (zz_285027bacb gr6i284_7 g11), (zz_72aebe666a gr6i284_8 g12)⟩
                      · skip
                        refine qk_if (fun cc315 => ?_) (fun cc315 => ?_)
                        · skip
                          unfold f_Mod_readPattern_296
                          refine r_Mo_41 T kv0 ?_
                          intro x1i316 ex1i316 lx1i316 ux1i316
                          subst ex1i316
                          refine r_Mo_o T kv0 ?_
                          refine c_Mod_addItem (v0 := v0) (v1 := 1) (v2 := (yr10)) (v3 := (vI h v0 41)) T kv0 wM cc1 (by decide) (by decide) (zz_633d7db2af ib) ?_
                          intro r3i316 Tr3i316 gr3i316_0 gr3i316_1 gr3i316_2 gr3i316_3 gr3i316_4 gr3i316_5
                          refine r_Mo_41 Tr3i316 kv0 ?_
                          intro x4i316 ex4i316 lx4i316 ux4i316
                          have sx4i316 : (vI h v0 41) = x4i316 := (ex4i316.trans (by rw [gr3i316_0 v0 41 (by omega)])).symm
                          subst sx4i316
                          have o317 := g_Mo_41 T kv0
                          refine w_Mo_41 Tr3i316 kv0 (wM _ (by omega) (by omega)) (zz_5664edf06b o317) (zz_c81e5df24d ab o317) ?_
                          intro h5i316 Th5i316 ih5i316 ah5i316
                          have o318 : vA h5i316 (v0 + 20) (vI h v0 42) = vA h (v0 + 20) (vI h v0 42) := (by rw [ah5i316 (v0 + 20) (vI h v0 42), gr3i316_1 (v0 + 20) (vI h v0 42) (g_Mo_42 T kv0).1 (by omega)])
                          have o319 := g_Mo_42 T kv0
                          have o320 := g_Mo_e20 T kv0 (vI h v0 42)
                          have o321 : vI h5i316 v0 41 = (vI h v0 41) + 1 := (by rw [ih5i316 v0 41, if_pos ⟨rfl, rfl⟩])
                          have o322 : vI h5i316 v0 3 = vI h v0 3 := (by rw [ih5i316 v0 3, if_neg (fun z => absurd z.2 (by decide)), gr3i316_0 v0 3 (by omega)])
                          have o323 : vA h5i316 (v0 + 21) (vI h v0 42) = vA r3i316 (v0 + 21) (vI h v0 42) := (by rw [ah5i316 (v0 + 21) (vI h v0 42)])
                          have o324 := g_Mo_e21 T kv0 (vI h v0 42)
                          have o326 : vA h5i316 (v0 + 23) v1 = vA h (v0 + 23) v1 := (by rw [ah5i316 (v0 + 23) v1, gr3i316_1 (v0 + 23) v1 q0 (by omega)])
                          have o327 : vA h5i316 (v0 + 31) v1 = vA h (v0 + 31) v1 := (by rw [ah5i316 (v0 + 31) v1, gr3i316_1 (v0 + 31) v1 q0 (by omega)])
                          have o328 := g_Mo_3 T kv0
                          refine qk_mono (ih (v0) (v1) h5i316 Th5i316 kv0 wM q0 q1 (by show v1 = (130 * vI h5i316 v0 42 + vA h5i316 (v0 + 20) (vI h5i316 v0 42)); have qc1 : vI h5i316 v0 42 = (vI h v0 42) := (by rw [ih5i316 v0 42, if_neg (fun z => absurd z.2 (by decide)), gr3i316_0 v0 42 (by omega)]); rw [qc1]; exact zz_1cd0b996d1 o318 qq o319 o320) (by show vA h5i316 (v0 + 20) (vI h5i316 v0 42) ≤ 128; have qc1 : vI h5i316 v0 42 = (vI h v0 42) := (by rw [ih5i316 v0 42, if_neg (fun z => absurd z.2 (by decide)), gr3i316_0 v0 42 (by omega)]); rw [qc1]; exact zz_766354e410 o318 pb) (zz_ccc3cb45c4 o321 o322 gr10_2 cc315 o317) (by show vI h5i316 v0 48 = 0 → vA h5i316 (v0 + 21) (vI h5i316 v0 42) ≤ vI h5i316 v0 41; have qc1 : vI h5i316 v0 42 = (vI h v0 42) := (by rw [ih5i316 v0 42, if_neg (fun z => absurd z.2 (by decide)), gr3i316_0 v0 42 (by omega)]); rw [qc1]; exact zz_5c83974b79 o323 o321 hi gr3i316_4 gr3i316_5 cc1 o324 o317) (by clear ih; intro bb; have rg_half := g_Mo_42 T kv0; have re_items := g_Mo_e21 T kv0 (vI h v0 42); have z4 := gr3i316_4 (by show vI r3i316 v0 48 = 0; have o325 : vI h5i316 v0 48 = vI r3i316 v0 48 := (by rw [ih5i316 v0 48, if_neg (fun z => absurd z.2 (by decide))]); exact zz_24965f4b2c bb o325); exact q_JM_it (k := 1) (x := (yr10)) (J cc1) rg_half.1 rg_half.2 re_items.1 (zz_11d26c57a8 ib) (by rw [ih5i316 v0 42, if_neg (fun z => absurd z.2 (by decide)), gr3i316_0 v0 42 (by omega)]) (fun j j0 jn => ⟨by rw [ah5i316 (v0 + 26) j]; exact (gr3i316_3 j j0 jn).1, by rw [ah5i316 (v0 + 27) j]; exact (gr3i316_3 j j0 jn).2⟩) (by rw [ah5i316 (v0 + 26) (260 * vI h v0 42 + vA h (v0 + 21) (vI h v0 42))]; exact z4.1) (by rw [ah5i316 (v0 + 27) (260 * vI h v0 42 + vA h (v0 + 21) (vI h v0 42))]; exact z4.2.1) (by rw [ah5i316 (v0 + 21) (vI h v0 42)]; exact z4.2.2) (Or.inl ⟨by decide, (by rw [ih5i316 v0 44, if_neg (fun z => absurd z.2 (by decide)), gr3i316_0 v0 44 (by omega)]), (by rw [ih5i316 v0 49, if_neg (fun z => absurd z.2 (by decide)), gr3i316_0 v0 49 (by omega)])⟩)) (zz_5a73c3e9c5 o326 ef) (zz_de47fbffb3 o327 cc31) (zz_2b2554760a o321 o328 gr10_2 cc315 o317) (by show vA h5i316 (v0 + 21) (vI h5i316 v0 42) ≤ 241; have qc1 : vI h5i316 v0 42 = (vI h v0 42) := (by rw [ih5i316 v0 42, if_neg (fun z => absurd z.2 (by decide)), gr3i316_0 v0 42 (by omega)]); rw [qc1]; exact zz_73d49cc1b6 o323 gr3i316_4 gr3i316_5 hi gr10_3 cc315 cc1 o324) hN (zz_0bc384e21e o321 hms hq1 gr10_3 cc1 cc315 hq2 hq3 o317)) ?_
                          rintro ⟨y, hz⟩ ⟨Tz, g0, g1, g2, g3, g4, g5, g6, g7, g8, g9, g10, g11, g12⟩
                          try dsimp only at *
                          have qh42_g0 : vI h5i316 v0 42 = (vI h v0 42) := by rw [ih5i316 v0 42, if_neg (fun z => absurd z.2 (by decide)), gr3i316_0 v0 42 (by omega)]
                          rw [qh42_g0] at g3
                          rw [qh42_g0] at g4
                          rw [qh42_g0] at g5
                          rw [qh42_g0] at g7
                          rw [qh42_g0] at g9
                          rw [qh42_g0] at g10
                          rw [qh42_g0] at g12
                          have o330 := g_Mo_e21 Tr3i316 kv0 (vI h v0 42)
                          exact ⟨Tz, g0, (by clear ih; show ∀ a k, ¬ (a = v0 ∧ (k = 5 ∨ k = 46 ∨ k = 48 ∨ k = 50 ∨ k = 41 ∨ k = 44 ∨ k = 49 ∨ k = 45)) → vI hz a k = vI h a k; intro a k n0; rw [g1 a k (by omega), ih5i316, if_neg (by omega), gr3i316_0 a k (by omega)]), (by clear ih; show ∀ a j, 0 ≤ j → ¬ (a = v0 + 21 ∨ a = v0 + 26 ∨ a = v0 + 27 ∨ a = v0 + 29 ∨ a = v0 + 24 ∨ a = v0 + 25 ∨ a = v0 + 31 ∨ a = v0 + 20) → vA hz a j = vA h a j; intro a j j0 n0; rw [g2 a j j0 (by omega), ah5i316, gr3i316_1 a j j0 (by omega)]), (by clear ih; show ∀ j, 0 ≤ j → j ≠ vI h v0 42 → vA hz (v0 + 21) j = vA h (v0 + 21) j; intro j j0 n0; rw [g3 j j0 n0, ah5i316 (v0 + 21) j, gr3i316_2 j j0 n0]), (by clear ih; show ∀ j, 0 ≤ j → (j < (260 * vI h v0 42 + vA h (v0 + 21) (vI h v0 42)) ∨ 260 * vI h v0 42 + 260 ≤ j) → vA hz (v0 + 26) j = vA h (v0 + 26) j ∧ vA hz (v0 + 27) j = vA h (v0 + 27) j; intro j j0 n0; exact ⟨(by rw [(g4 j j0 (zz_260df0df9b o323 gr3i316_4 gr3i316_5 n0 o319 o324 o330)).1, ah5i316 (v0 + 26) j, (gr3i316_3 j j0 (zz_ebfb0d8f28 ib n0 o319 o324)).1]), (by rw [(g4 j j0 (zz_260df0df9b o323 gr3i316_4 gr3i316_5 n0 o319 o324 o330)).2, ah5i316 (v0 + 27) j, (gr3i316_3 j j0 (zz_ebfb0d8f28 ib n0 o319 o324)).2])⟩), (by clear ih; show ∀ j, 0 ≤ j → j ≠ vI h v0 42 → vA hz (v0 + 20) j = vA h (v0 + 20) j; intro j j0 n0; rw [g5 j j0 n0, ah5i316 (v0 + 20) j, gr3i316_1 (v0 + 20) j j0 (by omega)]), (by clear ih; show ∀ j, 0 ≤ j → j ≠ v1 → vA hz (v0 + 23) j = vA h (v0 + 23) j ∧ vA hz (v0 + 24) j = vA h (v0 + 24) j ∧ vA hz (v0 + 25) j = vA h (v0 + 25) j; intro j j0 n0; exact ⟨(by rw [g2 (v0 + 23) j j0 (by omega), ah5i316 (v0 + 23) j, gr3i316_1 (v0 + 23) j j0 (by omega)]), (by rw [(g6 j j0 n0).2.1, ah5i316 (v0 + 24) j, gr3i316_1 (v0 + 24) j j0 (by omega)]), (by rw [(g6 j j0 n0).2.2, ah5i316 (v0 + 25) j, gr3i316_1 (v0 + 25) j j0 (by omega)])⟩), (zz_00b52b5978 o318 g7 o320), (zz_a5143cc316 g8 o321 o322 o317), (zz_c52fc66c1a g9), (by clear ih; show vI hz v0 48 = 0 → q_PM hz v0 v1 ∧ vA hz (v0 + 24) v1 = (260 * vI h v0 42 + vA hz (v0 + 21) (vI h v0 42)); exact g10), (zz_b8fccb5cff o321 g11 o317), (zz_1ef23b8398 gr3i316_4 gr3i316_5 g12 o323 o324)⟩
                        · skip
                          unfold f_Mod_readPattern_296
                          refine r_Mo_41 T kv0 ?_
                          intro x1i331 ex1i331 lx1i331 ux1i331
                          subst ex1i331
                          refine r_Mo_o T kv0 ?_
                          refine c_Mod_addItem (v0 := v0) (v1 := 0) (v2 := (yr10)) (v3 := (vI h v0 41)) T kv0 wM cc1 (by decide) (by decide) (zz_633d7db2af ib) ?_
                          intro r3i331 Tr3i331 gr3i331_0 gr3i331_1 gr3i331_2 gr3i331_3 gr3i331_4 gr3i331_5
                          refine r_Mo_41 Tr3i331 kv0 ?_
                          intro x4i331 ex4i331 lx4i331 ux4i331
                          have sx4i331 : (vI h v0 41) = x4i331 := (ex4i331.trans (by rw [gr3i331_0 v0 41 (by omega)])).symm
                          subst sx4i331
                          have o332 := g_Mo_41 T kv0
                          refine w_Mo_41 Tr3i331 kv0 (wM _ (by omega) (by omega)) (zz_5664edf06b o332) (zz_c81e5df24d ab o332) ?_
                          intro h5i331 Th5i331 ih5i331 ah5i331
                          have o333 : vA h5i331 (v0 + 20) (vI h v0 42) = vA h (v0 + 20) (vI h v0 42) := (by rw [ah5i331 (v0 + 20) (vI h v0 42), gr3i331_1 (v0 + 20) (vI h v0 42) (g_Mo_42 T kv0).1 (by omega)])
                          have o334 := g_Mo_42 T kv0
                          have o335 := g_Mo_e20 T kv0 (vI h v0 42)
                          have o336 : vI h5i331 v0 41 = (vI h v0 41) + 1 := (by rw [ih5i331 v0 41, if_pos ⟨rfl, rfl⟩])
                          have o337 : vI h5i331 v0 3 = vI h v0 3 := (by rw [ih5i331 v0 3, if_neg (fun z => absurd z.2 (by decide)), gr3i331_0 v0 3 (by omega)])
                          have o338 : vA h5i331 (v0 + 21) (vI h v0 42) = vA r3i331 (v0 + 21) (vI h v0 42) := (by rw [ah5i331 (v0 + 21) (vI h v0 42)])
                          have o339 := g_Mo_e21 T kv0 (vI h v0 42)
                          have o341 : vA h5i331 (v0 + 23) v1 = vA h (v0 + 23) v1 := (by rw [ah5i331 (v0 + 23) v1, gr3i331_1 (v0 + 23) v1 q0 (by omega)])
                          have o342 : vA h5i331 (v0 + 31) v1 = vA h (v0 + 31) v1 := (by rw [ah5i331 (v0 + 31) v1, gr3i331_1 (v0 + 31) v1 q0 (by omega)])
                          refine qk_mono (ih (v0) (v1) h5i331 Th5i331 kv0 wM q0 q1 (by show v1 = (130 * vI h5i331 v0 42 + vA h5i331 (v0 + 20) (vI h5i331 v0 42)); have qc1 : vI h5i331 v0 42 = (vI h v0 42) := (by rw [ih5i331 v0 42, if_neg (fun z => absurd z.2 (by decide)), gr3i331_0 v0 42 (by omega)]); rw [qc1]; exact zz_1cd0b996d1 o333 qq o334 o335) (by show vA h5i331 (v0 + 20) (vI h5i331 v0 42) ≤ 128; have qc1 : vI h5i331 v0 42 = (vI h v0 42) := (by rw [ih5i331 v0 42, if_neg (fun z => absurd z.2 (by decide)), gr3i331_0 v0 42 (by omega)]); rw [qc1]; exact zz_766354e410 o333 pb) (zz_ddd39f7a20 o336 o337 gr10_2 cc32 o332) (by show vI h5i331 v0 48 = 0 → vA h5i331 (v0 + 21) (vI h5i331 v0 42) ≤ vI h5i331 v0 41; have qc1 : vI h5i331 v0 42 = (vI h v0 42) := (by rw [ih5i331 v0 42, if_neg (fun z => absurd z.2 (by decide)), gr3i331_0 v0 42 (by omega)]); rw [qc1]; exact zz_bd72b2919d o338 o336 hi gr3i331_4 gr3i331_5 cc1 o339 o332) (by clear ih; intro bb; have rg_half := g_Mo_42 T kv0; have re_items := g_Mo_e21 T kv0 (vI h v0 42); have z4 := gr3i331_4 (by show vI r3i331 v0 48 = 0; have o340 : vI h5i331 v0 48 = vI r3i331 v0 48 := (by rw [ih5i331 v0 48, if_neg (fun z => absurd z.2 (by decide))]); exact zz_24965f4b2c bb o340); exact q_JM_it (k := 0) (x := (yr10)) (J cc1) rg_half.1 rg_half.2 re_items.1 (zz_11d26c57a8 ib) (by rw [ih5i331 v0 42, if_neg (fun z => absurd z.2 (by decide)), gr3i331_0 v0 42 (by omega)]) (fun j j0 jn => ⟨by rw [ah5i331 (v0 + 26) j]; exact (gr3i331_3 j j0 jn).1, by rw [ah5i331 (v0 + 27) j]; exact (gr3i331_3 j j0 jn).2⟩) (by rw [ah5i331 (v0 + 26) (260 * vI h v0 42 + vA h (v0 + 21) (vI h v0 42))]; exact z4.1) (by rw [ah5i331 (v0 + 27) (260 * vI h v0 42 + vA h (v0 + 21) (vI h v0 42))]; exact z4.2.1) (by rw [ah5i331 (v0 + 21) (vI h v0 42)]; exact z4.2.2) (Or.inl ⟨by decide, (by rw [ih5i331 v0 44, if_neg (fun z => absurd z.2 (by decide)), gr3i331_0 v0 44 (by omega)]), (by rw [ih5i331 v0 49, if_neg (fun z => absurd z.2 (by decide)), gr3i331_0 v0 49 (by omega)])⟩)) (zz_5a73c3e9c5 o341 ef) (zz_de47fbffb3 o342 cc31) (zz_258eeb5eb4 o336 gr10_3 cc32 o332) (by show vA h5i331 (v0 + 21) (vI h5i331 v0 42) ≤ 241; have qc1 : vI h5i331 v0 42 = (vI h v0 42) := (by rw [ih5i331 v0 42, if_neg (fun z => absurd z.2 (by decide)), gr3i331_0 v0 42 (by omega)]); rw [qc1]; exact zz_a0cf0156cb o338 gr3i331_4 gr3i331_5 hi gr10_3 cc32 cc1 o339) hN (zz_a58cfe1bd4 o336 hms hq1 gr10_3 cc1 cc32 hq2 hq3 o332)) ?_
                          rintro ⟨y, hz⟩ ⟨Tz, g0, g1, g2, g3, g4, g5, g6, g7, g8, g9, g10, g11, g12⟩
                          try dsimp only at *
                          have qh42_g0 : vI h5i331 v0 42 = (vI h v0 42) := by rw [ih5i331 v0 42, if_neg (fun z => absurd z.2 (by decide)), gr3i331_0 v0 42 (by omega)]
                          rw [qh42_g0] at g3
                          rw [qh42_g0] at g4
                          rw [qh42_g0] at g5
                          rw [qh42_g0] at g7
                          rw [qh42_g0] at g9
                          rw [qh42_g0] at g10
                          rw [qh42_g0] at g12
                          have o344 := g_Mo_e21 Tr3i331 kv0 (vI h v0 42)
                          exact ⟨Tz, g0, (by clear ih; show ∀ a k, ¬ (a = v0 ∧ (k = 5 ∨ k = 46 ∨ k = 48 ∨ k = 50 ∨ k = 41 ∨ k = 44 ∨ k = 49 ∨ k = 45)) → vI hz a k = vI h a k; intro a k n0; rw [g1 a k (by omega), ih5i331, if_neg (by omega), gr3i331_0 a k (by omega)]), (by clear ih; show ∀ a j, 0 ≤ j → ¬ (a = v0 + 21 ∨ a = v0 + 26 ∨ a = v0 + 27 ∨ a = v0 + 29 ∨ a = v0 + 24 ∨ a = v0 + 25 ∨ a = v0 + 31 ∨ a = v0 + 20) → vA hz a j = vA h a j; intro a j j0 n0; rw [g2 a j j0 (by omega), ah5i331, gr3i331_1 a j j0 (by omega)]), (by clear ih; show ∀ j, 0 ≤ j → j ≠ vI h v0 42 → vA hz (v0 + 21) j = vA h (v0 + 21) j; intro j j0 n0; rw [g3 j j0 n0, ah5i331 (v0 + 21) j, gr3i331_2 j j0 n0]), (by clear ih; show ∀ j, 0 ≤ j → (j < (260 * vI h v0 42 + vA h (v0 + 21) (vI h v0 42)) ∨ 260 * vI h v0 42 + 260 ≤ j) → vA hz (v0 + 26) j = vA h (v0 + 26) j ∧ vA hz (v0 + 27) j = vA h (v0 + 27) j; intro j j0 n0; exact ⟨(by rw [(g4 j j0 (zz_5913666c7d o338 gr3i331_4 gr3i331_5 n0 o334 o339 o344)).1, ah5i331 (v0 + 26) j, (gr3i331_3 j j0 (zz_ebfb0d8f28 ib n0 o334 o339)).1]), (by rw [(g4 j j0 (zz_5913666c7d o338 gr3i331_4 gr3i331_5 n0 o334 o339 o344)).2, ah5i331 (v0 + 27) j, (gr3i331_3 j j0 (zz_ebfb0d8f28 ib n0 o334 o339)).2])⟩), (by clear ih; show ∀ j, 0 ≤ j → j ≠ vI h v0 42 → vA hz (v0 + 20) j = vA h (v0 + 20) j; intro j j0 n0; rw [g5 j j0 n0, ah5i331 (v0 + 20) j, gr3i331_1 (v0 + 20) j j0 (by omega)]), (by clear ih; show ∀ j, 0 ≤ j → j ≠ v1 → vA hz (v0 + 23) j = vA h (v0 + 23) j ∧ vA hz (v0 + 24) j = vA h (v0 + 24) j ∧ vA hz (v0 + 25) j = vA h (v0 + 25) j; intro j j0 n0; exact ⟨(by rw [g2 (v0 + 23) j j0 (by omega), ah5i331 (v0 + 23) j, gr3i331_1 (v0 + 23) j j0 (by omega)]), (by rw [(g6 j j0 n0).2.1, ah5i331 (v0 + 24) j, gr3i331_1 (v0 + 24) j j0 (by omega)]), (by rw [(g6 j j0 n0).2.2, ah5i331 (v0 + 25) j, gr3i331_1 (v0 + 25) j j0 (by omega)])⟩), (zz_00b52b5978 o333 g7 o335), (zz_a5143cc316 g8 o336 o337 o332), (zz_c52fc66c1a g9), (by clear ih; show vI hz v0 48 = 0 → q_PM hz v0 v1 ∧ vA hz (v0 + 24) v1 = (260 * vI h v0 42 + vA hz (v0 + 21) (vI h v0 42)); exact g10), (zz_b8fccb5cff o336 g11 o332), (zz_a923bf6e82 gr3i331_4 gr3i331_5 g12 o338 o339)⟩
        · skip
          unfold f_Mod_readPattern_317
          refine r_Mo_48 T kv0 ?_
          intro x1i345 ex1i345
          subst ex1i345
          refine qk_if (fun cc346 => ?_) (fun cc346 => ?_)
          · skip
            refine r_Mo_49 T kv0 ?_
            intro x3i345 ex3i345
            subst ex3i345
            refine qk_if (fun cc347 => ?_) (fun cc347 => ?_)
            · skip
              unfold f_Mod_readPattern_339
              refine r_Mo_41 T kv0 ?_
              intro x1i348 ex1i348 lx1i348 ux1i348
              subst ex1i348
              have o349 := g_Mo_41 T kv0
              refine w_Mo_41 T kv0 (wM _ (by omega) (by omega)) (zz_5664edf06b o349) (zz_c81e5df24d ab o349) ?_
              intro h2i348 Th2i348 ih2i348 ah2i348
              refine r_Mo_29 Th2i348 kv0 ?_
              refine r_Mo_42 Th2i348 kv0 ?_
              intro x4i348 ex4i348 lx4i348 ux4i348
              have sx4i348 : (vI h v0 42) = x4i348 := (ex4i348.trans (by rw [ih2i348 v0 42, if_neg (fun z => absurd z.2 (by decide))])).symm
              subst sx4i348
              refine r_Mo_26 Th2i348 kv0 ?_
              refine r_Mo_42 Th2i348 kv0 ?_
              intro x6i348 ex6i348 lx6i348 ux6i348
              have sx6i348 : (vI h v0 42) = x6i348 := (ex6i348.trans (by rw [ih2i348 v0 42, if_neg (fun z => absurd z.2 (by decide))])).symm
              subst sx6i348
              have o350 := g_Mo_42 T kv0
              refine r_Mo_e21 Th2i348 kv0 lx6i348 (zz_e1f2e57bfa o350) ?_
              intro x7i348 ex7i348 lx7i348 ux7i348
              have sx7i348 : (vA h (v0 + 21) (vI h v0 42)) = x7i348 := (ex7i348.trans (by rw [ah2i348 (v0 + 21) (vI h v0 42)])).symm
              subst sx7i348
              have o351 := g_Mo_e21 T kv0 (vI h v0 42)
              refine w_Mo_e24 Th2i348 kv0 (wM _ (by omega) (by omega)) q0 q1 (zz_7a9193dccd o350 o351) (zz_ee38f1e714 o350 ib o351) ?_
              intro h8i348 Th8i348 ih8i348 ah8i348
              refine r_Mo_30 Th8i348 kv0 ?_
              refine r_Mo_44 Th8i348 kv0 ?_
              intro x10i348 ex10i348 lx10i348 ux10i348
              have sx10i348 : (vI h v0 44) = x10i348 := (ex10i348.trans (by rw [ih8i348 v0 44, ih2i348 v0 44, if_neg (fun z => absurd z.2 (by decide))])).symm
              subst sx10i348
              refine w_Mo_e25 Th8i348 kv0 (wM _ (by omega) (by omega)) q0 q1 lx10i348 ux10i348 ?_
              intro h11i348 Th11i348 ih11i348 ah11i348
              refine r_Mo_25 Th11i348 kv0 ?_
              refine r_Mo_42 Th11i348 kv0 ?_
              intro x13i348 ex13i348 lx13i348 ux13i348
              have sx13i348 : (vI h v0 42) = x13i348 := (ex13i348.trans (by rw [ih11i348 v0 42, ih8i348 v0 42, ih2i348 v0 42, if_neg (fun z => absurd z.2 (by decide))])).symm
              subst sx13i348
              refine r_Mo_e20 Th11i348 kv0 lx13i348 (zz_e1f2e57bfa o350) ?_
              intro x14i348 ex14i348 lx14i348 ux14i348
              have sx14i348 : (vA h (v0 + 20) (vI h v0 42)) = x14i348 := (ex14i348.trans (by rw [ah11i348 (v0 + 20) (vI h v0 42) lx13i348, if_neg (fun z => absurd z.1 (by omega)), ah8i348 (v0 + 20) (vI h v0 42) lx13i348, if_neg (fun z => absurd z.1 (by omega)), ah2i348 (v0 + 20) (vI h v0 42)])).symm
              subst sx14i348
              have o352 := g_Mo_e20 T kv0 (vI h v0 42)
              refine w_Mo_e20 Th11i348 kv0 (wM _ (by omega) (by omega)) lx13i348 (zz_e1f2e57bfa o350) (zz_cabb9e759f o352) (zz_5c896beaaf pb o352) ?_
              intro h15i348 Th15i348 ih15i348 ah15i348
              refine qk_some ?_
              have o353 : vA h15i348 (v0 + 20) (vI h v0 42) = (vA h (v0 + 20) (vI h v0 42)) + 1 := (by rw [ah15i348 (v0 + 20) (vI h v0 42) lx13i348, if_pos ⟨rfl, rfl⟩])
              have o354 : vI h15i348 v0 41 = (vI h v0 41) + 1 := (by rw [ih15i348 v0 41, ih11i348 v0 41, ih8i348 v0 41, ih2i348 v0 41, if_pos ⟨rfl, rfl⟩])
              have o355 : vA h15i348 (v0 + 21) (vI h v0 42) = vA h (v0 + 21) (vI h v0 42) := (by rw [ah15i348 (v0 + 21) (vI h v0 42) lx13i348, if_neg (fun z => absurd z.1 (by omega)), ah11i348 (v0 + 21) (vI h v0 42) lx13i348, if_neg (fun z => absurd z.1 (by omega)), ah8i348 (v0 + 21) (vI h v0 42) lx13i348, if_neg (fun z => absurd z.1 (by omega)), ah2i348 (v0 + 21) (vI h v0 42)])
              exact ⟨Th15i348, (zz_098cd87474), (by clear ih; show ∀ a k, ¬ (a = v0 ∧ (k = 5 ∨ k = 46 ∨ k = 48 ∨ k = 50 ∨ k = 41 ∨ k = 44 ∨ k = 49 ∨ k = 45)) → vI h15i348 a k = vI h a k; intro a k n0; rw [ih15i348, ih11i348, ih8i348, ih2i348, if_neg (by omega)]), (by clear ih; show ∀ a j, 0 ≤ j → ¬ (a = v0 + 21 ∨ a = v0 + 26 ∨ a = v0 + 27 ∨ a = v0 + 29 ∨ a = v0 + 24 ∨ a = v0 + 25 ∨ a = v0 + 31 ∨ a = v0 + 20) → vA h15i348 a j = vA h a j; intro a j j0 n0; rw [ah15i348 a j j0, if_neg (by omega), ah11i348 a j j0, if_neg (by omega), ah8i348 a j j0, if_neg (by omega), ah2i348]), (by clear ih; show ∀ j, 0 ≤ j → j ≠ vI h v0 42 → vA h15i348 (v0 + 21) j = vA h (v0 + 21) j; intro j j0 n0; rw [ah15i348 (v0 + 21) j j0, if_neg (fun z => absurd z.1 (by omega)), ah11i348 (v0 + 21) j j0, if_neg (fun z => absurd z.1 (by omega)), ah8i348 (v0 + 21) j j0, if_neg (fun z => absurd z.1 (by omega)), ah2i348 (v0 + 21) j]), (by clear ih; show ∀ j, 0 ≤ j → (j < (260 * vI h v0 42 + vA h (v0 + 21) (vI h v0 42)) ∨ 260 * vI h v0 42 + 260 ≤ j) → vA h15i348 (v0 + 26) j = vA h (v0 + 26) j ∧ vA h15i348 (v0 + 27) j = vA h (v0 + 27) j; intro j j0 n0; exact ⟨(by rw [ah15i348 (v0 + 26) j j0, if_neg (fun z => absurd z.1 (by omega)), ah11i348 (v0 + 26) j j0, if_neg (fun z => absurd z.1 (by omega)), ah8i348 (v0 + 26) j j0, if_neg (fun z => absurd z.1 (by omega)), ah2i348 (v0 + 26) j]), (by rw [ah15i348 (v0 + 27) j j0, if_neg (fun z => absurd z.1 (by omega)), ah11i348 (v0 + 27) j j0, if_neg (fun z => absurd z.1 (by omega)), ah8i348 (v0 + 27) j j0, if_neg (fun z => absurd z.1 (by omega)), ah2i348 (v0 + 27) j])⟩), (by clear ih; show ∀ j, 0 ≤ j → j ≠ vI h v0 42 → vA h15i348 (v0 + 20) j = vA h (v0 + 20) j; intro j j0 n0; rw [ah15i348 (v0 + 20) j j0, if_neg (fun z => absurd z.2 (zz_946771669d n0)), ah11i348 (v0 + 20) j j0, if_neg (fun z => absurd z.1 (by omega)), ah8i348 (v0 + 20) j j0, if_neg (fun z => absurd z.1 (by omega)), ah2i348 (v0 + 20) j]), (by clear ih; show ∀ j, 0 ≤ j → j ≠ v1 → vA h15i348 (v0 + 23) j = vA h (v0 + 23) j ∧ vA h15i348 (v0 + 24) j = vA h (v0 + 24) j ∧ vA h15i348 (v0 + 25) j = vA h (v0 + 25) j; intro j j0 n0; exact ⟨(by rw [ah15i348 (v0 + 23) j j0, if_neg (fun z => absurd z.1 (by omega)), ah11i348 (v0 + 23) j j0, if_neg (fun z => absurd z.1 (by omega)), ah8i348 (v0 + 23) j j0, if_neg (fun z => absurd z.1 (by omega)), ah2i348 (v0 + 23) j]), (by rw [ah15i348 (v0 + 24) j j0, if_neg (fun z => absurd z.1 (by omega)), ah11i348 (v0 + 24) j j0, if_neg (fun z => absurd z.1 (by omega)), ah8i348 (v0 + 24) j j0, if_neg (fun z => absurd z.2 (zz_946771669d n0)), ah2i348 (v0 + 24) j]), (by rw [ah15i348 (v0 + 25) j j0, if_neg (fun z => absurd z.1 (by omega)), ah11i348 (v0 + 25) j j0, if_neg (fun z => absurd z.2 (zz_946771669d n0)), ah8i348 (v0 + 25) j j0, if_neg (fun z => absurd z.1 (by omega)), ah2i348 (v0 + 25) j])⟩), (zz_454c40ae5e o353 o352), (zz_80ef18a798 o354 ae cc346 cc31 o349), (zz_b62e0579eb o355 o354 hi cc346 o349), (by clear ih; show vI h15i348 v0 48 = 0 → q_PM h15i348 v0 v1 ∧ vA h15i348 (v0 + 24) v1 = (260 * vI h v0 42 + vA h15i348 (v0 + 21) (vI h v0 42)); intro bb; exact ⟨q_PM_of (J cc346) (fun j j0 j1 => ⟨by rw [ah15i348 (v0 + 26) j j0, if_neg (fun z => absurd z.1 (by omega)), ah11i348 (v0 + 26) j j0, if_neg (fun z => absurd z.1 (by omega)), ah8i348 (v0 + 26) j j0, if_neg (fun z => absurd z.1 (by omega)), ah2i348 (v0 + 26) j], by rw [ah15i348 (v0 + 27) j j0, if_neg (fun z => absurd z.1 (by omega)), ah11i348 (v0 + 27) j j0, if_neg (fun z => absurd z.1 (by omega)), ah8i348 (v0 + 27) j j0, if_neg (fun z => absurd z.1 (by omega)), ah2i348 (v0 + 27) j]⟩) (by rw [ah15i348 (v0 + 23) v1 q0, if_neg (fun z => absurd z.1 (by omega)), ah11i348 (v0 + 23) v1 q0, if_neg (fun z => absurd z.1 (by omega)), ah8i348 (v0 + 23) v1 q0, if_neg (fun z => absurd z.1 (by omega)), ah2i348 (v0 + 23) v1]; exact ef) (by rw [ah15i348 (v0 + 24) v1 q0, if_neg (fun z => absurd z.1 (by omega)), ah11i348 (v0 + 24) v1 q0, if_neg (fun z => absurd z.1 (by omega)), ah8i348 (v0 + 24) v1 q0, if_pos ⟨rfl, rfl⟩]), by rw [ah15i348 (v0 + 24) v1 q0, if_neg (fun z => absurd z.1 (by omega)), ah11i348 (v0 + 24) v1 q0, if_neg (fun z => absurd z.1 (by omega)), ah8i348 (v0 + 24) v1 q0, if_pos ⟨rfl, rfl⟩, ah15i348 (v0 + 21) (vI h v0 42) lx13i348, if_neg (fun z => absurd z.1 (by omega)), ah11i348 (v0 + 21) (vI h v0 42) lx13i348, if_neg (fun z => absurd z.1 (by omega)), ah8i348 (v0 + 21) (vI h v0 42) lx13i348, if_neg (fun z => absurd z.1 (by omega)), ah2i348 (v0 + 21) (vI h v0 42)]⟩), (zz_6acff39744 o354 ab o349), (zz_366c52b05d o355 ib)⟩
            · skip
              refine r_Mo_41 T kv0 ?_
              intro x5i345 ex5i345 lx5i345 ux5i345
              subst ex5i345
              refine r_Mo_o T kv0 ?_
              refine c_Mod_wrong (v0 := v0) (v1 := (vI h v0 41)) T kv0 wM ?_
              intro r7i345 Tr7i345 gr7i345_0 gr7i345_1 gr7i345_2
              unfold f_Mod_readPattern_339
              refine r_Mo_41 Tr7i345 kv0 ?_
              intro x1i356 ex1i356 lx1i356 ux1i356
              have sx1i356 : (vI h v0 41) = x1i356 := (ex1i356.trans (by rw [gr7i345_0 v0 41 (by omega)])).symm
              subst sx1i356
              have o357 := g_Mo_41 T kv0
              refine w_Mo_41 Tr7i345 kv0 (wM _ (by omega) (by omega)) (zz_5664edf06b o357) (zz_c81e5df24d ab o357) ?_
              intro h2i356 Th2i356 ih2i356 ah2i356
              refine r_Mo_29 Th2i356 kv0 ?_
              refine r_Mo_42 Th2i356 kv0 ?_
              intro x4i356 ex4i356 lx4i356 ux4i356
              have sx4i356 : (vI h v0 42) = x4i356 := (ex4i356.trans (by rw [ih2i356 v0 42, if_neg (fun z => absurd z.2 (by decide)), gr7i345_0 v0 42 (by omega)])).symm
              subst sx4i356
              refine r_Mo_26 Th2i356 kv0 ?_
              refine r_Mo_42 Th2i356 kv0 ?_
              intro x6i356 ex6i356 lx6i356 ux6i356
              have sx6i356 : (vI h v0 42) = x6i356 := (ex6i356.trans (by rw [ih2i356 v0 42, if_neg (fun z => absurd z.2 (by decide)), gr7i345_0 v0 42 (by omega)])).symm
              subst sx6i356
              have o358 := g_Mo_42 T kv0
              refine r_Mo_e21 Th2i356 kv0 lx6i356 (zz_e1f2e57bfa o358) ?_
              intro x7i356 ex7i356 lx7i356 ux7i356
              have sx7i356 : (vA h (v0 + 21) (vI h v0 42)) = x7i356 := (ex7i356.trans (by rw [ah2i356 (v0 + 21) (vI h v0 42), gr7i345_2 (v0 + 21) (vI h v0 42)])).symm
              subst sx7i356
              have o359 := g_Mo_e21 T kv0 (vI h v0 42)
              refine w_Mo_e24 Th2i356 kv0 (wM _ (by omega) (by omega)) q0 q1 (zz_7a9193dccd o358 o359) (zz_ee38f1e714 o358 ib o359) ?_
              intro h8i356 Th8i356 ih8i356 ah8i356
              refine r_Mo_30 Th8i356 kv0 ?_
              refine r_Mo_44 Th8i356 kv0 ?_
              intro x10i356 ex10i356 lx10i356 ux10i356
              have sx10i356 : (vI h v0 44) = x10i356 := (ex10i356.trans (by rw [ih8i356 v0 44, ih2i356 v0 44, if_neg (fun z => absurd z.2 (by decide)), gr7i345_0 v0 44 (by omega)])).symm
              subst sx10i356
              refine w_Mo_e25 Th8i356 kv0 (wM _ (by omega) (by omega)) q0 q1 lx10i356 ux10i356 ?_
              intro h11i356 Th11i356 ih11i356 ah11i356
              refine r_Mo_25 Th11i356 kv0 ?_
              refine r_Mo_42 Th11i356 kv0 ?_
              intro x13i356 ex13i356 lx13i356 ux13i356
              have sx13i356 : (vI h v0 42) = x13i356 := (ex13i356.trans (by rw [ih11i356 v0 42, ih8i356 v0 42, ih2i356 v0 42, if_neg (fun z => absurd z.2 (by decide)), gr7i345_0 v0 42 (by omega)])).symm
              subst sx13i356
              refine r_Mo_e20 Th11i356 kv0 lx13i356 (zz_e1f2e57bfa o358) ?_
              intro x14i356 ex14i356 lx14i356 ux14i356
              have sx14i356 : (vA h (v0 + 20) (vI h v0 42)) = x14i356 := (ex14i356.trans (by rw [ah11i356 (v0 + 20) (vI h v0 42) lx13i356, if_neg (fun z => absurd z.1 (by omega)), ah8i356 (v0 + 20) (vI h v0 42) lx13i356, if_neg (fun z => absurd z.1 (by omega)), ah2i356 (v0 + 20) (vI h v0 42), gr7i345_2 (v0 + 20) (vI h v0 42)])).symm
              subst sx14i356
              have o360 := g_Mo_e20 T kv0 (vI h v0 42)
              refine w_Mo_e20 Th11i356 kv0 (wM _ (by omega) (by omega)) lx13i356 (zz_e1f2e57bfa o358) (zz_cabb9e759f o360) (zz_5c896beaaf pb o360) ?_
              intro h15i356 Th15i356 ih15i356 ah15i356
              refine qk_some ?_
              have o361 : vA h15i356 (v0 + 20) (vI h v0 42) = (vA h (v0 + 20) (vI h v0 42)) + 1 := (by rw [ah15i356 (v0 + 20) (vI h v0 42) lx13i356, if_pos ⟨rfl, rfl⟩])
              have o362 : vI h15i356 v0 48 = 1 := (by rw [ih15i356 v0 48, ih11i356 v0 48, ih8i356 v0 48, ih2i356 v0 48, if_neg (fun z => absurd z.2 (by decide)), gr7i345_1])
              have o363 : vI h15i356 v0 41 = (vI h v0 41) + 1 := (by rw [ih15i356 v0 41, ih11i356 v0 41, ih8i356 v0 41, ih2i356 v0 41, if_pos ⟨rfl, rfl⟩])
              have o364 : vA h15i356 (v0 + 21) (vI h v0 42) = vA h (v0 + 21) (vI h v0 42) := (by rw [ah15i356 (v0 + 21) (vI h v0 42) lx13i356, if_neg (fun z => absurd z.1 (by omega)), ah11i356 (v0 + 21) (vI h v0 42) lx13i356, if_neg (fun z => absurd z.1 (by omega)), ah8i356 (v0 + 21) (vI h v0 42) lx13i356, if_neg (fun z => absurd z.1 (by omega)), ah2i356 (v0 + 21) (vI h v0 42), gr7i345_2 (v0 + 21) (vI h v0 42)])
              exact ⟨Th15i356, (zz_098cd87474), (by clear ih; show ∀ a k, ¬ (a = v0 ∧ (k = 5 ∨ k = 46 ∨ k = 48 ∨ k = 50 ∨ k = 41 ∨ k = 44 ∨ k = 49 ∨ k = 45)) → vI h15i356 a k = vI h a k; intro a k n0; rw [ih15i356, ih11i356, ih8i356, ih2i356, if_neg (by omega), gr7i345_0 a k (by omega)]), (by clear ih; show ∀ a j, 0 ≤ j → ¬ (a = v0 + 21 ∨ a = v0 + 26 ∨ a = v0 + 27 ∨ a = v0 + 29 ∨ a = v0 + 24 ∨ a = v0 + 25 ∨ a = v0 + 31 ∨ a = v0 + 20) → vA h15i356 a j = vA h a j; intro a j j0 n0; rw [ah15i356 a j j0, if_neg (by omega), ah11i356 a j j0, if_neg (by omega), ah8i356 a j j0, if_neg (by omega), ah2i356, gr7i345_2 a j]), (by clear ih; show ∀ j, 0 ≤ j → j ≠ vI h v0 42 → vA h15i356 (v0 + 21) j = vA h (v0 + 21) j; intro j j0 n0; rw [ah15i356 (v0 + 21) j j0, if_neg (fun z => absurd z.1 (by omega)), ah11i356 (v0 + 21) j j0, if_neg (fun z => absurd z.1 (by omega)), ah8i356 (v0 + 21) j j0, if_neg (fun z => absurd z.1 (by omega)), ah2i356 (v0 + 21) j, gr7i345_2 (v0 + 21) j]), (by clear ih; show ∀ j, 0 ≤ j → (j < (260 * vI h v0 42 + vA h (v0 + 21) (vI h v0 42)) ∨ 260 * vI h v0 42 + 260 ≤ j) → vA h15i356 (v0 + 26) j = vA h (v0 + 26) j ∧ vA h15i356 (v0 + 27) j = vA h (v0 + 27) j; intro j j0 n0; exact ⟨(by rw [ah15i356 (v0 + 26) j j0, if_neg (fun z => absurd z.1 (by omega)), ah11i356 (v0 + 26) j j0, if_neg (fun z => absurd z.1 (by omega)), ah8i356 (v0 + 26) j j0, if_neg (fun z => absurd z.1 (by omega)), ah2i356 (v0 + 26) j, gr7i345_2 (v0 + 26) j]), (by rw [ah15i356 (v0 + 27) j j0, if_neg (fun z => absurd z.1 (by omega)), ah11i356 (v0 + 27) j j0, if_neg (fun z => absurd z.1 (by omega)), ah8i356 (v0 + 27) j j0, if_neg (fun z => absurd z.1 (by omega)), ah2i356 (v0 + 27) j, gr7i345_2 (v0 + 27) j])⟩), (by clear ih; show ∀ j, 0 ≤ j → j ≠ vI h v0 42 → vA h15i356 (v0 + 20) j = vA h (v0 + 20) j; intro j j0 n0; rw [ah15i356 (v0 + 20) j j0, if_neg (fun z => absurd z.2 (zz_946771669d n0)), ah11i356 (v0 + 20) j j0, if_neg (fun z => absurd z.1 (by omega)), ah8i356 (v0 + 20) j j0, if_neg (fun z => absurd z.1 (by omega)), ah2i356 (v0 + 20) j, gr7i345_2 (v0 + 20) j]), (by clear ih; show ∀ j, 0 ≤ j → j ≠ v1 → vA h15i356 (v0 + 23) j = vA h (v0 + 23) j ∧ vA h15i356 (v0 + 24) j = vA h (v0 + 24) j ∧ vA h15i356 (v0 + 25) j = vA h (v0 + 25) j; intro j j0 n0; exact ⟨(by rw [ah15i356 (v0 + 23) j j0, if_neg (fun z => absurd z.1 (by omega)), ah11i356 (v0 + 23) j j0, if_neg (fun z => absurd z.1 (by omega)), ah8i356 (v0 + 23) j j0, if_neg (fun z => absurd z.1 (by omega)), ah2i356 (v0 + 23) j, gr7i345_2 (v0 + 23) j]), (by rw [ah15i356 (v0 + 24) j j0, if_neg (fun z => absurd z.1 (by omega)), ah11i356 (v0 + 24) j j0, if_neg (fun z => absurd z.1 (by omega)), ah8i356 (v0 + 24) j j0, if_neg (fun z => absurd z.2 (zz_946771669d n0)), ah2i356 (v0 + 24) j, gr7i345_2 (v0 + 24) j]), (by rw [ah15i356 (v0 + 25) j j0, if_neg (fun z => absurd z.1 (by omega)), ah11i356 (v0 + 25) j j0, if_neg (fun z => absurd z.2 (zz_946771669d n0)), ah8i356 (v0 + 25) j j0, if_neg (fun z => absurd z.1 (by omega)), ah2i356 (v0 + 25) j, gr7i345_2 (v0 + 25) j])⟩), (zz_454c40ae5e o361 o360), (zz_8cbda2a0b7 o362), (zz_72bcbc58f7 o362), (by clear ih; show vI h15i356 v0 48 = 0 → q_PM h15i356 v0 v1 ∧ vA h15i356 (v0 + 24) v1 = (260 * vI h v0 42 + vA h15i356 (v0 + 21) (vI h v0 42)); intro bb; exact absurd bb (zz_f5f80cd091 o362)), (zz_6acff39744 o363 ab o357), (zz_366c52b05d o364 ib)⟩
          · skip
            unfold f_Mod_readPattern_339
            refine r_Mo_41 T kv0 ?_
            intro x1i365 ex1i365 lx1i365 ux1i365
            subst ex1i365
            have o366 := g_Mo_41 T kv0
            refine w_Mo_41 T kv0 (wM _ (by omega) (by omega)) (zz_5664edf06b o366) (zz_c81e5df24d ab o366) ?_
            intro h2i365 Th2i365 ih2i365 ah2i365
            refine r_Mo_29 Th2i365 kv0 ?_
            refine r_Mo_42 Th2i365 kv0 ?_
            intro x4i365 ex4i365 lx4i365 ux4i365
            have sx4i365 : (vI h v0 42) = x4i365 := (ex4i365.trans (by rw [ih2i365 v0 42, if_neg (fun z => absurd z.2 (by decide))])).symm
            subst sx4i365
            refine r_Mo_26 Th2i365 kv0 ?_
            refine r_Mo_42 Th2i365 kv0 ?_
            intro x6i365 ex6i365 lx6i365 ux6i365
            have sx6i365 : (vI h v0 42) = x6i365 := (ex6i365.trans (by rw [ih2i365 v0 42, if_neg (fun z => absurd z.2 (by decide))])).symm
            subst sx6i365
            have o367 := g_Mo_42 T kv0
            refine r_Mo_e21 Th2i365 kv0 lx6i365 (zz_e1f2e57bfa o367) ?_
            intro x7i365 ex7i365 lx7i365 ux7i365
            have sx7i365 : (vA h (v0 + 21) (vI h v0 42)) = x7i365 := (ex7i365.trans (by rw [ah2i365 (v0 + 21) (vI h v0 42)])).symm
            subst sx7i365
            have o368 := g_Mo_e21 T kv0 (vI h v0 42)
            refine w_Mo_e24 Th2i365 kv0 (wM _ (by omega) (by omega)) q0 q1 (zz_7a9193dccd o367 o368) (zz_ee38f1e714 o367 ib o368) ?_
            intro h8i365 Th8i365 ih8i365 ah8i365
            refine r_Mo_30 Th8i365 kv0 ?_
            refine r_Mo_44 Th8i365 kv0 ?_
            intro x10i365 ex10i365 lx10i365 ux10i365
            have sx10i365 : (vI h v0 44) = x10i365 := (ex10i365.trans (by rw [ih8i365 v0 44, ih2i365 v0 44, if_neg (fun z => absurd z.2 (by decide))])).symm
            subst sx10i365
            refine w_Mo_e25 Th8i365 kv0 (wM _ (by omega) (by omega)) q0 q1 lx10i365 ux10i365 ?_
            intro h11i365 Th11i365 ih11i365 ah11i365
            refine r_Mo_25 Th11i365 kv0 ?_
            refine r_Mo_42 Th11i365 kv0 ?_
            intro x13i365 ex13i365 lx13i365 ux13i365
            have sx13i365 : (vI h v0 42) = x13i365 := (ex13i365.trans (by rw [ih11i365 v0 42, ih8i365 v0 42, ih2i365 v0 42, if_neg (fun z => absurd z.2 (by decide))])).symm
            subst sx13i365
            refine r_Mo_e20 Th11i365 kv0 lx13i365 (zz_e1f2e57bfa o367) ?_
            intro x14i365 ex14i365 lx14i365 ux14i365
            have sx14i365 : (vA h (v0 + 20) (vI h v0 42)) = x14i365 := (ex14i365.trans (by rw [ah11i365 (v0 + 20) (vI h v0 42) lx13i365, if_neg (fun z => absurd z.1 (by omega)), ah8i365 (v0 + 20) (vI h v0 42) lx13i365, if_neg (fun z => absurd z.1 (by omega)), ah2i365 (v0 + 20) (vI h v0 42)])).symm
            subst sx14i365
            have o369 := g_Mo_e20 T kv0 (vI h v0 42)
            refine w_Mo_e20 Th11i365 kv0 (wM _ (by omega) (by omega)) lx13i365 (zz_e1f2e57bfa o367) (zz_cabb9e759f o369) (zz_5c896beaaf pb o369) ?_
            intro h15i365 Th15i365 ih15i365 ah15i365
            refine qk_some ?_
            have o370 : vA h15i365 (v0 + 20) (vI h v0 42) = (vA h (v0 + 20) (vI h v0 42)) + 1 := (by rw [ah15i365 (v0 + 20) (vI h v0 42) lx13i365, if_pos ⟨rfl, rfl⟩])
            have o371 : vI h15i365 v0 41 = (vI h v0 41) + 1 := (by rw [ih15i365 v0 41, ih11i365 v0 41, ih8i365 v0 41, ih2i365 v0 41, if_pos ⟨rfl, rfl⟩])
            have o372 : vA h15i365 (v0 + 21) (vI h v0 42) = vA h (v0 + 21) (vI h v0 42) := (by rw [ah15i365 (v0 + 21) (vI h v0 42) lx13i365, if_neg (fun z => absurd z.1 (by omega)), ah11i365 (v0 + 21) (vI h v0 42) lx13i365, if_neg (fun z => absurd z.1 (by omega)), ah8i365 (v0 + 21) (vI h v0 42) lx13i365, if_neg (fun z => absurd z.1 (by omega)), ah2i365 (v0 + 21) (vI h v0 42)])
            exact ⟨Th15i365, (zz_098cd87474), (by clear ih; show ∀ a k, ¬ (a = v0 ∧ (k = 5 ∨ k = 46 ∨ k = 48 ∨ k = 50 ∨ k = 41 ∨ k = 44 ∨ k = 49 ∨ k = 45)) → vI h15i365 a k = vI h a k; intro a k n0; rw [ih15i365, ih11i365, ih8i365, ih2i365, if_neg (by omega)]), (by clear ih; show ∀ a j, 0 ≤ j → ¬ (a = v0 + 21 ∨ a = v0 + 26 ∨ a = v0 + 27 ∨ a = v0 + 29 ∨ a = v0 + 24 ∨ a = v0 + 25 ∨ a = v0 + 31 ∨ a = v0 + 20) → vA h15i365 a j = vA h a j; intro a j j0 n0; rw [ah15i365 a j j0, if_neg (by omega), ah11i365 a j j0, if_neg (by omega), ah8i365 a j j0, if_neg (by omega), ah2i365]), (by clear ih; show ∀ j, 0 ≤ j → j ≠ vI h v0 42 → vA h15i365 (v0 + 21) j = vA h (v0 + 21) j; intro j j0 n0; rw [ah15i365 (v0 + 21) j j0, if_neg (fun z => absurd z.1 (by omega)), ah11i365 (v0 + 21) j j0, if_neg (fun z => absurd z.1 (by omega)), ah8i365 (v0 + 21) j j0, if_neg (fun z => absurd z.1 (by omega)), ah2i365 (v0 + 21) j]), (by clear ih; show ∀ j, 0 ≤ j → (j < (260 * vI h v0 42 + vA h (v0 + 21) (vI h v0 42)) ∨ 260 * vI h v0 42 + 260 ≤ j) → vA h15i365 (v0 + 26) j = vA h (v0 + 26) j ∧ vA h15i365 (v0 + 27) j = vA h (v0 + 27) j; intro j j0 n0; exact ⟨(by rw [ah15i365 (v0 + 26) j j0, if_neg (fun z => absurd z.1 (by omega)), ah11i365 (v0 + 26) j j0, if_neg (fun z => absurd z.1 (by omega)), ah8i365 (v0 + 26) j j0, if_neg (fun z => absurd z.1 (by omega)), ah2i365 (v0 + 26) j]), (by rw [ah15i365 (v0 + 27) j j0, if_neg (fun z => absurd z.1 (by omega)), ah11i365 (v0 + 27) j j0, if_neg (fun z => absurd z.1 (by omega)), ah8i365 (v0 + 27) j j0, if_neg (fun z => absurd z.1 (by omega)), ah2i365 (v0 + 27) j])⟩), (by clear ih; show ∀ j, 0 ≤ j → j ≠ vI h v0 42 → vA h15i365 (v0 + 20) j = vA h (v0 + 20) j; intro j j0 n0; rw [ah15i365 (v0 + 20) j j0, if_neg (fun z => absurd z.2 (zz_946771669d n0)), ah11i365 (v0 + 20) j j0, if_neg (fun z => absurd z.1 (by omega)), ah8i365 (v0 + 20) j j0, if_neg (fun z => absurd z.1 (by omega)), ah2i365 (v0 + 20) j]), (by clear ih; show ∀ j, 0 ≤ j → j ≠ v1 → vA h15i365 (v0 + 23) j = vA h (v0 + 23) j ∧ vA h15i365 (v0 + 24) j = vA h (v0 + 24) j ∧ vA h15i365 (v0 + 25) j = vA h (v0 + 25) j; intro j j0 n0; exact ⟨(by rw [ah15i365 (v0 + 23) j j0, if_neg (fun z => absurd z.1 (by omega)), ah11i365 (v0 + 23) j j0, if_neg (fun z => absurd z.1 (by omega)), ah8i365 (v0 + 23) j j0, if_neg (fun z => absurd z.1 (by omega)), ah2i365 (v0 + 23) j]), (by rw [ah15i365 (v0 + 24) j j0, if_neg (fun z => absurd z.1 (by omega)), ah11i365 (v0 + 24) j j0, if_neg (fun z => absurd z.1 (by omega)), ah8i365 (v0 + 24) j j0, if_neg (fun z => absurd z.2 (zz_946771669d n0)), ah2i365 (v0 + 24) j]), (by rw [ah15i365 (v0 + 25) j j0, if_neg (fun z => absurd z.1 (by omega)), ah11i365 (v0 + 25) j j0, if_neg (fun z => absurd z.2 (zz_946771669d n0)), ah8i365 (v0 + 25) j j0, if_neg (fun z => absurd z.1 (by omega)), ah2i365 (v0 + 25) j])⟩), (zz_454c40ae5e o370 o369), (zz_71df0bd6b9 cc1 cc346), (zz_19eb077e89 cc1 cc346), (by clear ih; show vI h15i365 v0 48 = 0 → q_PM h15i365 v0 v1 ∧ vA h15i365 (v0 + 24) v1 = (260 * vI h v0 42 + vA h15i365 (v0 + 21) (vI h v0 42)); intro bb; exact ⟨q_PM_of (J cc1) (fun j j0 j1 => ⟨by rw [ah15i365 (v0 + 26) j j0, if_neg (fun z => absurd z.1 (by omega)), ah11i365 (v0 + 26) j j0, if_neg (fun z => absurd z.1 (by omega)), ah8i365 (v0 + 26) j j0, if_neg (fun z => absurd z.1 (by omega)), ah2i365 (v0 + 26) j], by rw [ah15i365 (v0 + 27) j j0, if_neg (fun z => absurd z.1 (by omega)), ah11i365 (v0 + 27) j j0, if_neg (fun z => absurd z.1 (by omega)), ah8i365 (v0 + 27) j j0, if_neg (fun z => absurd z.1 (by omega)), ah2i365 (v0 + 27) j]⟩) (by rw [ah15i365 (v0 + 23) v1 q0, if_neg (fun z => absurd z.1 (by omega)), ah11i365 (v0 + 23) v1 q0, if_neg (fun z => absurd z.1 (by omega)), ah8i365 (v0 + 23) v1 q0, if_neg (fun z => absurd z.1 (by omega)), ah2i365 (v0 + 23) v1]; exact ef) (by rw [ah15i365 (v0 + 24) v1 q0, if_neg (fun z => absurd z.1 (by omega)), ah11i365 (v0 + 24) v1 q0, if_neg (fun z => absurd z.1 (by omega)), ah8i365 (v0 + 24) v1 q0, if_pos ⟨rfl, rfl⟩]), by rw [ah15i365 (v0 + 24) v1 q0, if_neg (fun z => absurd z.1 (by omega)), ah11i365 (v0 + 24) v1 q0, if_neg (fun z => absurd z.1 (by omega)), ah8i365 (v0 + 24) v1 q0, if_pos ⟨rfl, rfl⟩, ah15i365 (v0 + 21) (vI h v0 42) lx13i365, if_neg (fun z => absurd z.1 (by omega)), ah11i365 (v0 + 21) (vI h v0 42) lx13i365, if_neg (fun z => absurd z.1 (by omega)), ah8i365 (v0 + 21) (vI h v0 42) lx13i365, if_neg (fun z => absurd z.1 (by omega)), ah2i365 (v0 + 21) (vI h v0 42)]⟩), (zz_6acff39744 o371 ab o366), (zz_366c52b05d o372 ib)⟩
    · skip
      unfold f_Mod_readPattern_317
      refine r_Mo_48 T kv0 ?_
      intro x1i373 ex1i373
      subst ex1i373
      refine qk_if (fun cc374 => ?_) (fun cc374 => ?_)
      · skip
        refine r_Mo_49 T kv0 ?_
        intro x3i373 ex3i373
        subst ex3i373
        refine qk_if (fun cc375 => ?_) (fun cc375 => ?_)
        · skip
          unfold f_Mod_readPattern_339
          refine r_Mo_41 T kv0 ?_
          intro x1i376 ex1i376 lx1i376 ux1i376
          subst ex1i376
          have o377 := g_Mo_41 T kv0
          refine w_Mo_41 T kv0 (wM _ (by omega) (by omega)) (zz_5664edf06b o377) (zz_c81e5df24d ab o377) ?_
          intro h2i376 Th2i376 ih2i376 ah2i376
          refine r_Mo_29 Th2i376 kv0 ?_
          refine r_Mo_42 Th2i376 kv0 ?_
          intro x4i376 ex4i376 lx4i376 ux4i376
          have sx4i376 : (vI h v0 42) = x4i376 := (ex4i376.trans (by rw [ih2i376 v0 42, if_neg (fun z => absurd z.2 (by decide))])).symm
          subst sx4i376
          refine r_Mo_26 Th2i376 kv0 ?_
          refine r_Mo_42 Th2i376 kv0 ?_
          intro x6i376 ex6i376 lx6i376 ux6i376
          have sx6i376 : (vI h v0 42) = x6i376 := (ex6i376.trans (by rw [ih2i376 v0 42, if_neg (fun z => absurd z.2 (by decide))])).symm
          subst sx6i376
          have o378 := g_Mo_42 T kv0
          refine r_Mo_e21 Th2i376 kv0 lx6i376 (zz_e1f2e57bfa o378) ?_
          intro x7i376 ex7i376 lx7i376 ux7i376
          have sx7i376 : (vA h (v0 + 21) (vI h v0 42)) = x7i376 := (ex7i376.trans (by rw [ah2i376 (v0 + 21) (vI h v0 42)])).symm
          subst sx7i376
          have o379 := g_Mo_e21 T kv0 (vI h v0 42)
          refine w_Mo_e24 Th2i376 kv0 (wM _ (by omega) (by omega)) q0 q1 (zz_7a9193dccd o378 o379) (zz_ee38f1e714 o378 ib o379) ?_
          intro h8i376 Th8i376 ih8i376 ah8i376
          refine r_Mo_30 Th8i376 kv0 ?_
          refine r_Mo_44 Th8i376 kv0 ?_
          intro x10i376 ex10i376 lx10i376 ux10i376
          have sx10i376 : (vI h v0 44) = x10i376 := (ex10i376.trans (by rw [ih8i376 v0 44, ih2i376 v0 44, if_neg (fun z => absurd z.2 (by decide))])).symm
          subst sx10i376
          refine w_Mo_e25 Th8i376 kv0 (wM _ (by omega) (by omega)) q0 q1 lx10i376 ux10i376 ?_
          intro h11i376 Th11i376 ih11i376 ah11i376
          refine r_Mo_25 Th11i376 kv0 ?_
          refine r_Mo_42 Th11i376 kv0 ?_
          intro x13i376 ex13i376 lx13i376 ux13i376
          have sx13i376 : (vI h v0 42) = x13i376 := (ex13i376.trans (by rw [ih11i376 v0 42, ih8i376 v0 42, ih2i376 v0 42, if_neg (fun z => absurd z.2 (by decide))])).symm
          subst sx13i376
          refine r_Mo_e20 Th11i376 kv0 lx13i376 (zz_e1f2e57bfa o378) ?_
          intro x14i376 ex14i376 lx14i376 ux14i376
          have sx14i376 : (vA h (v0 + 20) (vI h v0 42)) = x14i376 := (ex14i376.trans (by rw [ah11i376 (v0 + 20) (vI h v0 42) lx13i376, if_neg (fun z => absurd z.1 (by omega)), ah8i376 (v0 + 20) (vI h v0 42) lx13i376, if_neg (fun z => absurd z.1 (by omega)), ah2i376 (v0 + 20) (vI h v0 42)])).symm
          subst sx14i376
          have o380 := g_Mo_e20 T kv0 (vI h v0 42)
          refine w_Mo_e20 Th11i376 kv0 (wM _ (by omega) (by omega)) lx13i376 (zz_e1f2e57bfa o378) (zz_cabb9e759f o380) (zz_5c896beaaf pb o380) ?_
          intro h15i376 Th15i376 ih15i376 ah15i376
          refine qk_some ?_
          have o381 : vA h15i376 (v0 + 20) (vI h v0 42) = (vA h (v0 + 20) (vI h v0 42)) + 1 := (by rw [ah15i376 (v0 + 20) (vI h v0 42) lx13i376, if_pos ⟨rfl, rfl⟩])
          have o382 : vI h15i376 v0 41 = (vI h v0 41) + 1 := (by rw [ih15i376 v0 41, ih11i376 v0 41, ih8i376 v0 41, ih2i376 v0 41, if_pos ⟨rfl, rfl⟩])
          have o383 : vA h15i376 (v0 + 21) (vI h v0 42) = vA h (v0 + 21) (vI h v0 42) := (by rw [ah15i376 (v0 + 21) (vI h v0 42) lx13i376, if_neg (fun z => absurd z.1 (by omega)), ah11i376 (v0 + 21) (vI h v0 42) lx13i376, if_neg (fun z => absurd z.1 (by omega)), ah8i376 (v0 + 21) (vI h v0 42) lx13i376, if_neg (fun z => absurd z.1 (by omega)), ah2i376 (v0 + 21) (vI h v0 42)])
          exact ⟨Th15i376, (zz_098cd87474), (by clear ih; show ∀ a k, ¬ (a = v0 ∧ (k = 5 ∨ k = 46 ∨ k = 48 ∨ k = 50 ∨ k = 41 ∨ k = 44 ∨ k = 49 ∨ k = 45)) → vI h15i376 a k = vI h a k; intro a k n0; rw [ih15i376, ih11i376, ih8i376, ih2i376, if_neg (by omega)]), (by clear ih; show ∀ a j, 0 ≤ j → ¬ (a = v0 + 21 ∨ a = v0 + 26 ∨ a = v0 + 27 ∨ a = v0 + 29 ∨ a = v0 + 24 ∨ a = v0 + 25 ∨ a = v0 + 31 ∨ a = v0 + 20) → vA h15i376 a j = vA h a j; intro a j j0 n0; rw [ah15i376 a j j0, if_neg (by omega), ah11i376 a j j0, if_neg (by omega), ah8i376 a j j0, if_neg (by omega), ah2i376]), (by clear ih; show ∀ j, 0 ≤ j → j ≠ vI h v0 42 → vA h15i376 (v0 + 21) j = vA h (v0 + 21) j; intro j j0 n0; rw [ah15i376 (v0 + 21) j j0, if_neg (fun z => absurd z.1 (by omega)), ah11i376 (v0 + 21) j j0, if_neg (fun z => absurd z.1 (by omega)), ah8i376 (v0 + 21) j j0, if_neg (fun z => absurd z.1 (by omega)), ah2i376 (v0 + 21) j]), (by clear ih; show ∀ j, 0 ≤ j → (j < (260 * vI h v0 42 + vA h (v0 + 21) (vI h v0 42)) ∨ 260 * vI h v0 42 + 260 ≤ j) → vA h15i376 (v0 + 26) j = vA h (v0 + 26) j ∧ vA h15i376 (v0 + 27) j = vA h (v0 + 27) j; intro j j0 n0; exact ⟨(by rw [ah15i376 (v0 + 26) j j0, if_neg (fun z => absurd z.1 (by omega)), ah11i376 (v0 + 26) j j0, if_neg (fun z => absurd z.1 (by omega)), ah8i376 (v0 + 26) j j0, if_neg (fun z => absurd z.1 (by omega)), ah2i376 (v0 + 26) j]), (by rw [ah15i376 (v0 + 27) j j0, if_neg (fun z => absurd z.1 (by omega)), ah11i376 (v0 + 27) j j0, if_neg (fun z => absurd z.1 (by omega)), ah8i376 (v0 + 27) j j0, if_neg (fun z => absurd z.1 (by omega)), ah2i376 (v0 + 27) j])⟩), (by clear ih; show ∀ j, 0 ≤ j → j ≠ vI h v0 42 → vA h15i376 (v0 + 20) j = vA h (v0 + 20) j; intro j j0 n0; rw [ah15i376 (v0 + 20) j j0, if_neg (fun z => absurd z.2 (zz_946771669d n0)), ah11i376 (v0 + 20) j j0, if_neg (fun z => absurd z.1 (by omega)), ah8i376 (v0 + 20) j j0, if_neg (fun z => absurd z.1 (by omega)), ah2i376 (v0 + 20) j]), (by clear ih; show ∀ j, 0 ≤ j → j ≠ v1 → vA h15i376 (v0 + 23) j = vA h (v0 + 23) j ∧ vA h15i376 (v0 + 24) j = vA h (v0 + 24) j ∧ vA h15i376 (v0 + 25) j = vA h (v0 + 25) j; intro j j0 n0; exact ⟨(by rw [ah15i376 (v0 + 23) j j0, if_neg (fun z => absurd z.1 (by omega)), ah11i376 (v0 + 23) j j0, if_neg (fun z => absurd z.1 (by omega)), ah8i376 (v0 + 23) j j0, if_neg (fun z => absurd z.1 (by omega)), ah2i376 (v0 + 23) j]), (by rw [ah15i376 (v0 + 24) j j0, if_neg (fun z => absurd z.1 (by omega)), ah11i376 (v0 + 24) j j0, if_neg (fun z => absurd z.1 (by omega)), ah8i376 (v0 + 24) j j0, if_neg (fun z => absurd z.2 (zz_946771669d n0)), ah2i376 (v0 + 24) j]), (by rw [ah15i376 (v0 + 25) j j0, if_neg (fun z => absurd z.1 (by omega)), ah11i376 (v0 + 25) j j0, if_neg (fun z => absurd z.2 (zz_946771669d n0)), ah8i376 (v0 + 25) j j0, if_neg (fun z => absurd z.1 (by omega)), ah2i376 (v0 + 25) j])⟩), (zz_454c40ae5e o381 o380), (zz_11fba6f4ae cc1 cc374), (zz_f9caaffa20 cc1 cc374), (by clear ih; show vI h15i376 v0 48 = 0 → q_PM h15i376 v0 v1 ∧ vA h15i376 (v0 + 24) v1 = (260 * vI h v0 42 + vA h15i376 (v0 + 21) (vI h v0 42)); intro bb; exact ⟨q_PM_of (J cc374) (fun j j0 j1 => ⟨by rw [ah15i376 (v0 + 26) j j0, if_neg (fun z => absurd z.1 (by omega)), ah11i376 (v0 + 26) j j0, if_neg (fun z => absurd z.1 (by omega)), ah8i376 (v0 + 26) j j0, if_neg (fun z => absurd z.1 (by omega)), ah2i376 (v0 + 26) j], by rw [ah15i376 (v0 + 27) j j0, if_neg (fun z => absurd z.1 (by omega)), ah11i376 (v0 + 27) j j0, if_neg (fun z => absurd z.1 (by omega)), ah8i376 (v0 + 27) j j0, if_neg (fun z => absurd z.1 (by omega)), ah2i376 (v0 + 27) j]⟩) (by rw [ah15i376 (v0 + 23) v1 q0, if_neg (fun z => absurd z.1 (by omega)), ah11i376 (v0 + 23) v1 q0, if_neg (fun z => absurd z.1 (by omega)), ah8i376 (v0 + 23) v1 q0, if_neg (fun z => absurd z.1 (by omega)), ah2i376 (v0 + 23) v1]; exact ef) (by rw [ah15i376 (v0 + 24) v1 q0, if_neg (fun z => absurd z.1 (by omega)), ah11i376 (v0 + 24) v1 q0, if_neg (fun z => absurd z.1 (by omega)), ah8i376 (v0 + 24) v1 q0, if_pos ⟨rfl, rfl⟩]), by rw [ah15i376 (v0 + 24) v1 q0, if_neg (fun z => absurd z.1 (by omega)), ah11i376 (v0 + 24) v1 q0, if_neg (fun z => absurd z.1 (by omega)), ah8i376 (v0 + 24) v1 q0, if_pos ⟨rfl, rfl⟩, ah15i376 (v0 + 21) (vI h v0 42) lx13i376, if_neg (fun z => absurd z.1 (by omega)), ah11i376 (v0 + 21) (vI h v0 42) lx13i376, if_neg (fun z => absurd z.1 (by omega)), ah8i376 (v0 + 21) (vI h v0 42) lx13i376, if_neg (fun z => absurd z.1 (by omega)), ah2i376 (v0 + 21) (vI h v0 42)]⟩), (zz_6acff39744 o382 ab o377), (zz_366c52b05d o383 ib)⟩
        · skip
          refine r_Mo_41 T kv0 ?_
          intro x5i373 ex5i373 lx5i373 ux5i373
          subst ex5i373
          refine r_Mo_o T kv0 ?_
          refine c_Mod_wrong (v0 := v0) (v1 := (vI h v0 41)) T kv0 wM ?_
          intro r7i373 Tr7i373 gr7i373_0 gr7i373_1 gr7i373_2
          unfold f_Mod_readPattern_339
          refine r_Mo_41 Tr7i373 kv0 ?_
          intro x1i384 ex1i384 lx1i384 ux1i384
          have sx1i384 : (vI h v0 41) = x1i384 := (ex1i384.trans (by rw [gr7i373_0 v0 41 (by omega)])).symm
          subst sx1i384
          have o385 := g_Mo_41 T kv0
          refine w_Mo_41 Tr7i373 kv0 (wM _ (by omega) (by omega)) (zz_5664edf06b o385) (zz_c81e5df24d ab o385) ?_
          intro h2i384 Th2i384 ih2i384 ah2i384
          refine r_Mo_29 Th2i384 kv0 ?_
          refine r_Mo_42 Th2i384 kv0 ?_
          intro x4i384 ex4i384 lx4i384 ux4i384
          have sx4i384 : (vI h v0 42) = x4i384 := (ex4i384.trans (by rw [ih2i384 v0 42, if_neg (fun z => absurd z.2 (by decide)), gr7i373_0 v0 42 (by omega)])).symm
          subst sx4i384
          refine r_Mo_26 Th2i384 kv0 ?_
          refine r_Mo_42 Th2i384 kv0 ?_
          intro x6i384 ex6i384 lx6i384 ux6i384
          have sx6i384 : (vI h v0 42) = x6i384 := (ex6i384.trans (by rw [ih2i384 v0 42, if_neg (fun z => absurd z.2 (by decide)), gr7i373_0 v0 42 (by omega)])).symm
          subst sx6i384
          have o386 := g_Mo_42 T kv0
          refine r_Mo_e21 Th2i384 kv0 lx6i384 (zz_e1f2e57bfa o386) ?_
          intro x7i384 ex7i384 lx7i384 ux7i384
          have sx7i384 : (vA h (v0 + 21) (vI h v0 42)) = x7i384 := (ex7i384.trans (by rw [ah2i384 (v0 + 21) (vI h v0 42), gr7i373_2 (v0 + 21) (vI h v0 42)])).symm
          subst sx7i384
          have o387 := g_Mo_e21 T kv0 (vI h v0 42)
          refine w_Mo_e24 Th2i384 kv0 (wM _ (by omega) (by omega)) q0 q1 (zz_7a9193dccd o386 o387) (zz_ee38f1e714 o386 ib o387) ?_
          intro h8i384 Th8i384 ih8i384 ah8i384
          refine r_Mo_30 Th8i384 kv0 ?_
          refine r_Mo_44 Th8i384 kv0 ?_
          intro x10i384 ex10i384 lx10i384 ux10i384
          have sx10i384 : (vI h v0 44) = x10i384 := (ex10i384.trans (by rw [ih8i384 v0 44, ih2i384 v0 44, if_neg (fun z => absurd z.2 (by decide)), gr7i373_0 v0 44 (by omega)])).symm
          subst sx10i384
          refine w_Mo_e25 Th8i384 kv0 (wM _ (by omega) (by omega)) q0 q1 lx10i384 ux10i384 ?_
          intro h11i384 Th11i384 ih11i384 ah11i384
          refine r_Mo_25 Th11i384 kv0 ?_
          refine r_Mo_42 Th11i384 kv0 ?_
          intro x13i384 ex13i384 lx13i384 ux13i384
          have sx13i384 : (vI h v0 42) = x13i384 := (ex13i384.trans (by rw [ih11i384 v0 42, ih8i384 v0 42, ih2i384 v0 42, if_neg (fun z => absurd z.2 (by decide)), gr7i373_0 v0 42 (by omega)])).symm
          subst sx13i384
          refine r_Mo_e20 Th11i384 kv0 lx13i384 (zz_e1f2e57bfa o386) ?_
          intro x14i384 ex14i384 lx14i384 ux14i384
          have sx14i384 : (vA h (v0 + 20) (vI h v0 42)) = x14i384 := (ex14i384.trans (by rw [ah11i384 (v0 + 20) (vI h v0 42) lx13i384, if_neg (fun z => absurd z.1 (by omega)), ah8i384 (v0 + 20) (vI h v0 42) lx13i384, if_neg (fun z => absurd z.1 (by omega)), ah2i384 (v0 + 20) (vI h v0 42), gr7i373_2 (v0 + 20) (vI h v0 42)])).symm
          subst sx14i384
          have o388 := g_Mo_e20 T kv0 (vI h v0 42)
          refine w_Mo_e20 Th11i384 kv0 (wM _ (by omega) (by omega)) lx13i384 (zz_e1f2e57bfa o386) (zz_cabb9e759f o388) (zz_5c896beaaf pb o388) ?_
          intro h15i384 Th15i384 ih15i384 ah15i384
          refine qk_some ?_
          have o389 : vA h15i384 (v0 + 20) (vI h v0 42) = (vA h (v0 + 20) (vI h v0 42)) + 1 := (by rw [ah15i384 (v0 + 20) (vI h v0 42) lx13i384, if_pos ⟨rfl, rfl⟩])
          have o390 : vI h15i384 v0 48 = 1 := (by rw [ih15i384 v0 48, ih11i384 v0 48, ih8i384 v0 48, ih2i384 v0 48, if_neg (fun z => absurd z.2 (by decide)), gr7i373_1])
          have o391 : vI h15i384 v0 41 = (vI h v0 41) + 1 := (by rw [ih15i384 v0 41, ih11i384 v0 41, ih8i384 v0 41, ih2i384 v0 41, if_pos ⟨rfl, rfl⟩])
          have o392 : vA h15i384 (v0 + 21) (vI h v0 42) = vA h (v0 + 21) (vI h v0 42) := (by rw [ah15i384 (v0 + 21) (vI h v0 42) lx13i384, if_neg (fun z => absurd z.1 (by omega)), ah11i384 (v0 + 21) (vI h v0 42) lx13i384, if_neg (fun z => absurd z.1 (by omega)), ah8i384 (v0 + 21) (vI h v0 42) lx13i384, if_neg (fun z => absurd z.1 (by omega)), ah2i384 (v0 + 21) (vI h v0 42), gr7i373_2 (v0 + 21) (vI h v0 42)])
          exact ⟨Th15i384, (zz_098cd87474), (by clear ih; show ∀ a k, ¬ (a = v0 ∧ (k = 5 ∨ k = 46 ∨ k = 48 ∨ k = 50 ∨ k = 41 ∨ k = 44 ∨ k = 49 ∨ k = 45)) → vI h15i384 a k = vI h a k; intro a k n0; rw [ih15i384, ih11i384, ih8i384, ih2i384, if_neg (by omega), gr7i373_0 a k (by omega)]), (by clear ih; show ∀ a j, 0 ≤ j → ¬ (a = v0 + 21 ∨ a = v0 + 26 ∨ a = v0 + 27 ∨ a = v0 + 29 ∨ a = v0 + 24 ∨ a = v0 + 25 ∨ a = v0 + 31 ∨ a = v0 + 20) → vA h15i384 a j = vA h a j; intro a j j0 n0; rw [ah15i384 a j j0, if_neg (by omega), ah11i384 a j j0, if_neg (by omega), ah8i384 a j j0, if_neg (by omega), ah2i384, gr7i373_2 a j]), (by clear ih; show ∀ j, 0 ≤ j → j ≠ vI h v0 42 → vA h15i384 (v0 + 21) j = vA h (v0 + 21) j; intro j j0 n0; rw [ah15i384 (v0 + 21) j j0, if_neg (fun z => absurd z.1 (by omega)), ah11i384 (v0 + 21) j j0, if_neg (fun z => absurd z.1 (by omega)), ah8i384 (v0 + 21) j j0, if_neg (fun z => absurd z.1 (by omega)), ah2i384 (v0 + 21) j, gr7i373_2 (v0 + 21) j]), (by clear ih; show ∀ j, 0 ≤ j → (j < (260 * vI h v0 42 + vA h (v0 + 21) (vI h v0 42)) ∨ 260 * vI h v0 42 + 260 ≤ j) → vA h15i384 (v0 + 26) j = vA h (v0 + 26) j ∧ vA h15i384 (v0 + 27) j = vA h (v0 + 27) j; intro j j0 n0; exact ⟨(by rw [ah15i384 (v0 + 26) j j0, if_neg (fun z => absurd z.1 (by omega)), ah11i384 (v0 + 26) j j0, if_neg (fun z => absurd z.1 (by omega)), ah8i384 (v0 + 26) j j0, if_neg (fun z => absurd z.1 (by omega)), ah2i384 (v0 + 26) j, gr7i373_2 (v0 + 26) j]), (by rw [ah15i384 (v0 + 27) j j0, if_neg (fun z => absurd z.1 (by omega)), ah11i384 (v0 + 27) j j0, if_neg (fun z => absurd z.1 (by omega)), ah8i384 (v0 + 27) j j0, if_neg (fun z => absurd z.1 (by omega)), ah2i384 (v0 + 27) j, gr7i373_2 (v0 + 27) j])⟩), (by clear ih; show ∀ j, 0 ≤ j → j ≠ vI h v0 42 → vA h15i384 (v0 + 20) j = vA h (v0 + 20) j; intro j j0 n0; rw [ah15i384 (v0 + 20) j j0, if_neg (fun z => absurd z.2 (zz_946771669d n0)), ah11i384 (v0 + 20) j j0, if_neg (fun z => absurd z.1 (by omega)), ah8i384 (v0 + 20) j j0, if_neg (fun z => absurd z.1 (by omega)), ah2i384 (v0 + 20) j, gr7i373_2 (v0 + 20) j]), (by clear ih; show ∀ j, 0 ≤ j → j ≠ v1 → vA h15i384 (v0 + 23) j = vA h (v0 + 23) j ∧ vA h15i384 (v0 + 24) j = vA h (v0 + 24) j ∧ vA h15i384 (v0 + 25) j = vA h (v0 + 25) j; intro j j0 n0; exact ⟨(by rw [ah15i384 (v0 + 23) j j0, if_neg (fun z => absurd z.1 (by omega)), ah11i384 (v0 + 23) j j0, if_neg (fun z => absurd z.1 (by omega)), ah8i384 (v0 + 23) j j0, if_neg (fun z => absurd z.1 (by omega)), ah2i384 (v0 + 23) j, gr7i373_2 (v0 + 23) j]), (by rw [ah15i384 (v0 + 24) j j0, if_neg (fun z => absurd z.1 (by omega)), ah11i384 (v0 + 24) j j0, if_neg (fun z => absurd z.1 (by omega)), ah8i384 (v0 + 24) j j0, if_neg (fun z => absurd z.2 (zz_946771669d n0)), ah2i384 (v0 + 24) j, gr7i373_2 (v0 + 24) j]), (by rw [ah15i384 (v0 + 25) j j0, if_neg (fun z => absurd z.1 (by omega)), ah11i384 (v0 + 25) j j0, if_neg (fun z => absurd z.2 (zz_946771669d n0)), ah8i384 (v0 + 25) j j0, if_neg (fun z => absurd z.1 (by omega)), ah2i384 (v0 + 25) j, gr7i373_2 (v0 + 25) j])⟩), (zz_454c40ae5e o389 o388), (zz_8cbda2a0b7 o390), (zz_72bcbc58f7 o390), (by clear ih; show vI h15i384 v0 48 = 0 → q_PM h15i384 v0 v1 ∧ vA h15i384 (v0 + 24) v1 = (260 * vI h v0 42 + vA h15i384 (v0 + 21) (vI h v0 42)); intro bb; exact absurd bb (zz_f5f80cd091 o390)), (zz_6acff39744 o391 ab o385), (zz_366c52b05d o392 ib)⟩
      · skip
        unfold f_Mod_readPattern_339
        refine r_Mo_41 T kv0 ?_
        intro x1i393 ex1i393 lx1i393 ux1i393
        subst ex1i393
        have o394 := g_Mo_41 T kv0
        refine w_Mo_41 T kv0 (wM _ (by omega) (by omega)) (zz_5664edf06b o394) (zz_c81e5df24d ab o394) ?_
        intro h2i393 Th2i393 ih2i393 ah2i393
        refine r_Mo_29 Th2i393 kv0 ?_
        refine r_Mo_42 Th2i393 kv0 ?_
        intro x4i393 ex4i393 lx4i393 ux4i393
        have sx4i393 : (vI h v0 42) = x4i393 := (ex4i393.trans (by rw [ih2i393 v0 42, if_neg (fun z => absurd z.2 (by decide))])).symm
        subst sx4i393
        refine r_Mo_26 Th2i393 kv0 ?_
        refine r_Mo_42 Th2i393 kv0 ?_
        intro x6i393 ex6i393 lx6i393 ux6i393
        have sx6i393 : (vI h v0 42) = x6i393 := (ex6i393.trans (by rw [ih2i393 v0 42, if_neg (fun z => absurd z.2 (by decide))])).symm
        subst sx6i393
        have o395 := g_Mo_42 T kv0
        refine r_Mo_e21 Th2i393 kv0 lx6i393 (zz_e1f2e57bfa o395) ?_
        intro x7i393 ex7i393 lx7i393 ux7i393
        have sx7i393 : (vA h (v0 + 21) (vI h v0 42)) = x7i393 := (ex7i393.trans (by rw [ah2i393 (v0 + 21) (vI h v0 42)])).symm
        subst sx7i393
        have o396 := g_Mo_e21 T kv0 (vI h v0 42)
        refine w_Mo_e24 Th2i393 kv0 (wM _ (by omega) (by omega)) q0 q1 (zz_7a9193dccd o395 o396) (zz_ee38f1e714 o395 ib o396) ?_
        intro h8i393 Th8i393 ih8i393 ah8i393
        refine r_Mo_30 Th8i393 kv0 ?_
        refine r_Mo_44 Th8i393 kv0 ?_
        intro x10i393 ex10i393 lx10i393 ux10i393
        have sx10i393 : (vI h v0 44) = x10i393 := (ex10i393.trans (by rw [ih8i393 v0 44, ih2i393 v0 44, if_neg (fun z => absurd z.2 (by decide))])).symm
        subst sx10i393
        refine w_Mo_e25 Th8i393 kv0 (wM _ (by omega) (by omega)) q0 q1 lx10i393 ux10i393 ?_
        intro h11i393 Th11i393 ih11i393 ah11i393
        refine r_Mo_25 Th11i393 kv0 ?_
        refine r_Mo_42 Th11i393 kv0 ?_
        intro x13i393 ex13i393 lx13i393 ux13i393
        have sx13i393 : (vI h v0 42) = x13i393 := (ex13i393.trans (by rw [ih11i393 v0 42, ih8i393 v0 42, ih2i393 v0 42, if_neg (fun z => absurd z.2 (by decide))])).symm
        subst sx13i393
        refine r_Mo_e20 Th11i393 kv0 lx13i393 (zz_e1f2e57bfa o395) ?_
        intro x14i393 ex14i393 lx14i393 ux14i393
        have sx14i393 : (vA h (v0 + 20) (vI h v0 42)) = x14i393 := (ex14i393.trans (by rw [ah11i393 (v0 + 20) (vI h v0 42) lx13i393, if_neg (fun z => absurd z.1 (by omega)), ah8i393 (v0 + 20) (vI h v0 42) lx13i393, if_neg (fun z => absurd z.1 (by omega)), ah2i393 (v0 + 20) (vI h v0 42)])).symm
        subst sx14i393
        have o397 := g_Mo_e20 T kv0 (vI h v0 42)
        refine w_Mo_e20 Th11i393 kv0 (wM _ (by omega) (by omega)) lx13i393 (zz_e1f2e57bfa o395) (zz_cabb9e759f o397) (zz_5c896beaaf pb o397) ?_
        intro h15i393 Th15i393 ih15i393 ah15i393
        refine qk_some ?_
        have o398 : vA h15i393 (v0 + 20) (vI h v0 42) = (vA h (v0 + 20) (vI h v0 42)) + 1 := (by rw [ah15i393 (v0 + 20) (vI h v0 42) lx13i393, if_pos ⟨rfl, rfl⟩])
        have o399 : vI h15i393 v0 48 = vI h v0 48 := (by rw [ih15i393 v0 48, ih11i393 v0 48, ih8i393 v0 48, ih2i393 v0 48, if_neg (fun z => absurd z.2 (by decide))])
        have o400 : vI h15i393 v0 41 = (vI h v0 41) + 1 := (by rw [ih15i393 v0 41, ih11i393 v0 41, ih8i393 v0 41, ih2i393 v0 41, if_pos ⟨rfl, rfl⟩])
        have o401 : vA h15i393 (v0 + 21) (vI h v0 42) = vA h (v0 + 21) (vI h v0 42) := (by rw [ah15i393 (v0 + 21) (vI h v0 42) lx13i393, if_neg (fun z => absurd z.1 (by omega)), ah11i393 (v0 + 21) (vI h v0 42) lx13i393, if_neg (fun z => absurd z.1 (by omega)), ah8i393 (v0 + 21) (vI h v0 42) lx13i393, if_neg (fun z => absurd z.1 (by omega)), ah2i393 (v0 + 21) (vI h v0 42)])
        exact ⟨Th15i393, (zz_098cd87474), (by clear ih; show ∀ a k, ¬ (a = v0 ∧ (k = 5 ∨ k = 46 ∨ k = 48 ∨ k = 50 ∨ k = 41 ∨ k = 44 ∨ k = 49 ∨ k = 45)) → vI h15i393 a k = vI h a k; intro a k n0; rw [ih15i393, ih11i393, ih8i393, ih2i393, if_neg (by omega)]), (by clear ih; show ∀ a j, 0 ≤ j → ¬ (a = v0 + 21 ∨ a = v0 + 26 ∨ a = v0 + 27 ∨ a = v0 + 29 ∨ a = v0 + 24 ∨ a = v0 + 25 ∨ a = v0 + 31 ∨ a = v0 + 20) → vA h15i393 a j = vA h a j; intro a j j0 n0; rw [ah15i393 a j j0, if_neg (by omega), ah11i393 a j j0, if_neg (by omega), ah8i393 a j j0, if_neg (by omega), ah2i393]), (by clear ih; show ∀ j, 0 ≤ j → j ≠ vI h v0 42 → vA h15i393 (v0 + 21) j = vA h (v0 + 21) j; intro j j0 n0; rw [ah15i393 (v0 + 21) j j0, if_neg (fun z => absurd z.1 (by omega)), ah11i393 (v0 + 21) j j0, if_neg (fun z => absurd z.1 (by omega)), ah8i393 (v0 + 21) j j0, if_neg (fun z => absurd z.1 (by omega)), ah2i393 (v0 + 21) j]), (by clear ih; show ∀ j, 0 ≤ j → (j < (260 * vI h v0 42 + vA h (v0 + 21) (vI h v0 42)) ∨ 260 * vI h v0 42 + 260 ≤ j) → vA h15i393 (v0 + 26) j = vA h (v0 + 26) j ∧ vA h15i393 (v0 + 27) j = vA h (v0 + 27) j; intro j j0 n0; exact ⟨(by rw [ah15i393 (v0 + 26) j j0, if_neg (fun z => absurd z.1 (by omega)), ah11i393 (v0 + 26) j j0, if_neg (fun z => absurd z.1 (by omega)), ah8i393 (v0 + 26) j j0, if_neg (fun z => absurd z.1 (by omega)), ah2i393 (v0 + 26) j]), (by rw [ah15i393 (v0 + 27) j j0, if_neg (fun z => absurd z.1 (by omega)), ah11i393 (v0 + 27) j j0, if_neg (fun z => absurd z.1 (by omega)), ah8i393 (v0 + 27) j j0, if_neg (fun z => absurd z.1 (by omega)), ah2i393 (v0 + 27) j])⟩), (by clear ih; show ∀ j, 0 ≤ j → j ≠ vI h v0 42 → vA h15i393 (v0 + 20) j = vA h (v0 + 20) j; intro j j0 n0; rw [ah15i393 (v0 + 20) j j0, if_neg (fun z => absurd z.2 (zz_946771669d n0)), ah11i393 (v0 + 20) j j0, if_neg (fun z => absurd z.1 (by omega)), ah8i393 (v0 + 20) j j0, if_neg (fun z => absurd z.1 (by omega)), ah2i393 (v0 + 20) j]), (by clear ih; show ∀ j, 0 ≤ j → j ≠ v1 → vA h15i393 (v0 + 23) j = vA h (v0 + 23) j ∧ vA h15i393 (v0 + 24) j = vA h (v0 + 24) j ∧ vA h15i393 (v0 + 25) j = vA h (v0 + 25) j; intro j j0 n0; exact ⟨(by rw [ah15i393 (v0 + 23) j j0, if_neg (fun z => absurd z.1 (by omega)), ah11i393 (v0 + 23) j j0, if_neg (fun z => absurd z.1 (by omega)), ah8i393 (v0 + 23) j j0, if_neg (fun z => absurd z.1 (by omega)), ah2i393 (v0 + 23) j]), (by rw [ah15i393 (v0 + 24) j j0, if_neg (fun z => absurd z.1 (by omega)), ah11i393 (v0 + 24) j j0, if_neg (fun z => absurd z.1 (by omega)), ah8i393 (v0 + 24) j j0, if_neg (fun z => absurd z.2 (zz_946771669d n0)), ah2i393 (v0 + 24) j]), (by rw [ah15i393 (v0 + 25) j j0, if_neg (fun z => absurd z.1 (by omega)), ah11i393 (v0 + 25) j j0, if_neg (fun z => absurd z.2 (zz_946771669d n0)), ah8i393 (v0 + 25) j j0, if_neg (fun z => absurd z.1 (by omega)), ah2i393 (v0 + 25) j])⟩), (zz_454c40ae5e o398 o397), (zz_0de0e8ed46 o399 cc1), (zz_efa94eccad o399 cc1), (by clear ih; show vI h15i393 v0 48 = 0 → q_PM h15i393 v0 v1 ∧ vA h15i393 (v0 + 24) v1 = (260 * vI h v0 42 + vA h15i393 (v0 + 21) (vI h v0 42)); intro bb; exact ⟨q_PM_of (J (zz_24965f4b2c bb o399)) (fun j j0 j1 => ⟨by rw [ah15i393 (v0 + 26) j j0, if_neg (fun z => absurd z.1 (by omega)), ah11i393 (v0 + 26) j j0, if_neg (fun z => absurd z.1 (by omega)), ah8i393 (v0 + 26) j j0, if_neg (fun z => absurd z.1 (by omega)), ah2i393 (v0 + 26) j], by rw [ah15i393 (v0 + 27) j j0, if_neg (fun z => absurd z.1 (by omega)), ah11i393 (v0 + 27) j j0, if_neg (fun z => absurd z.1 (by omega)), ah8i393 (v0 + 27) j j0, if_neg (fun z => absurd z.1 (by omega)), ah2i393 (v0 + 27) j]⟩) (by rw [ah15i393 (v0 + 23) v1 q0, if_neg (fun z => absurd z.1 (by omega)), ah11i393 (v0 + 23) v1 q0, if_neg (fun z => absurd z.1 (by omega)), ah8i393 (v0 + 23) v1 q0, if_neg (fun z => absurd z.1 (by omega)), ah2i393 (v0 + 23) v1]; exact ef) (by rw [ah15i393 (v0 + 24) v1 q0, if_neg (fun z => absurd z.1 (by omega)), ah11i393 (v0 + 24) v1 q0, if_neg (fun z => absurd z.1 (by omega)), ah8i393 (v0 + 24) v1 q0, if_pos ⟨rfl, rfl⟩]), by rw [ah15i393 (v0 + 24) v1 q0, if_neg (fun z => absurd z.1 (by omega)), ah11i393 (v0 + 24) v1 q0, if_neg (fun z => absurd z.1 (by omega)), ah8i393 (v0 + 24) v1 q0, if_pos ⟨rfl, rfl⟩, ah15i393 (v0 + 21) (vI h v0 42) lx13i393, if_neg (fun z => absurd z.1 (by omega)), ah11i393 (v0 + 21) (vI h v0 42) lx13i393, if_neg (fun z => absurd z.1 (by omega)), ah8i393 (v0 + 21) (vI h v0 42) lx13i393, if_neg (fun z => absurd z.1 (by omega)), ah2i393 (v0 + 21) (vI h v0 42)]⟩), (zz_6acff39744 o400 ab o394), (zz_366c52b05d o401 ib)⟩
theorem p_Mod_readPattern_114 {L : q_L} {W : Nat → Prop} {h0 : z_H} {π : Nat → Nat → Option Nat} {N : Nat} {f0 : Int32} {h : z_H} {v0 : Nat} {v1 : Int32} (T : q_U L W h0 π h) (kv0 : q_M L π v0) (wM : ∀ a, v0 ≤ a → a < v0 + 46 → W a) (q0 : 0 ≤ v1) (q1 : v1 < 260) (qq : v1 = (130 * vI h v0 42 + vA h (v0 + 20) (vI h v0 42))) (pb : vA h (v0 + 20) (vI h v0 42) ≤ 128) (hl : vI h v0 48 = 0 → vI h v0 41 ≤ vI h v0 3) (hi : vI h v0 48 = 0 → vA h (v0 + 21) (vI h v0 42) ≤ vI h v0 41) (J : vI h v0 48 = 0 → q_JM (vA h (v0 + 26)) (vA h (v0 + 27)) f0 (260 * vI h v0 42 + vA h (v0 + 21) (vI h v0 42)) (vI h v0 44) (vI h v0 49) (vI h v0 50)) (ef : vA h (v0 + 23) v1 = f0) (ae : vI h v0 48 = 0 → vA h (v0 + 31) v1 ≠ 0 → vI h v0 41 < vI h v0 3) (ab : vI h v0 41 ≤ 242) (ib : vA h (v0 + 21) (vI h v0 42) ≤ 241) (hN : 100000 ≤ N) : qk (f_Mod_readPattern_114 N  N v0 v1 h) (fun r => q_U L W h0 π r.2 ∧ (r.1 = v1) ∧ (∀ a k, ¬ (a = v0 ∧ (k = 5 ∨ k = 46 ∨ k = 48 ∨ k = 50 ∨ k = 41 ∨ k = 44 ∨ k = 49 ∨ k = 45)) → vI r.2 a k = vI h a k) ∧ (∀ a j, 0 ≤ j → ¬ (a = v0 + 21 ∨ a = v0 + 26 ∨ a = v0 + 27 ∨ a = v0 + 29 ∨ a = v0 + 24 ∨ a = v0 + 25 ∨ a = v0 + 31 ∨ a = v0 + 20) → vA r.2 a j = vA h a j) ∧ (∀ j, 0 ≤ j → j ≠ vI h v0 42 → vA r.2 (v0 + 21) j = vA h (v0 + 21) j) ∧ (∀ j, 0 ≤ j → (j < (260 * vI h v0 42 + vA h (v0 + 21) (vI h v0 42)) ∨ 260 * vI h v0 42 + 260 ≤ j) → vA r.2 (v0 + 26) j = vA h (v0 + 26) j ∧ vA r.2 (v0 + 27) j = vA h (v0 + 27) j) ∧ (∀ j, 0 ≤ j → j ≠ vI h v0 42 → vA r.2 (v0 + 20) j = vA h (v0 + 20) j) ∧ (∀ j, 0 ≤ j → j ≠ v1 → vA r.2 (v0 + 23) j = vA h (v0 + 23) j ∧ vA r.2 (v0 + 24) j = vA h (v0 + 24) j ∧ vA r.2 (v0 + 25) j = vA h (v0 + 25) j) ∧ (vA r.2 (v0 + 20) (vI h v0 42) = vA h (v0 + 20) (vI h v0 42) + 1) ∧ (vI r.2 v0 48 = 0 → vI h v0 41 < vI r.2 v0 41 ∧ vI r.2 v0 41 ≤ vI h v0 3) ∧ (vI r.2 v0 48 = 0 → vA r.2 (v0 + 21) (vI h v0 42) ≤ vI r.2 v0 41) ∧ (vI r.2 v0 48 = 0 → q_PM r.2 v0 v1 ∧ vA r.2 (v0 + 24) v1 = (260 * vI h v0 42 + vA r.2 (v0 + 21) (vI h v0 42))) ∧ (vI h v0 41 ≤ vI r.2 v0 41 ∧ vI r.2 v0 41 ≤ 244) ∧ (vA h (v0 + 21) (vI h v0 42) ≤ vA r.2 (v0 + 21) (vI h v0 42) ∧ vA r.2 (v0 + 21) (vI h v0 42) ≤ 241)) := by
  have hq := q_qnN hN
  have rg_at := g_Mo_41 T kv0
  refine p_Mod_readPattern_114_n (q_lo (M := 301) (by decide) (by decide)) N v0 v1 h T kv0 wM q0 q1 qq pb hl hi J ef ae ab ib hN ?_ 
  show 301 - q_n N ≤ _
  rw [hq]
  split <;> lia
