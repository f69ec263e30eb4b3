theorem zz_a2a1d366cd {a1 : Int32} (h0 : (0 ≤ a1) ∧ (a1 ≤ 200)) (h1 : ¬ (a1 = 200)) : a1 + 1 ≤ 200 := by simp only [Int32.le_iff_toInt_le, Int32.lt_iff_toInt_lt, ← Int32.toInt_inj, ne_eq] at *; have b0 := Int32.le_toInt a1; have c0 := Int32.toInt_lt a1; have l0 : (0 : Int32).toInt = 0 := (by decide); have l1 : (200 : Int32).toInt = 200 := (by decide); have l2 : (1 : Int32).toInt = 1 := (by decide); have s0 : (a1 + 1).toInt = a1.toInt + 1 := q_tA (by decide) (by omega) (by omega); omega
theorem zz_f322ee28ee {a1 a2 : Int32} (h0 : (0 ≤ a1) ∧ (a1 ≤ 1)) (h1 : 0 ≤ a2) (h2 : a2 ≤ 41) : 0 ≤ (40 * a1) + a2 := by simp only [Int32.le_iff_toInt_le, Int32.lt_iff_toInt_lt, ← Int32.toInt_inj, ne_eq] at *; have b0 := Int32.le_toInt a1; have c0 := Int32.toInt_lt a1; have b1 := Int32.le_toInt a2; have c1 := Int32.toInt_lt a2; have l0 : (0 : Int32).toInt = 0 := (by decide); have l1 : (1 : Int32).toInt = 1 := (by decide); have l2 : (41 : Int32).toInt = 41 := (by decide); have l3 : (40 : Int32).toInt = 40 := (by decide); have s0 : (40 * a1).toInt = 40 * a1.toInt := q_tM (by decide) (by omega) (by omega); have s1 : ((40 * a1) + a2).toInt = (40 * a1).toInt + a2.toInt := q_tA rfl (by omega) (by omega); omega
theorem zz_b270ad915d {a1 a2 a3 : Int32} (h0 : (0 ≤ a1) ∧ (a1 ≤ 1)) (h1 : (0 ≤ a2) ∧ (a2 ≤ 40)) (h2 : a3 < a2) (h3 : 0 ≤ a3) (h4 : a3 ≤ 41) : (40 * a1) + a3 < 80 := by simp only [Int32.le_iff_toInt_le, Int32.lt_iff_toInt_lt, ← Int32.toInt_inj, ne_eq] at *; have b0 := Int32.le_toInt a1; have c0 := Int32.toInt_lt a1; have b1 := Int32.le_toInt a3; have c1 := Int32.toInt_lt a3; have l0 : (0 : Int32).toInt = 0 := (by decide); have l1 : (1 : Int32).toInt = 1 := (by decide); have l2 : (40 : Int32).toInt = 40 := (by decide); have l3 : (41 : Int32).toInt = 41 := (by decide); have l4 : (80 : Int32).toInt = 80 := (by decide); have s0 : (40 * a1).toInt = 40 * a1.toInt := q_tM (by decide) (by omega) (by omega); have s1 : ((40 * a1) + a3).toInt = (40 * a1).toInt + a3.toInt := q_tA rfl (by omega) (by omega); omega
theorem zz_0a9e23b792 {a1 a2 a3 : Int32} (h0 : a1 = a2) (h1 : 0 ≤ a3) (h2 : (0 ≤ a2) ∧ (a2 ≤ 1)) (h3 : a3 ≤ 41) : 40 * a1 ≤ (40 * a2) + a3 := by simp only [Int32.le_iff_toInt_le, Int32.lt_iff_toInt_lt, ← Int32.toInt_inj, ne_eq] at *; have b0 := Int32.le_toInt a1; have c0 := Int32.toInt_lt a1; have b1 := Int32.le_toInt a2; have c1 := Int32.toInt_lt a2; have b2 := Int32.le_toInt a3; have c2 := Int32.toInt_lt a3; have l0 : (0 : Int32).toInt = 0 := (by decide); have l1 : (1 : Int32).toInt = 1 := (by decide); have l2 : (41 : Int32).toInt = 41 := (by decide); have l3 : (40 : Int32).toInt = 40 := (by decide); have s0 : (40 * a1).toInt = 40 * a1.toInt := q_tM (by decide) (by omega) (by omega); have s1 : (40 * a2).toInt = 40 * a2.toInt := q_tM (by decide) (by omega) (by omega); have s2 : ((40 * a2) + a3).toInt = (40 * a2).toInt + a3.toInt := q_tA rfl (by omega) (by omega); omega
theorem zz_e476677591 {a1 a2 a3 a4 : Int32} (h0 : a1 = a2) (h1 : (0 ≤ a3) ∧ (a3 ≤ 40)) (h2 : a4 < a3) (h3 : (0 ≤ a2) ∧ (a2 ≤ 1)) (h4 : 0 ≤ a4) (h5 : a4 ≤ 41) : (40 * a2) + a4 < (40 * a1) + 40 := by simp only [Int32.le_iff_toInt_le, Int32.lt_iff_toInt_lt, ← Int32.toInt_inj, ne_eq] at *; have b0 := Int32.le_toInt a2; have c0 := Int32.toInt_lt a2; have b1 := Int32.le_toInt a4; have c1 := Int32.toInt_lt a4; have b2 := Int32.le_toInt a1; have c2 := Int32.toInt_lt a1; have l0 : (0 : Int32).toInt = 0 := (by decide); have l1 : (40 : Int32).toInt = 40 := (by decide); have l2 : (1 : Int32).toInt = 1 := (by decide); have l3 : (41 : Int32).toInt = 41 := (by decide); have s0 : (40 * a2).toInt = 40 * a2.toInt := q_tM (by decide) (by omega) (by omega); have s1 : ((40 * a2) + a4).toInt = (40 * a2).toInt + a4.toInt := q_tA rfl (by omega) (by omega); have s2 : (40 * a1).toInt = 40 * a1.toInt := q_tM (by decide) (by omega) (by omega); have s3 : ((40 * a1) + 40).toInt = (40 * a1).toInt + 40 := q_tA (by decide) (by omega) (by omega); omega
theorem zz_7da8aaae5c {a1 a2 : Int32} (h0 : a1 < a2) : a1 < a2 := by simp only [Int32.le_iff_toInt_le, Int32.lt_iff_toInt_lt, ← Int32.toInt_inj, ne_eq] at *; omega
theorem zz_7abb27ab70 {a1 a2 a3 a4 : Int32} (h0 : (0 ≤ a1) → ((a1 < a2) → ((a3 = 123) → (0 ≤ a4)))) (h1 : 0 ≤ a1) (h2 : a1 < a2) (h3 : a3 = 123) : 0 ≤ a4 := by simp only [Int32.le_iff_toInt_le, Int32.lt_iff_toInt_lt, ← Int32.toInt_inj, ne_eq] at *; have l0 : (0 : Int32).toInt = 0 := (by decide); have l1 : (123 : Int32).toInt = 123 := (by decide); omega
theorem zz_e79034199b {a1 : Int32} (h0 : (-1 ≤ a1) ∧ (a1 ≤ 40)) : a1 ≤ 41 := by simp only [Int32.le_iff_toInt_le, Int32.lt_iff_toInt_lt, ← Int32.toInt_inj, ne_eq] at *; have l0 : (-1 : Int32).toInt = -1 := (by decide); have l1 : (40 : Int32).toInt = 40 := (by decide); have l2 : (41 : Int32).toInt = 41 := (by decide); omega
theorem zz_738d1c57cd {a1 a2 a3 a4 a5 a6 a7 a8 : Int32} (h0 : a1 = a2 + 1) (h1 : (0 ≤ a2) ∧ (a2 ≤ 200)) (h2 : a3 = a4) (h3 : (0 ≤ a4) ∧ (a4 ≤ 12)) (h4 : a5 ≤ (if a6 = 0 then a2 + a4 else 300)) (h5 : a7 ≤ a5 + 1) (h6 : a6 = 0) (h7 : -100000 ≤ a5) (h8 : a5 ≤ 100000) : a7 ≤ (if a8 = 0 then a1 + a3 else 300) := by split at h4 <;> split <;> (simp only [Int32.le_iff_toInt_le, Int32.lt_iff_toInt_lt, ← Int32.toInt_inj, ne_eq] at *; have b0 := Int32.le_toInt a2; have c0 := Int32.toInt_lt a2; have b1 := Int32.le_toInt a4; have c1 := Int32.toInt_lt a4; have b2 := Int32.le_toInt a5; have c2 := Int32.toInt_lt a5; have b3 := Int32.le_toInt a1; have c3 := Int32.toInt_lt a1; have b4 := Int32.le_toInt a3; have c4 := Int32.toInt_lt a3; have l0 : (1 : Int32).toInt = 1 := (by decide); have l1 : (0 : Int32).toInt = 0 := (by decide); have l2 : (200 : Int32).toInt = 200 := (by decide); have l3 : (12 : Int32).toInt = 12 := (by decide); have l4 : (300 : Int32).toInt = 300 := (by decide); have l5 : (-100000 : Int32).toInt = -100000 := (by decide); have l6 : (100000 : Int32).toInt = 100000 := (by decide); have s0 : (a2 + 1).toInt = a2.toInt + 1 := q_tA (by decide) (by omega) (by omega); have s1 : (a2 + a4).toInt = a2.toInt + a4.toInt := q_tA rfl (by omega) (by omega); have s2 : (a5 + 1).toInt = a5.toInt + 1 := q_tA (by decide) (by omega) (by omega); have s3 : (a1 + a3).toInt = a1.toInt + a3.toInt := q_tA rfl (by omega) (by omega); omega)
theorem zz_d60c3a55b9 {a1 : Int32} (h0 : 0 ≤ a1) (h1 : a1 ≤ 41) : 0 ≤ a1 + 1 := by simp only [Int32.le_iff_toInt_le, Int32.lt_iff_toInt_lt, ← Int32.toInt_inj, ne_eq] at *; have b0 := Int32.le_toInt a1; have c0 := Int32.toInt_lt a1; have l0 : (0 : Int32).toInt = 0 := (by decide); have l1 : (41 : Int32).toInt = 41 := (by decide); have l2 : (1 : Int32).toInt = 1 := (by decide); have s0 : (a1 + 1).toInt = a1.toInt + 1 := q_tA (by decide) (by omega) (by omega); omega
theorem zz_0433609b90 {a1 a2 : Int32} (h0 : (0 ≤ a1) ∧ (a1 ≤ 40)) (h1 : a2 < a1) (h2 : 0 ≤ a2) (h3 : a2 ≤ 41) : a2 + 1 ≤ 41 := by simp only [Int32.le_iff_toInt_le, Int32.lt_iff_toInt_lt, ← Int32.toInt_inj, ne_eq] at *; have b0 := Int32.le_toInt a2; have c0 := Int32.toInt_lt a2; have l0 : (0 : Int32).toInt = 0 := (by decide); have l1 : (40 : Int32).toInt = 40 := (by decide); have l2 : (41 : Int32).toInt = 41 := (by decide); have l3 : (1 : Int32).toInt = 1 := (by decide); have s0 : (a2 + 1).toInt = a2.toInt + 1 := q_tA (by decide) (by omega) (by omega); omega
theorem zz_d179331ecb {a1 a2 : Int32} (h0 : (0 ≤ a1) ∧ (a1 ≤ 40)) (h1 : a2 < a1) : a2 ≤ 40 := by simp only [Int32.le_iff_toInt_le, Int32.lt_iff_toInt_lt, ← Int32.toInt_inj, ne_eq] at *; have l0 : (0 : Int32).toInt = 0 := (by decide); have l1 : (40 : Int32).toInt = 40 := (by decide); omega
theorem zz_4993cb1172 {a1 a2 a3 a4 a5 a6 a7 a8 a9 a10 : Int32} (h0 : a1 = a2) (h1 : a3 = a4) (h2 : a5 = a6) (h3 : (0 ≤ a7) → ((a7 < a8) → (((a2 = 97) ∨ ((a2 = 99) ∨ (a2 = 105))) → ((300 * a9 ≤ a4) ∧ ((a4 ≤ a6) ∧ (a6 ≤ (300 * a9) + a10)))))) (h4 : (0 ≤ a10) ∧ (a10 ≤ 299)) (h5 : 0 ≤ a7) (h6 : a7 < a8) (h7 : (0 ≤ a9) ∧ (a9 ≤ 1)) (h8 : (0 ≤ a4) ∧ (a4 ≤ 600)) : ((a1 = 97) ∨ ((a1 = 99) ∨ (a1 = 105))) → ((a3 ≤ a5) ∧ (a5 ≤ a3 + 300)) := by simp only [Int32.le_iff_toInt_le, Int32.lt_iff_toInt_lt, ← Int32.toInt_inj, ne_eq] at *; have b0 := Int32.le_toInt a9; have c0 := Int32.toInt_lt a9; have b1 := Int32.le_toInt a10; have c1 := Int32.toInt_lt a10; have b2 := Int32.le_toInt a3; have c2 := Int32.toInt_lt a3; have l0 : (0 : Int32).toInt = 0 := (by decide); have l1 : (97 : Int32).toInt = 97 := (by decide); have l2 : (99 : Int32).toInt = 99 := (by decide); have l3 : (105 : Int32).toInt = 105 := (by decide); have l4 : (300 : Int32).toInt = 300 := (by decide); have l5 : (299 : Int32).toInt = 299 := (by decide); have l6 : (1 : Int32).toInt = 1 := (by decide); have l7 : (600 : Int32).toInt = 600 := (by decide); have s0 : (300 * a9).toInt = 300 * a9.toInt := q_tM (by decide) (by omega) (by omega); have s1 : ((300 * a9) + a10).toInt = (300 * a9).toInt + a10.toInt := q_tA rfl (by omega) (by omega); have s2 : (a3 + 300).toInt = a3.toInt + 300 := q_tA (by decide) (by omega) (by omega); omega
theorem zz_19dc7388f7 {a1 a2 a3 a4 a5 a6 a7 a8 a9 a10 a11 a12 : Int32} (h0 : a1 = a2) (h1 : a3 = a4) (h2 : a5 = a6) (h3 : a7 = a8) (h4 : (0 ≤ a9) → ((a9 < a10) → ((a2 = 121) → ((300 * a11 ≤ a4) ∧ ((a4 ≤ a6) ∧ ((a8 = a6 + (a6 - a4)) ∧ (a8 ≤ (300 * a11) + a12))))))) (h5 : 0 ≤ a9) (h6 : a9 < a10) (h7 : (0 ≤ a11) ∧ (a11 ≤ 1)) (h8 : (0 ≤ a6) ∧ (a6 ≤ 600)) (h9 : (0 ≤ a4) ∧ (a4 ≤ 600)) (h10 : (0 ≤ a12) ∧ (a12 ≤ 299)) : (a1 = 121) → ((a3 ≤ a5) ∧ (a7 = a5 + (a5 - a3))) := by simp only [Int32.le_iff_toInt_le, Int32.lt_iff_toInt_lt, ← Int32.toInt_inj, ne_eq] at *; have b0 := Int32.le_toInt a11; have c0 := Int32.toInt_lt a11; have b1 := Int32.le_toInt a6; have c1 := Int32.toInt_lt a6; have b2 := Int32.le_toInt a4; have c2 := Int32.toInt_lt a4; have b3 := Int32.le_toInt a12; have c3 := Int32.toInt_lt a12; have b4 := Int32.le_toInt a5; have c4 := Int32.toInt_lt a5; have b5 := Int32.le_toInt a3; have c5 := Int32.toInt_lt a3; have l0 : (0 : Int32).toInt = 0 := (by decide); have l1 : (121 : Int32).toInt = 121 := (by decide); have l2 : (300 : Int32).toInt = 300 := (by decide); have l3 : (1 : Int32).toInt = 1 := (by decide); have l4 : (600 : Int32).toInt = 600 := (by decide); have l5 : (299 : Int32).toInt = 299 := (by decide); have s0 : (300 * a11).toInt = 300 * a11.toInt := q_tM (by decide) (by omega) (by omega); have s1 : (a6 - a4).toInt = a6.toInt - a4.toInt := q_tS rfl (by omega) (by omega); have s2 : (a6 + (a6 - a4)).toInt = a6.toInt + (a6 - a4).toInt := q_tA rfl (by omega) (by omega); have s3 : ((300 * a11) + a12).toInt = (300 * a11).toInt + a12.toInt := q_tA rfl (by omega) (by omega); have s4 : (a5 - a3).toInt = a5.toInt - a3.toInt := q_tS rfl (by omega) (by omega); have s5 : (a5 + (a5 - a3)).toInt = a5.toInt + (a5 - a3).toInt := q_tA rfl (by omega) (by omega); omega
theorem zz_00efdf969c {a1 : Int32} (h0 : (0 ≤ a1) ∧ (a1 ≤ 41)) : 0 ≤ a1 := by simp only [Int32.le_iff_toInt_le, Int32.lt_iff_toInt_lt, ← Int32.toInt_inj, ne_eq] at *; have l0 : (0 : Int32).toInt = 0 := (by decide); have l1 : (41 : Int32).toInt = 41 := (by decide); omega
theorem zz_8a9a9d7dbc {a1 : Int32} (h0 : (0 ≤ a1) ∧ (a1 ≤ 41)) : a1 ≤ 41 := by simp only [Int32.le_iff_toInt_le, Int32.lt_iff_toInt_lt, ← Int32.toInt_inj, ne_eq] at *; have l0 : (0 : Int32).toInt = 0 := (by decide); have l1 : (41 : Int32).toInt = 41 := (by decide); omega
theorem zz_07830ae4da {a1 a2 a3 a4 a5 : Int32} (h0 : a1 = a2) (h1 : (a3 ≤ a4) ∧ (a4 ≤ a5)) (h2 : a5 = a2) : a4 ≤ a1 := by simp only [Int32.le_iff_toInt_le, Int32.lt_iff_toInt_lt, ← Int32.toInt_inj, ne_eq] at *; omega
theorem zz_536ea9db92 {a1 a2 a3 a4 a5 a6 a7 a8 a9 a10 : Int32} (h0 : a1 = a2 + 1) (h1 : (0 ≤ a2) ∧ (a2 ≤ 200)) (h2 : a3 ≤ (if a4 = 0 then a2 + a5 else 300)) (h3 : (0 ≤ a5) ∧ (a5 ≤ 12)) (h4 : a6 ≤ a3 + 1) (h5 : (a7 ≤ a8) ∧ (a8 ≤ a9)) (h6 : a7 = a5) (h7 : a4 = 0) (h8 : -100000 ≤ a3) (h9 : a3 ≤ 100000) (h10 : (0 ≤ a8) ∧ (a8 ≤ 12)) : a6 ≤ (if a10 = 0 then a1 + a8 else 300) := by split at h2 <;> split <;> (simp only [Int32.le_iff_toInt_le, Int32.lt_iff_toInt_lt, ← Int32.toInt_inj, ne_eq] at *; have b0 := Int32.le_toInt a2; have c0 := Int32.toInt_lt a2; have b1 := Int32.le_toInt a5; have c1 := Int32.toInt_lt a5; have b2 := Int32.le_toInt a3; have c2 := Int32.toInt_lt a3; have b3 := Int32.le_toInt a1; have c3 := Int32.toInt_lt a1; have b4 := Int32.le_toInt a8; have c4 := Int32.toInt_lt a8; have l0 : (1 : Int32).toInt = 1 := (by decide); have l1 : (0 : Int32).toInt = 0 := (by decide); have l2 : (200 : Int32).toInt = 200 := (by decide); have l3 : (300 : Int32).toInt = 300 := (by decide); have l4 : (12 : Int32).toInt = 12 := (by decide); have l5 : (-100000 : Int32).toInt = -100000 := (by decide); have l6 : (100000 : Int32).toInt = 100000 := (by decide); have s0 : (a2 + 1).toInt = a2.toInt + 1 := q_tA (by decide) (by omega) (by omega); have s1 : (a2 + a5).toInt = a2.toInt + a5.toInt := q_tA rfl (by omega) (by omega); have s2 : (a3 + 1).toInt = a3.toInt + 1 := q_tA (by decide) (by omega) (by omega); have s3 : (a1 + a8).toInt = a1.toInt + a8.toInt := q_tA rfl (by omega) (by omega); omega)
theorem zz_1c9b76b829 {a1 : Int32} (h0 : a1 = 0) : 0 ≤ a1 := by simp only [Int32.le_iff_toInt_le, Int32.lt_iff_toInt_lt, ← Int32.toInt_inj, ne_eq] at *; have l0 : (0 : Int32).toInt = 0 := (by decide); omega
theorem zz_9cdbeb6149 {a1 : Int32} (h0 : a1 = 0) : a1 ≤ 41 := by simp only [Int32.le_iff_toInt_le, Int32.lt_iff_toInt_lt, ← Int32.toInt_inj, ne_eq] at *; have l0 : (0 : Int32).toInt = 0 := (by decide); have l1 : (41 : Int32).toInt = 41 := (by decide); omega
theorem zz_cea0a57f15 {a1 a2 a3 a4 a5 a6 a7 a8 : Int32} (h0 : a1 = a2) (h1 : (0 ≤ a2) ∧ (a2 ≤ 200)) (h2 : a3 ≤ (if a4 = 0 then a2 + a5 else 300)) (h3 : (0 ≤ a5) ∧ (a5 ≤ 12)) (h4 : a6 ≤ a3 + 1) (h5 : (a7 ≠ 0) ∨ (a8 = a5 + 1)) (h6 : a4 = 0) (h7 : -100000 ≤ a3) (h8 : a3 ≤ 100000) (h9 : (0 ≤ a8) ∧ (a8 ≤ 12)) : a6 ≤ (if a7 = 0 then a1 + a8 else 300) := by split at h2 <;> split <;> (simp only [Int32.le_iff_toInt_le, Int32.lt_iff_toInt_lt, ← Int32.toInt_inj, ne_eq] at *; have b0 := Int32.le_toInt a2; have c0 := Int32.toInt_lt a2; have b1 := Int32.le_toInt a5; have c1 := Int32.toInt_lt a5; have b2 := Int32.le_toInt a3; have c2 := Int32.toInt_lt a3; have b3 := Int32.le_toInt a1; have c3 := Int32.toInt_lt a1; have b4 := Int32.le_toInt a8; have c4 := Int32.toInt_lt a8; have l0 : (0 : Int32).toInt = 0 := (by decide); have l1 : (200 : Int32).toInt = 200 := (by decide); have l2 : (300 : Int32).toInt = 300 := (by decide); have l3 : (12 : Int32).toInt = 12 := (by decide); have l4 : (1 : Int32).toInt = 1 := (by decide); have l5 : (-100000 : Int32).toInt = -100000 := (by decide); have l6 : (100000 : Int32).toInt = 100000 := (by decide); have s0 : (a2 + a5).toInt = a2.toInt + a5.toInt := q_tA rfl (by omega) (by omega); have s1 : (a3 + 1).toInt = a3.toInt + 1 := q_tA (by decide) (by omega) (by omega); have s2 : (a5 + 1).toInt = a5.toInt + 1 := q_tA (by decide) (by omega) (by omega); have s3 : (a1 + a8).toInt = a1.toInt + a8.toInt := q_tA rfl (by omega) (by omega); omega)
set_option maxHeartbeats 8000000 in
theorem p_Mod_run_118_n {L : q_L} {W : Nat → Prop} {h0 : z_H} {π : Nat → Nat → Option Nat} {N : Nat} {lo : Nat → Int32} (hqn : q_Q lo 301) : ∀ (n : Nat) (v0 : Nat) (v1 : Int32) (h : z_H), q_U L W h0 π h → q_M L π v0 → (∀ a, v0 ≤ a → a < v0 + 46 → W a) → (0 ≤ v1) → (v1 ≤ 41) → (q_LV h v0 (vI h v0 7)) → (vI h v0 68 = 0 ∨ vA h (v0 + 42) (vI h v0 68 - 1) = 10) → (vI h v0 70 ≤ vI h v0 4) → (100000 ≤ N) → (lo n ≤ (if vI h v0 76 = 0 then vI h v0 71 + vI h v0 70 else 300)) → qk (f_Mod_run_118 N  n v0 v1 h) (fun r => q_U L W h0 π r.2 ∧ (∀ a k, ¬ (a = v0 ∧ (k = 6 ∨ k = 76 ∨ k = 69 ∨ k = 67 ∨ k = 68 ∨ k = 65 ∨ k = 66 ∨ k = 70 ∨ k = 72 ∨ k = 73 ∨ k = 74 ∨ k = 54 ∨ k = 55 ∨ k = 56 ∨ k = 57 ∨ k = 71 ∨ k = 75)) → vI r.2 a k = vI h a k) ∧ (∀ a j, 0 ≤ j → ¬ (a = v0 + 43 ∨ a = v0 + 41 ∨ a = v0 + 39 ∨ a = v0 + 40 ∨ a = v0 + 42 ∨ a = v0 + 36 ∨ a = v0 + 37 ∨ a = v0 + 38 ∨ a = v0 + 45) → vA r.2 a j = vA h a j)) := by
  intro n
  induction n with
  | zero => intro v0 v1 h T kv0 wM k0 k1 LV AP rl hN hms; have rg_b := g_Mo_71 T kv0; have rg_r := g_Mo_70 T kv0; have hz := hqn.1; exact absurd hms (by grind)
  | succ n ih =>
    intro v0 v1 h T kv0 wM k0 k1 LV AP rl hN hms
    obtain ⟨hq1, hq2, hq3⟩ := hqn.2 n
    rw [f_Mod_run_118]
    have m1 : 0 ≤ v1 → v1 < vA h (v0 + 19) (vI h v0 7) → vA h (v0 + 4) (40 * vI h v0 7 + v1) = 97 ∨ vA h (v0 + 4) (40 * vI h v0 7 + v1) = 99 ∨ vA h (v0 + 4) (40 * vI h v0 7 + v1) = 105 → 300 * vI h v0 7 ≤ vA h (v0 + 10) (40 * vI h v0 7 + v1) ∧ vA h (v0 + 10) (40 * vI h v0 7 + v1) ≤ vA h (v0 + 11) (40 * vI h v0 7 + v1) ∧ vA h (v0 + 11) (40 * vI h v0 7 + v1) ≤ 300 * vI h v0 7 + vA h (v0 + 22) (vI h v0 7) := fun a b c => (LV v1 a b).1.2.2.2.2 c
    have m2 : 0 ≤ v1 → v1 < vA h (v0 + 19) (vI h v0 7) → vA h (v0 + 4) (40 * vI h v0 7 + v1) = 121 → 300 * vI h v0 7 ≤ vA h (v0 + 10) (40 * vI h v0 7 + v1) ∧ vA h (v0 + 10) (40 * vI h v0 7 + v1) ≤ vA h (v0 + 12) (40 * vI h v0 7 + v1) ∧ vA h (v0 + 11) (40 * vI h v0 7 + v1) = vA h (v0 + 12) (40 * vI h v0 7 + v1) + (vA h (v0 + 12) (40 * vI h v0 7 + v1) - vA h (v0 + 10) (40 * vI h v0 7 + v1)) ∧ vA h (v0 + 11) (40 * vI h v0 7 + v1) ≤ 300 * vI h v0 7 + vA h (v0 + 22) (vI h v0 7) := fun a b c => (LV v1 a b).1.2.2.2.1 c
    have m3 : 0 ≤ v1 → v1 < vA h (v0 + 19) (vI h v0 7) → vA h (v0 + 4) (40 * vI h v0 7 + v1) = 123 → 0 ≤ vA h (v0 + 13) (40 * vI h v0 7 + v1) := fun a b c => (LV v1 a b).2 c
    refine r_Mo_76 T kv0 ?_
    intro x1 ex1
    subst ex1
    refine qk_if (fun cc1 => ?_) (fun cc1 => ?_)
    · skip
      refine r_Mo_24 T kv0 ?_
      refine r_Mo_7 T kv0 ?_
      intro x5 ex5 lx5 ux5
      subst ex5
      have o2 := g_Mo_7 T kv0
      refine r_Mo_e19 T kv0 lx5 (zz_e1f2e57bfa o2) ?_
      intro x6 ex6 lx6 ux6
      subst ex6
      refine qk_if (fun cc3 => ?_) (fun cc3 => ?_)
      · skip
        refine r_Mo_71 T kv0 ?_
        intro x8 ex8 lx8 ux8
        subst ex8
        refine qk_if (fun cc4 => ?_) (fun cc4 => ?_)
        · skip
          refine r_Mo_o T kv0 ?_
          refine c_Mod_fail (v0 := v0) (v1 := 3) T kv0 wM ?_
          intro yr30 hr30 Tr30 gr30_0 gr30_1 gr30_2
          dsimp only
          refine qk_some ?_
          exact ⟨Tr30, (by clear ih; show ∀ a k, ¬ (a = v0 ∧ (k = 6 ∨ k = 76 ∨ k = 69 ∨ k = 67 ∨ k = 68 ∨ k = 65 ∨ k = 66 ∨ k = 70 ∨ k = 72 ∨ k = 73 ∨ k = 74 ∨ k = 54 ∨ k = 55 ∨ k = 56 ∨ k = 57 ∨ k = 71 ∨ k = 75)) → vI hr30 a k = vI h a k; intro a k n0; rw [gr30_1 a k, if_neg (by omega)]), (by clear ih; show ∀ a j, 0 ≤ j → ¬ (a = v0 + 43 ∨ a = v0 + 41 ∨ a = v0 + 39 ∨ a = v0 + 40 ∨ a = v0 + 42 ∨ a = v0 + 36 ∨ a = v0 + 37 ∨ a = v0 + 38 ∨ a = v0 + 45) → vA hr30 a j = vA h a j; intro a j j0 n0; rw [gr30_2 a j])⟩
        · skip
          refine r_Mo_71 T kv0 ?_
          intro x10 ex10 lx10 ux10
          subst ex10
          have o5 := g_Mo_71 T kv0
          refine w_Mo_71 T kv0 (wM _ (by omega) (by omega)) (zz_3945d7ec4f o5) (zz_a2a1d366cd o5 cc4) ?_
          intro h11 Th11 ih11 ah11
          refine r_Mo_7 Th11 kv0 ?_
          intro x12 ex12 lx12 ux12
          have sx12 : (vI h v0 7) = x12 := (ex12.trans (by rw [ih11 v0 7, if_neg (fun z => absurd z.2 (by decide))])).symm
          subst sx12
          refine qk_bs ?_
          refine r_Mo_o Th11 kv0 ?_
          have o6 := g_Mo_e19 T kv0 (vI h v0 7)
          have o7 : vI h11 v0 7 = vI h v0 7 := (by rw [ih11 v0 7, if_neg (fun z => absurd z.2 (by decide))])
          refine c_Mod_isDone (v0 := v0) (v1 := ((40 * (vI h v0 7)) + v1)) Th11 kv0 wM (zz_f322ee28ee o2 k0 k1) (zz_b270ad915d o2 o6 cc3 k0 k1) (zz_0a9e23b792 o7 k0 o2 k1) (zz_e476677591 o7 o6 cc3 o2 k0 k1) (by clear ih; intro e; rw [ah11 (v0 + 5) (40 * vI h v0 7 + v1)] at e; rw [ah11 (v0 + 6) (40 * vI h v0 7 + v1)]; exact q_PM_run ((LV v1 k0 (zz_7da8aaae5c cc3)).1.1 e).1 (g_Mo_e6 T kv0 _).1 (fun a j j0 na => by rw [ah11])) (by clear ih; intro e; rw [ah11 (v0 + 7) (40 * vI h v0 7 + v1)] at e; rw [ah11 (v0 + 8) (40 * vI h v0 7 + v1)]; exact q_PM_run ((LV v1 k0 (zz_7da8aaae5c cc3)).1.2.1 e).1 (g_Mo_e8 T kv0 _).1 (fun a j j0 na => by rw [ah11])) hN ?_
          intro yr15 hr15 Tr15 gr15_0 gr15_1
          dsimp only
          refine qk_bs ?_
          refine r_Mo_9 Tr15 kv0 ?_
          refine r_Mo_e4 Tr15 kv0 (zz_f322ee28ee o2 k0 k1) (zz_b270ad915d o2 o6 cc3 k0 k1) ?_
          intro x18 ex18
          have sx18 : (vA h (v0 + 4) ((40 * (vI h v0 7)) + v1)) = x18 := (ex18.trans (by rw [gr15_1 (v0 + 4) ((40 * (vI h v0 7)) + v1) (zz_f322ee28ee o2 k0 k1) (by omega), ah11 (v0 + 4) ((40 * (vI h v0 7)) + v1)])).symm
          subst sx18
          refine qk_if (fun cc8 => ?_) (fun cc8 => ?_)
          · skip
            refine qk_if (fun cc9 => ?_) (fun cc9 => ?_)
            · skip
              refine r_Mo_18 Tr15 kv0 ?_
              refine r_Mo_e13 Tr15 kv0 (zz_f322ee28ee o2 k0 k1) (zz_b270ad915d o2 o6 cc3 k0 k1) ?_
              intro x27 ex27 lx27 ux27
              have sx27 : (vA h (v0 + 13) ((40 * (vI h v0 7)) + v1)) = x27 := (ex27.trans (by rw [gr15_1 (v0 + 13) ((40 * (vI h v0 7)) + v1) (zz_f322ee28ee o2 k0 k1) (by omega), ah11 (v0 + 13) ((40 * (vI h v0 7)) + v1)])).symm
              subst sx27
              have o10 := g_Mo_e13 T kv0 ((40 * (vI h v0 7)) + v1)
              have o11 := g_Mo_68 T kv0
              have o12 : vI hr15 v0 70 = vI h v0 70 := (by rw [gr15_0 v0 70 (by omega), ih11 v0 70, if_neg (fun z => absurd z.2 (by decide))])
              have o13 : vI hr15 v0 4 = vI h v0 4 := (by rw [gr15_0 v0 4 (by omega), ih11 v0 4, if_neg (fun z => absurd z.2 (by decide))])
              have o14 : vI hr15 v0 71 = (vI h v0 71) + 1 := (by rw [gr15_0 v0 71 (by omega), ih11 v0 71, if_pos ⟨rfl, rfl⟩])
              have o15 := g_Mo_70 T kv0
              refine qk_mono (ih (v0) ((vA h (v0 + 13) ((40 * (vI h v0 7)) + v1))) hr15 Tr15 kv0 wM (zz_7abb27ab70 m3 k0 cc3 cc8) (zz_e79034199b o10) (by clear ih; rw [gr15_0 v0 7 (by omega), ih11 v0 7, if_neg (fun z => absurd z.2 (by decide))]; exact q_LV_run LV (g_Mo_7 T kv0).1 (g_Mo_7 T kv0).2 (g_Mo_e19 T kv0 (vI h v0 7)).2 (g_Mo_e22 T kv0 (vI h v0 7)).1 (g_Mo_e22 T kv0 (vI h v0 7)).2 (fun a j j0 na => by rw [gr15_1 a j j0 (by omega), ah11])) (by clear ih; by_cases z : vI h v0 68 = 0; (left; rw [gr15_0 v0 68 (by omega), ih11 v0 68, if_neg (fun z => absurd z.2 (by decide))]; exact z); (right; have jz : 0 ≤ vI h v0 68 - 1 := (zz_e8fb340edd o11 z); rw [gr15_0 v0 68 (by omega), ih11 v0 68, if_neg (fun z => absurd z.2 (by decide))]; rw [gr15_1 (v0 + 42) (vI h v0 68 - 1) jz (by omega), ah11 (v0 + 42) (vI h v0 68 - 1)]; exact (AP).resolve_left z)) (zz_3b376fc0b5 o12 o13 rl) hN (zz_738d1c57cd o14 o5 o12 o15 hms hq1 cc1 hq2 hq3)) ?_
              rintro ⟨y, hz⟩ ⟨Tz, g0, g1⟩
              try dsimp only at *
              exact ⟨Tz, (by clear ih; show ∀ a k, ¬ (a = v0 ∧ (k = 6 ∨ k = 76 ∨ k = 69 ∨ k = 67 ∨ k = 68 ∨ k = 65 ∨ k = 66 ∨ k = 70 ∨ k = 72 ∨ k = 73 ∨ k = 74 ∨ k = 54 ∨ k = 55 ∨ k = 56 ∨ k = 57 ∨ k = 71 ∨ k = 75)) → vI hz a k = vI h a k; intro a k n0; rw [g0 a k (by omega), gr15_0 a k (by omega), ih11, if_neg (by omega)]), (by clear ih; show ∀ a j, 0 ≤ j → ¬ (a = v0 + 43 ∨ a = v0 + 41 ∨ a = v0 + 39 ∨ a = v0 + 40 ∨ a = v0 + 42 ∨ a = v0 + 36 ∨ a = v0 + 37 ∨ a = v0 + 38 ∨ a = v0 + 45) → vA hz a j = vA h a j; intro a j j0 n0; rw [g1 a j j0 (by omega), gr15_1 a j j0 (by omega), ah11])⟩
            · skip
              refine qk_bs ?_
              have o17 := g_Mo_68 T kv0
              have o18 : vI hr15 v0 70 = vI h v0 70 := (by rw [gr15_0 v0 70 (by omega), ih11 v0 70, if_neg (fun z => absurd z.2 (by decide))])
              have o19 : vI hr15 v0 4 = vI h v0 4 := (by rw [gr15_0 v0 4 (by omega), ih11 v0 4, if_neg (fun z => absurd z.2 (by decide))])
              have o20 : vI hr15 v0 71 = (vI h v0 71) + 1 := (by rw [gr15_0 v0 71 (by omega), ih11 v0 71, if_pos ⟨rfl, rfl⟩])
              have o21 := g_Mo_70 T kv0
              refine qk_mono (ih (v0) ((v1 + 1)) hr15 Tr15 kv0 wM (zz_d60c3a55b9 k0 k1) (zz_0433609b90 o6 cc3 k0 k1) (by clear ih; rw [gr15_0 v0 7 (by omega), ih11 v0 7, if_neg (fun z => absurd z.2 (by decide))]; exact q_LV_run LV (g_Mo_7 T kv0).1 (g_Mo_7 T kv0).2 (g_Mo_e19 T kv0 (vI h v0 7)).2 (g_Mo_e22 T kv0 (vI h v0 7)).1 (g_Mo_e22 T kv0 (vI h v0 7)).2 (fun a j j0 na => by rw [gr15_1 a j j0 (by omega), ah11])) (by clear ih; by_cases z : vI h v0 68 = 0; (left; rw [gr15_0 v0 68 (by omega), ih11 v0 68, if_neg (fun z => absurd z.2 (by decide))]; exact z); (right; have jz : 0 ≤ vI h v0 68 - 1 := (zz_e8fb340edd o17 z); rw [gr15_0 v0 68 (by omega), ih11 v0 68, if_neg (fun z => absurd z.2 (by decide))]; rw [gr15_1 (v0 + 42) (vI h v0 68 - 1) jz (by omega), ah11 (v0 + 42) (vI h v0 68 - 1)]; exact (AP).resolve_left z)) (zz_3b376fc0b5 o18 o19 rl) hN (zz_738d1c57cd o20 o5 o18 o21 hms hq1 cc1 hq2 hq3)) ?_
              rintro ⟨y, hz⟩ ⟨Tz, g0, g1⟩
              try dsimp only at *
              exact ⟨Tz, (by clear ih; show ∀ a k, ¬ (a = v0 ∧ (k = 6 ∨ k = 76 ∨ k = 69 ∨ k = 67 ∨ k = 68 ∨ k = 65 ∨ k = 66 ∨ k = 70 ∨ k = 72 ∨ k = 73 ∨ k = 74 ∨ k = 54 ∨ k = 55 ∨ k = 56 ∨ k = 57 ∨ k = 71 ∨ k = 75)) → vI hz a k = vI h a k; intro a k n0; rw [g0 a k (by omega), gr15_0 a k (by omega), ih11, if_neg (by omega)]), (by clear ih; show ∀ a j, 0 ≤ j → ¬ (a = v0 + 43 ∨ a = v0 + 41 ∨ a = v0 + 39 ∨ a = v0 + 40 ∨ a = v0 + 42 ∨ a = v0 + 36 ∨ a = v0 + 37 ∨ a = v0 + 38 ∨ a = v0 + 45) → vA hz a j = vA h a j; intro a j j0 n0; rw [g1 a j j0 (by omega), gr15_1 a j j0 (by omega), ah11])⟩
          · skip
            refine qk_if (fun cc23 => ?_) (fun cc23 => ?_)
            · skip
              refine qk_bs ?_
              have o24 := g_Mo_68 T kv0
              have o25 : vI hr15 v0 70 = vI h v0 70 := (by rw [gr15_0 v0 70 (by omega), ih11 v0 70, if_neg (fun z => absurd z.2 (by decide))])
              have o26 : vI hr15 v0 4 = vI h v0 4 := (by rw [gr15_0 v0 4 (by omega), ih11 v0 4, if_neg (fun z => absurd z.2 (by decide))])
              have o27 : vI hr15 v0 71 = (vI h v0 71) + 1 := (by rw [gr15_0 v0 71 (by omega), ih11 v0 71, if_pos ⟨rfl, rfl⟩])
              have o28 := g_Mo_70 T kv0
              refine qk_mono (ih (v0) ((v1 + 1)) hr15 Tr15 kv0 wM (zz_d60c3a55b9 k0 k1) (zz_0433609b90 o6 cc3 k0 k1) (by clear ih; rw [gr15_0 v0 7 (by omega), ih11 v0 7, if_neg (fun z => absurd z.2 (by decide))]; exact q_LV_run LV (g_Mo_7 T kv0).1 (g_Mo_7 T kv0).2 (g_Mo_e19 T kv0 (vI h v0 7)).2 (g_Mo_e22 T kv0 (vI h v0 7)).1 (g_Mo_e22 T kv0 (vI h v0 7)).2 (fun a j j0 na => by rw [gr15_1 a j j0 (by omega), ah11])) (by clear ih; by_cases z : vI h v0 68 = 0; (left; rw [gr15_0 v0 68 (by omega), ih11 v0 68, if_neg (fun z => absurd z.2 (by decide))]; exact z); (right; have jz : 0 ≤ vI h v0 68 - 1 := (zz_e8fb340edd o24 z); rw [gr15_0 v0 68 (by omega), ih11 v0 68, if_neg (fun z => absurd z.2 (by decide))]; rw [gr15_1 (v0 + 42) (vI h v0 68 - 1) jz (by omega), ah11 (v0 + 42) (vI h v0 68 - 1)]; exact (AP).resolve_left z)) (zz_3b376fc0b5 o25 o26 rl) hN (zz_738d1c57cd o27 o5 o25 o28 hms hq1 cc1 hq2 hq3)) ?_
              rintro ⟨y, hz⟩ ⟨Tz, g0, g1⟩
              try dsimp only at *
              exact ⟨Tz, (by clear ih; show ∀ a k, ¬ (a = v0 ∧ (k = 6 ∨ k = 76 ∨ k = 69 ∨ k = 67 ∨ k = 68 ∨ k = 65 ∨ k = 66 ∨ k = 70 ∨ k = 72 ∨ k = 73 ∨ k = 74 ∨ k = 54 ∨ k = 55 ∨ k = 56 ∨ k = 57 ∨ k = 71 ∨ k = 75)) → vI hz a k = vI h a k; intro a k n0; rw [g0 a k (by omega), gr15_0 a k (by omega), ih11, if_neg (by omega)]), (by clear ih; show ∀ a j, 0 ≤ j → ¬ (a = v0 + 43 ∨ a = v0 + 41 ∨ a = v0 + 39 ∨ a = v0 + 40 ∨ a = v0 + 42 ∨ a = v0 + 36 ∨ a = v0 + 37 ∨ a = v0 + 38 ∨ a = v0 + 45) → vA hz a j = vA h a j; intro a j j0 n0; rw [g1 a j j0 (by omega), gr15_1 a j j0 (by omega), ah11])⟩
            · skip
              refine r_Mo_o Tr15 kv0 ?_
              have o30 : vA hr15 (v0 + 4) ((40 * (vI h v0 7)) + v1) = vA h (v0 + 4) ((40 * (vI h v0 7)) + v1) := (by rw [gr15_1 (v0 + 4) ((40 * (vI h v0 7)) + v1) (zz_f322ee28ee o2 k0 k1) (by omega), ah11 (v0 + 4) ((40 * (vI h v0 7)) + v1)])
              have o31 : vA hr15 (v0 + 10) ((40 * (vI h v0 7)) + v1) = vA h (v0 + 10) ((40 * (vI h v0 7)) + v1) := (by rw [gr15_1 (v0 + 10) ((40 * (vI h v0 7)) + v1) (zz_f322ee28ee o2 k0 k1) (by omega), ah11 (v0 + 10) ((40 * (vI h v0 7)) + v1)])
              have o32 : vA hr15 (v0 + 11) ((40 * (vI h v0 7)) + v1) = vA h (v0 + 11) ((40 * (vI h v0 7)) + v1) := (by rw [gr15_1 (v0 + 11) ((40 * (vI h v0 7)) + v1) (zz_f322ee28ee o2 k0 k1) (by omega), ah11 (v0 + 11) ((40 * (vI h v0 7)) + v1)])
              have o33 := g_Mo_e22 T kv0 (vI h v0 7)
              have o34 := g_Mo_e10 T kv0 ((40 * (vI h v0 7)) + v1)
              have o35 : vA hr15 (v0 + 12) ((40 * (vI h v0 7)) + v1) = vA h (v0 + 12) ((40 * (vI h v0 7)) + v1) := (by rw [gr15_1 (v0 + 12) ((40 * (vI h v0 7)) + v1) (zz_f322ee28ee o2 k0 k1) (by omega), ah11 (v0 + 12) ((40 * (vI h v0 7)) + v1)])
              have o36 := g_Mo_e12 T kv0 ((40 * (vI h v0 7)) + v1)
              have o37 := g_Mo_68 T kv0
              have o38 : vI hr15 v0 70 = vI h v0 70 := (by rw [gr15_0 v0 70 (by omega), ih11 v0 70, if_neg (fun z => absurd z.2 (by decide))])
              have o39 : vI hr15 v0 4 = vI h v0 4 := (by rw [gr15_0 v0 4 (by omega), ih11 v0 4, if_neg (fun z => absurd z.2 (by decide))])
              refine c_Mod_perform (v0 := v0) (v1 := ((40 * (vI h v0 7)) + v1)) (v2 := v1) Tr15 kv0 wM (zz_f322ee28ee o2 k0 k1) (zz_b270ad915d o2 o6 cc3 k0 k1) k0 (zz_d179331ecb o6 cc3) (by clear ih; intro e; rw [gr15_1 (v0 + 4) (40 * vI h v0 7 + v1) (zz_f322ee28ee o2 k0 k1) (by omega), ah11 (v0 + 4) (40 * vI h v0 7 + v1)] at e; rw [gr15_1 (v0 + 9) (40 * vI h v0 7 + v1) (zz_f322ee28ee o2 k0 k1) (by omega), ah11 (v0 + 9) (40 * vI h v0 7 + v1)]; exact q_PM_run (((LV v1 k0 (zz_7da8aaae5c cc3)).1.2.2.1 e).1).1 (g_Mo_e9 T kv0 _).1 (fun a j j0 na => by rw [gr15_1 a j j0 (by omega), ah11])) (zz_4993cb1172 o30 o31 o32 m1 o33 k0 cc3 o2 o34) (zz_19dc7388f7 o30 o31 o35 o32 m2 k0 cc3 o2 o36 o34 o33) (by clear ih; by_cases z : vI h v0 68 = 0; (left; rw [gr15_0 v0 68 (by omega), ih11 v0 68, if_neg (fun z => absurd z.2 (by decide))]; exact z); (right; have jz : 0 ≤ vI h v0 68 - 1 := (zz_e8fb340edd o37 z); rw [gr15_0 v0 68 (by omega), ih11 v0 68, if_neg (fun z => absurd z.2 (by decide))]; rw [gr15_1 (v0 + 42) (vI h v0 68 - 1) jz (by omega), ah11 (v0 + 42) (vI h v0 68 - 1)]; exact (AP).resolve_left z)) (zz_3b376fc0b5 o38 o39 rl) hN ?_
              intro yr23 hr23 Tr23 gr23_0 gr23_1 gr23_2 gr23_3 gr23_4
              dsimp only
              refine qk_bs ?_
              have o40 : vI hr23 v0 4 = vI h v0 4 := (by rw [gr23_2 v0 4 (by omega), gr15_0 v0 4 (by omega), ih11 v0 4, if_neg (fun z => absurd z.2 (by decide))])
              have o41 : vI hr23 v0 71 = (vI h v0 71) + 1 := (by rw [gr23_2 v0 71 (by omega), gr15_0 v0 71 (by omega), ih11 v0 71, if_pos ⟨rfl, rfl⟩])
              have o42 := g_Mo_70 T kv0
              have o43 := g_Mo_70 Tr23 kv0
              refine qk_mono (ih (v0) ((yr23)) hr23 Tr23 kv0 wM (zz_00efdf969c gr23_0) (zz_8a9a9d7dbc gr23_0) (by clear ih; rw [gr23_2 v0 7 (by omega), gr15_0 v0 7 (by omega), ih11 v0 7, if_neg (fun z => absurd z.2 (by decide))]; exact q_LV_run LV (g_Mo_7 T kv0).1 (g_Mo_7 T kv0).2 (g_Mo_e19 T kv0 (vI h v0 7)).2 (g_Mo_e22 T kv0 (vI h v0 7)).1 (g_Mo_e22 T kv0 (vI h v0 7)).2 (fun a j j0 na => by rw [gr23_3 a j j0 (by omega), gr15_1 a j j0 (by omega), ah11])) (by clear ih; exact gr23_4) (zz_07830ae4da o40 gr23_1 o39) hN (zz_536ea9db92 o41 o5 hms o42 hq1 gr23_1 o38 cc1 hq2 hq3 o43)) ?_
              rintro ⟨y, hz⟩ ⟨Tz, g0, g1⟩
              try dsimp only at *
              exact ⟨Tz, (by clear ih; show ∀ a k, ¬ (a = v0 ∧ (k = 6 ∨ k = 76 ∨ k = 69 ∨ k = 67 ∨ k = 68 ∨ k = 65 ∨ k = 66 ∨ k = 70 ∨ k = 72 ∨ k = 73 ∨ k = 74 ∨ k = 54 ∨ k = 55 ∨ k = 56 ∨ k = 57 ∨ k = 71 ∨ k = 75)) → vI hz a k = vI h a k; intro a k n0; rw [g0 a k (by omega), gr23_2 a k (by omega), gr15_0 a k (by omega), ih11, if_neg (by omega)]), (by clear ih; show ∀ a j, 0 ≤ j → ¬ (a = v0 + 43 ∨ a = v0 + 41 ∨ a = v0 + 39 ∨ a = v0 + 40 ∨ a = v0 + 42 ∨ a = v0 + 36 ∨ a = v0 + 37 ∨ a = v0 + 38 ∨ a = v0 + 45) → vA hz a j = vA h a j; intro a j j0 n0; rw [g1 a j j0 (by omega), gr23_3 a j j0 (by omega), gr15_1 a j j0 (by omega), ah11])⟩
      · skip
        refine r_Mo_o T kv0 ?_
        refine c_Mod_endCycle (v0 := v0) (v1 := 1) T kv0 wM (by clear ih; exact AP) rl hN ?_
        intro yr32 hr32 Tr32 gr32_0 gr32_1 gr32_2 gr32_3 gr32_4 gr32_5
        dsimp only
        refine qk_bs ?_
        have o45 : vI hr32 v0 4 = vI h v0 4 := (by rw [gr32_3 v0 4 (by omega)])
        have o46 : vI hr32 v0 71 = vI h v0 71 := (by rw [gr32_3 v0 71 (by omega)])
        have o47 := g_Mo_71 T kv0
        have o48 := g_Mo_70 T kv0
        have o49 := g_Mo_70 Tr32 kv0
        refine qk_mono (ih (v0) ((yr32)) hr32 Tr32 kv0 wM (zz_1c9b76b829 gr32_0) (zz_9cdbeb6149 gr32_0) (by clear ih; rw [gr32_3 v0 7 (by omega)]; exact q_LV_run LV (g_Mo_7 T kv0).1 (g_Mo_7 T kv0).2 (g_Mo_e19 T kv0 (vI h v0 7)).2 (g_Mo_e22 T kv0 (vI h v0 7)).1 (g_Mo_e22 T kv0 (vI h v0 7)).2 (fun a j j0 na => by rw [gr32_4 a j j0 (by omega)])) (by clear ih; exact gr32_5) (zz_f6442762ea o45 gr32_2) hN (zz_cea0a57f15 o46 o47 hms o48 hq1 gr32_1 cc1 hq2 hq3 o49)) ?_
        rintro ⟨y, hz⟩ ⟨Tz, g0, g1⟩
        try dsimp only at *
        exact ⟨Tz, (by clear ih; show ∀ a k, ¬ (a = v0 ∧ (k = 6 ∨ k = 76 ∨ k = 69 ∨ k = 67 ∨ k = 68 ∨ k = 65 ∨ k = 66 ∨ k = 70 ∨ k = 72 ∨ k = 73 ∨ k = 74 ∨ k = 54 ∨ k = 55 ∨ k = 56 ∨ k = 57 ∨ k = 71 ∨ k = 75)) → vI hz a k = vI h a k; intro a k n0; rw [g0 a k (by omega), gr32_3 a k (by omega)]), (by clear ih; show ∀ a j, 0 ≤ j → ¬ (a = v0 + 43 ∨ a = v0 + 41 ∨ a = v0 + 39 ∨ a = v0 + 40 ∨ a = v0 + 42 ∨ a = v0 + 36 ∨ a = v0 + 37 ∨ a = v0 + 38 ∨ a = v0 + 45) → vA hz a j = vA h a j; intro a j j0 n0; rw [g1 a j j0 (by omega), gr32_4 a j j0 (by omega)])⟩
    · skip
      refine r_Mo_69 T kv0 ?_
      intro x3 ex3 lx3 ux3
      subst ex3
      refine qk_some ?_
      exact ⟨T, (by clear ih; show ∀ a k, ¬ (a = v0 ∧ (k = 6 ∨ k = 76 ∨ k = 69 ∨ k = 67 ∨ k = 68 ∨ k = 65 ∨ k = 66 ∨ k = 70 ∨ k = 72 ∨ k = 73 ∨ k = 74 ∨ k = 54 ∨ k = 55 ∨ k = 56 ∨ k = 57 ∨ k = 71 ∨ k = 75)) → vI h a k = vI h a k; intro a k n0; rfl), (by clear ih; show ∀ a j, 0 ≤ j → ¬ (a = v0 + 43 ∨ a = v0 + 41 ∨ a = v0 + 39 ∨ a = v0 + 40 ∨ a = v0 + 42 ∨ a = v0 + 36 ∨ a = v0 + 37 ∨ a = v0 + 38 ∨ a = v0 + 45) → vA h a j = vA h a j; intro a j j0 n0; rfl)⟩
theorem p_Mod_run_118 {L : q_L} {W : Nat → Prop} {h0 : z_H} {π : Nat → Nat → Option Nat} {N : Nat} {h : z_H} {v0 : Nat} {v1 : Int32} (T : q_U L W h0 π h) (kv0 : q_M L π v0) (wM : ∀ a, v0 ≤ a → a < v0 + 46 → W a) (k0 : 0 ≤ v1) (k1 : v1 ≤ 41) (LV : q_LV h v0 (vI h v0 7)) (AP : vI h v0 68 = 0 ∨ vA h (v0 + 42) (vI h v0 68 - 1) = 10) (rl : vI h v0 70 ≤ vI h v0 4) (hN : 100000 ≤ N) : qk (f_Mod_run_118 N  N v0 v1 h) (fun r => q_U L W h0 π r.2 ∧ (∀ a k, ¬ (a = v0 ∧ (k = 6 ∨ k = 76 ∨ k = 69 ∨ k = 67 ∨ k = 68 ∨ k = 65 ∨ k = 66 ∨ k = 70 ∨ k = 72 ∨ k = 73 ∨ k = 74 ∨ k = 54 ∨ k = 55 ∨ k = 56 ∨ k = 57 ∨ k = 71 ∨ k = 75)) → vI r.2 a k = vI h a k) ∧ (∀ a j, 0 ≤ j → ¬ (a = v0 + 43 ∨ a = v0 + 41 ∨ a = v0 + 39 ∨ a = v0 + 40 ∨ a = v0 + 42 ∨ a = v0 + 36 ∨ a = v0 + 37 ∨ a = v0 + 38 ∨ a = v0 + 45) → vA r.2 a j = vA h a j)) := by
  have hq := q_qnN hN
  have rg_b := g_Mo_71 T kv0
  have rg_r := g_Mo_70 T kv0
  refine p_Mod_run_118_n (q_lo (M := 301) (by decide) (by decide)) N v0 v1 h T kv0 wM k0 k1 LV AP rl hN ?_ 
  show 301 - q_n N ≤ _
  rw [hq]
  split <;> lia
