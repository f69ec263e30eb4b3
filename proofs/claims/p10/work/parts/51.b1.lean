/-! sums of Int32 as sums of Int: no overflow -/
theorem q_tA {a b : Int32} {n : Int} (e : b.toInt = n) (h1 : -2147483648 ≤ a.toInt + n) (h2 : a.toInt + n ≤ 2147483647) : (a + b).toInt = a.toInt + n := by
  rw [Int32.toInt_add, e]
  exact Int.bmod_eq_of_le_mul_two (by omega) (by omega)
theorem q_tS {a b : Int32} {n : Int} (e : b.toInt = n) (h1 : -2147483648 ≤ a.toInt - n) (h2 : a.toInt - n ≤ 2147483647) : (a - b).toInt = a.toInt - n := by
  rw [Int32.toInt_sub, e]
  exact Int.bmod_eq_of_le_mul_two (by omega) (by omega)
theorem q_tM {k a : Int32} {n : Int} (e : k.toInt = n) (h1 : -2147483648 ≤ n * a.toInt) (h2 : n * a.toInt ≤ 2147483647) : (k * a).toInt = n * a.toInt := by
  rw [Int32.toInt_mul, e]
  exact Int.bmod_eq_of_le_mul_two (by omega) (by omega)
theorem q_s0 {hf i : Int32} (h0 : 0 ≤ hf) (h1 : hf ≤ 1) (i0 : 0 ≤ i) (i1 : i ≤ 259) : 0 ≤ 260 * hf + i := by
  have z : hf = 0 ∨ hf = 1 := by lia
  rcases z with z | z <;> subst z <;> lia
theorem q_vn0 : vp_nar .boolean 0 = 0 := by decide
theorem q_vn1 : vp_nar .boolean 1 = 1 := by decide
theorem zz_25345e1743  : ((-1 : Int32) ≤ -1) ∧ ((-1 : Int32) ≤ 126) := by lia
theorem zz_ccef321ee5 {a1 a2 : Int32} (h0 : a1 ≤ a2) : ((-1 : Int32) = -1) → (a1 ≤ a2) := by lia
theorem zz_2560a559a8 {a1 a2 : Int32}  : ((-1 : Int32) ≠ -1) → (a1 < a2) := by lia
theorem zz_d10f130bab {a1 : Int32}  : ((-1 : Int32) ≠ -1) → (a1 < 240) := by lia
theorem zz_fa510f55e7 {a1 : Int32}  : ((-1 : Int32) ≠ -1) → (-1 = a1) := by lia
theorem zz_bcb48e4ca0 {a1 a2 : Int32} (h0 : ¬ (a1 ≤ a2)) (h1 : (0 ≤ a1) ∧ (a1 ≤ 240)) : a2 < 240 := by simp only [Int32.le_iff_toInt_le, Int32.lt_iff_toInt_lt, ← Int32.toInt_inj, ne_eq] at *; have l0 : (0 : Int32).toInt = 0 := (by decide); have l1 : (240 : Int32).toInt = 240 := (by decide); omega
theorem zz_27747a4141 {a1 : Int32} (h0 : (0 ≤ a1) ∧ (a1 ≤ 126)) : (-1 ≤ a1) ∧ (a1 ≤ 126) := by simp only [Int32.le_iff_toInt_le, Int32.lt_iff_toInt_lt, ← Int32.toInt_inj, ne_eq] at *; have l0 : (0 : Int32).toInt = 0 := (by decide); have l1 : (126 : Int32).toInt = 126 := (by decide); have l2 : (-1 : Int32).toInt = -1 := (by decide); omega
theorem zz_045219f5b8 {a1 a2 a3 : Int32} (h0 : (0 ≤ a1) ∧ (a1 ≤ 126)) : (a1 = -1) → (a2 ≤ a3) := by simp only [Int32.le_iff_toInt_le, Int32.lt_iff_toInt_lt, ← Int32.toInt_inj, ne_eq] at *; have l0 : (0 : Int32).toInt = 0 := (by decide); have l1 : (126 : Int32).toInt = 126 := (by decide); have l2 : (-1 : Int32).toInt = -1 := (by decide); omega
theorem zz_583b9ad6bb {a1 a2 a3 : Int32} (h0 : ¬ (a1 ≤ a2)) : (a3 ≠ -1) → (a2 < a1) := by simp only [Int32.le_iff_toInt_le, Int32.lt_iff_toInt_lt, ← Int32.toInt_inj, ne_eq] at *; have l0 : (-1 : Int32).toInt = -1 := (by decide); omega
theorem zz_e1284e9afd {a1 a2 a3 : Int32} (h0 : ¬ (a1 ≤ a2)) (h1 : (0 ≤ a1) ∧ (a1 ≤ 240)) : (a3 ≠ -1) → (a2 < 240) := by simp only [Int32.le_iff_toInt_le, Int32.lt_iff_toInt_lt, ← Int32.toInt_inj, ne_eq] at *; have l0 : (0 : Int32).toInt = 0 := (by decide); have l1 : (240 : Int32).toInt = 240 := (by decide); have l2 : (-1 : Int32).toInt = -1 := (by decide); omega
theorem zz_6965333f27 {a1 : Int32}  : (a1 ≠ -1) → (a1 = a1) := by lia
set_option maxHeartbeats 1000000 in
theorem p_Mod_here2 {L : q_L} {W : Nat → Prop} {h0 : z_H} {π : Nat → Nat → Option Nat} {N : Nat} {h : z_H} {v0 : Nat} (T : q_U L W h0 π h) (kv0 : q_M L π v0)  : qk (f_Mod_here N v0 h) (fun r => r.2 = h ∧ (-1 ≤ r.1 ∧ r.1 ≤ 126) ∧ (r.1 = -1 → vI h v0 3 ≤ vI h v0 41) ∧ (r.1 ≠ -1 → vI h v0 41 < vI h v0 3) ∧ (r.1 ≠ -1 → vI h v0 41 < 240) ∧ (r.1 ≠ -1 → r.1 = vA h (v0 + 1) (vI h v0 41))) := by
  unfold f_Mod_here
  refine r_Mo_41 T kv0 ?_
  intro x1 ex1 lx1 ux1
  subst ex1
  refine r_Mo_3 T kv0 ?_
  intro x2 ex2 lx2 ux2
  subst ex2
  refine qk_if (fun cc1 => ?_) (fun cc1 => ?_)
  · skip
    refine qk_some ?_
    exact ⟨rfl, (zz_25345e1743), (zz_ccef321ee5 cc1), (zz_2560a559a8), (zz_d10f130bab), (zz_fa510f55e7)⟩
  · skip
    refine r_Mo_0 T kv0 ?_
    refine r_Mo_41 T kv0 ?_
    intro x5 ex5 lx5 ux5
    subst ex5
    have o2 := g_Mo_3 T kv0
    refine r_Mo_e1 T kv0 lx5 (zz_bcb48e4ca0 cc1 o2) ?_
    intro x6 ex6 lx6 ux6
    subst ex6
    refine qk_some ?_
    have o3 := g_Mo_e1 T kv0 (vI h v0 41)
    exact ⟨rfl, (zz_27747a4141 o3), (zz_045219f5b8 o3), (zz_583b9ad6bb cc1), (zz_e1284e9afd cc1 o2), (zz_6965333f27)⟩
theorem c_Mod_here2 {L : q_L} {W : Nat → Prop} {h0 : z_H} {π : Nat → Nat → Option Nat} {N : Nat} {h : z_H} {v0 : Nat} {β : Type} {f : Int32 × z_H → Option β} {Q : β → Prop} (T : q_U L W h0 π h) (kv0 : q_M L π v0)  (H : ∀ y, (-1 ≤ y ∧ y ≤ 126) → (y = -1 → vI h v0 3 ≤ vI h v0 41) → (y ≠ -1 → vI h v0 41 < vI h v0 3) → (y ≠ -1 → vI h v0 41 < 240) → (y ≠ -1 → y = vA h (v0 + 1) (vI h v0 41)) → qk (f (y, h)) Q) : qk (z_b (f_Mod_here N v0 h) f) Q := by
  refine qk_b (p_Mod_here2 T kv0 ) ?_
  rintro ⟨y, hz⟩ ⟨hy, g0, g1, g2, g3, g4⟩
  try dsimp only at *
  subst hy
  exact H y g0 g1 g2 g3 g4
