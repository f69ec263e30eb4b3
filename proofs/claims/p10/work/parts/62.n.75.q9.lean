/-! contents: an address of the reference -/
def x_aR (c : Int32) : Int32 := if c = 47 then 3 else if c = 36 then 2 else 1
def r_AD (h : z_H) (v0 : Nat) (k v : Int32) (t : Int32 → Int32) (n p : Int32) : Prop := (k = 0 ∧ ¬ x_sA (x_lk t n p)) ∨ (x_sA (x_lk t n p) ∧ k = x_aR (x_lk t n p) ∧ (k = 1 → v = x_aN t n p) ∧ (k = 3 → r_PQ h v0 v t n (p + 1)))
section Q9
variable {h h' h2 : z_H} {v0 : Nat} {k v q n p : Int32} {t : Int32 → Int32}
theorem r_AD_f (P : r_AD h v0 k v t n p) (K : r_KP h h' v0) (G : r_GW h h' v0) : r_AD h' v0 k v t n p := by
  rcases P with z | ⟨z1, z2, z3, z4⟩
  · exact Or.inl z
  · exact Or.inr ⟨z1, z2, z3, fun y => r_PQ_f (z4 y) K G⟩
theorem r_AD_0 (c1 : ¬ (49 ≤ x_lk t n p ∧ x_lk t n p ≤ 57)) (c2 : ¬ x_lk t n p = 36) (c3 : ¬ x_lk t n p = 47) : r_AD h v0 0 v t n p := Or.inl ⟨rfl, x_adrno c1 c2 c3⟩
theorem r_AD_1 (c : 49 ≤ x_lk t n p ∧ x_lk t n p ≤ 57) (e : v = x_aN t n p) : r_AD h v0 1 v t n p := Or.inr ⟨Or.inr (Or.inr c), by rw [x_aR, if_neg (x_n47 c), if_neg (x_n36 c)], fun _ => e, fun z => absurd z (by decide)⟩
theorem r_AD_2 (c : x_lk t n p = 36) : r_AD h v0 2 v t n p := Or.inr ⟨Or.inl c, by rw [c]; decide, fun z => absurd z (by decide), fun z => absurd z (by decide)⟩
theorem r_AD_3 (c : x_lk t n p = 47) (P : r_PQ h v0 v t n (p + 1)) : r_AD h v0 3 v t n p := Or.inr ⟨Or.inr (Or.inl c), by rw [c]; decide, fun z => absurd z (by decide), fun _ => P⟩
theorem r_BD_a (B : r_BD h v0) (e1 : vA h' (v0 + 21) = vA h (v0 + 21)) (e2 : vA h' (v0 + 20) = vA h (v0 + 20)) (e0 : vI h' v0 42 = vI h v0 42) (le : vI h v0 41 ≤ vI h' v0 41) : r_BD h' v0 := by
  obtain ⟨⟨c0, c1⟩, ⟨d0, d9, d1⟩, hf⟩ := B
  unfold r_BD
  rw [e0, e1, e2]
  exact ⟨⟨c0, Int32.le_trans c1 le⟩, ⟨d0, d9, Int32.le_trans d1 le⟩, hf⟩
theorem r_BDp (B : r_BD h v0) (p9 : vI h v0 41 ≤ 240) (c : (0 ≤ vA h' (v0 + 21) (vI h v0 42) ∧ vA h' (v0 + 21) (vI h v0 42) < vI h' v0 41) ∧ vI h' v0 41 ≤ n) (n1 : n ≤ 240) (e2 : vA h' (v0 + 20) (vI h v0 42) = vA h (v0 + 20) (vI h v0 42) + 1) (e0 : vI h' v0 42 = vI h v0 42) (lt : vI h v0 41 + 1 < vI h' v0 41) : r_BD h' v0 := by
  obtain ⟨⟨c0, c1⟩, ⟨d0, d9, d1⟩, hf⟩ := B
  obtain ⟨⟨f0, f1⟩, f2⟩ := c
  unfold r_BD
  rw [e0, e2]
  refine ⟨⟨f0, Int32.le_of_lt f1⟩, ⟨by lia, by lia, by lia⟩, hf⟩
theorem x_p240 {a n : Int32} (n1 : n ≤ 240) (h : a < n) : a + 1 ≤ 240 ∧ a ≤ 240 := by constructor <;> lia
theorem x_ptl {a : Int32} {r : Int32 × Int32} (n1 : n ≤ 240) (h : a < n) (e : x_pattern t n (a + 1) = some r) : a + 1 < r.1 := by
  have a1 := (x_p240 n1 h).1
  have z : (1000 : Int32).toInt = 1000 := rfl
  have z2 : (240 : Int32).toInt = 240 := rfl
  have := Int32.le_iff_toInt_le.mp a1
  exact Int32.lt_iff_toInt_lt.mpr (x_pattern_lt (by omega) e).1
theorem r_ibp (B : r_BD h v0) (le : vI h v0 41 ≤ q) : (0 ≤ vA h (v0 + 21) (vI h v0 42) ∧ vA h (v0 + 21) (vI h v0 42) ≤ q) ∧ (vI h v0 42 = 0 ∨ vI h v0 42 = 1) := ⟨⟨B.1.1, Int32.le_trans B.1.2 le⟩, B.2.2⟩
end Q9
