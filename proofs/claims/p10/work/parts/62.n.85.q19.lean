/-! contents: y of the reference -/
def r_YX (h : z_H) (v0 : Nat) (v1 : Int32) (t : Int32 → Int32) (n yf F a : Int32) : Prop := ∃ m, x_yf t n yf a = some m ∧ ((0 ≤ m - yf ∧ m - yf ≤ 240) ∧ 0 ≤ yf ∧ m + 1 + (m - yf) + 1 ≤ n) ∧ vA h (v0 + 12) v1 = F + (m - yf) ∧ vA h (v0 + 11) v1 = F + (m - yf) + (m - yf) ∧ r_SW h v0 F t yf (m - yf) ∧ r_SW h v0 (F + (m - yf)) t (m + 1) (m - yf) ∧ vA h (v0 + 11) v1 ≤ r_SE h v0
def r_YY (h : z_H) (v0 : Nat) (v1 : Int32) (t : Int32 → Int32) (n a : Int32) : Prop := r_YX h v0 v1 t n (a + 1) (vA h (v0 + 10) v1) (a + 1) ∧ 300 * vI h v0 42 ≤ vA h (v0 + 10) v1 ∧ vA h (v0 + 10) v1 ≤ 600
section Q19
variable {h h' h2 : z_H} {v0 : Nat} {t : Int32 → Int32} {n a m s hi v1 yf F x : Int32}
theorem r_SW_z : r_SW h v0 s t a 0 := fun _ j0 j1 => absurd (Int32.lt_of_le_of_lt j0 j1) (by decide)
theorem r_SW_e (s0 : 0 ≤ s) (s1 : s ≤ 1000) (a0 : 0 ≤ a) (a1 : a ≤ 1000) (m0 : ¬ m = 0) (m1 : 0 ≤ m ∧ m ≤ 1000) (e : vA h2 (v0 + 28) s = t a) (K : r_SK h2 h' v0 (s + 1) hi) (W : r_SW h' v0 (s + 1) t (a + 1) (m - 1)) : r_SW h' v0 s t a m := by
  obtain ⟨m1, m2⟩ := m1
  intro j j0 j1
  by_cases q : j = 0
  · rw [q, Int32.add_zero, Int32.add_zero, K s s0 (Or.inl (by lia))]
    exact e
  · have w := W (j - 1) (by lia) (by lia)
    rw [show s + 1 + (j - 1) = s + j by lia, show a + 1 + (j - 1) = a + j by lia] at w
    exact w
theorem x_wkm {v2 v3 : Int32} (w : 0 ≤ v3 ∧ v3 ≤ v2 ∧ v2 ≤ 1000) : 0 ≤ v2 - v3 ∧ v2 - v3 ≤ 1000 := by
  obtain ⟨w1, w2, w3⟩ := w
  constructor <;> lia
theorem r_YX_s {a' : Int32} (e : x_yf t n yf a = x_yf t n yf a') (P : r_YX h v0 v1 t n yf F a') : r_YX h v0 v1 t n yf F a := by
  unfold r_YX at P ⊢
  rw [e]
  exact P
theorem r_YX_o (n1 : n ≤ 240) (y : x_yf t n yf (vI h v0 41) = some (vI h v0 41)) (E : x_EX t n yf F (300 * vI h v0 42 + vA h (v0 + 22) (vI h v0 42)) (vI h v0 41) (vA h (v0 + 28))) (hF : x = F) (cb : ((0 ≤ vA h (v0 + 22) (vI h v0 42) ∧ vA h (v0 + 22) (vI h v0 42) ≤ vI h v0 41) ∧ (vI h v0 42 = 0 ∨ vI h v0 42 = 1)) ∧ vI h v0 41 ≤ n) (e12 : vA h' (v0 + 12) v1 = 300 * vI h v0 42 + vA h (v0 + 22) (vI h v0 42)) (e11 : vA h' (v0 + 11) v1 = 300 * vI h v0 42 + (vA h (v0 + 22) (vI h v0 42) + (300 * vI h v0 42 + vA h (v0 + 22) (vI h v0 42) - x - 0))) (W : r_SW h' v0 (300 * vI h v0 42 + vA h (v0 + 22) (vI h v0 42)) t (vI h v0 41 + 1) (300 * vI h v0 42 + vA h (v0 + 22) (vI h v0 42) - x - 0)) (K : r_SK h h' v0 (300 * vI h v0 42 + vA h (v0 + 22) (vI h v0 42)) hi) (e22 : vA h' (v0 + 22) (vI h v0 42) = vA h (v0 + 22) (vI h v0 42) + (300 * vI h v0 42 + vA h (v0 + 22) (vI h v0 42) - x - 0)) (e42 : vI h' v0 42 = vI h v0 42) (e41 : vI h' v0 41 = vI h v0 41 + 1 + (300 * vI h v0 42 + vA h (v0 + 22) (vI h v0 42) - x - 0) + 1) (le : vI h' v0 41 ≤ n) : r_YX h' v0 v1 t n yf F (vI h v0 41) := by
  have d := x_EX_d E hF
  obtain ⟨E1, ⟨E2, E3, E4⟩, E5, E6⟩ := E
  rw [Int32.sub_zero, d] at e11 W e22 e41
  rw [e41] at le
  rw [E1] at e12 W K
  rw [← Int32.add_assoc, E1] at e11
  refine ⟨_, y, ⟨⟨by lia, by lia⟩, E2, le⟩, e12, e11, fun j j0 j1 => ?_, W, ?_⟩
  · have lt : yf < vI h v0 41 := by lia
    obtain ⟨F0, F1⟩ := E5 lt
    rw [K (F + j) (by lia) (Or.inl (by lia))]
    have w := E6 (yf + j) (by lia) (by lia)
    rw [show yf + j - yf = j by lia] at w
    exact w
  · unfold r_SE
    rw [e42, e22, e11, ← E1, Int32.add_assoc]
    exact Int32.le_refl _
theorem r_YY_o (P : r_YX h' v0 v1 t n (a + 1) s (a + 1)) (e10 : vA h' (v0 + 10) v1 = s) (e42 : vI h' v0 42 = vI h v0 42) (es : s = 300 * vI h v0 42 + vA h (v0 + 22) (vI h v0 42)) (cb : ((0 ≤ vA h (v0 + 22) (vI h v0 42) ∧ vA h (v0 + 22) (vI h v0 42) ≤ vI h v0 41) ∧ (vI h v0 42 = 0 ∨ vI h v0 42 = 1)) ∧ vI h v0 41 ≤ n) (n1 : n ≤ 240) : r_YY h' v0 v1 t n a := by
  obtain ⟨⟨⟨c0, c1⟩, hf⟩, c2⟩ := cb
  refine ⟨by rw [e10]; exact P, ?_, ?_⟩
  · rw [e42, e10, es]
    rcases hf with e | e <;> rw [e] at c0 c1 ⊢ <;> lia
  · rw [e10, es]
    rcases hf with e | e <;> rw [e] at c0 c1 ⊢ <;> lia
end Q19
