/-! contents: patterns and numbers that the reference keeps, and what stays -/
def r_QT (h : z_H) (v0 : Nat) : Int32 := 130 * vI h v0 42 + vA h (v0 + 20) (vI h v0 42)
/-- what lies below the next item and the next pattern, and the other half, stays -/
def r_KP (h h' : z_H) (v0 : Nat) : Prop := r_FB h h' v0 (r_IX h v0) (260 * vI h v0 42 + 260) ∧ (∀ j, 0 ≤ j → j < r_QT h v0 ∨ 130 * vI h v0 42 + 130 ≤ j → vA h' (v0 + 23) j = vA h (v0 + 23) j ∧ vA h' (v0 + 24) j = vA h (v0 + 24) j ∧ vA h' (v0 + 30) j = vA h (v0 + 30) j ∧ vA h' (v0 + 31) j = vA h (v0 + 31) j ∧ vA h' (v0 + 25) j = vA h (v0 + 25) j) ∧ vI h' v0 42 = vI h v0 42
/-- .. and grows -/
def r_GW (h h' : z_H) (v0 : Nat) : Prop := r_IX h v0 ≤ r_IX h' v0 ∧ r_QT h v0 ≤ r_QT h' v0
/-- counts are small -/
def r_BD (h : z_H) (v0 : Nat) : Prop := (0 ≤ vA h (v0 + 21) (vI h v0 42) ∧ vA h (v0 + 21) (vI h v0 42) ≤ vI h v0 41) ∧ (0 ≤ vA h (v0 + 20) (vI h v0 42) ∧ vA h (v0 + 20) (vI h v0 42) ≤ 130 ∧ 2 * vA h (v0 + 20) (vI h v0 42) ≤ vI h v0 41) ∧ (vI h v0 42 = 0 ∨ vI h v0 42 = 1)
def r_PQ (h : z_H) (v0 : Nat) (q : Int32) (t : Int32 → Int32) (n p : Int32) : Prop := ∃ b, r_PF h v0 q b (x_pA t n p) ∧ vA h (v0 + 30) q = (if x_lk t n p = 94 then 1 else 0) ∧ b + xi (x_pA t n p) ≤ r_IX h v0 ∧ 0 ≤ q ∧ q < r_QT h v0 ∧ vA h (v0 + 25) q = xg (x_pA t n p) ∧ 260 * vI h v0 42 ≤ b ∧ 130 * vI h v0 42 ≤ q
section Q8
variable {h h' h2 : z_H} {v0 : Nat} {q n p : Int32} {t : Int32 → Int32}
theorem r_KP_t (a : r_KP h h2 v0) (g : r_GW h h2 v0) (c : r_KP h2 h' v0) : r_KP h h' v0 := by
  obtain ⟨a1, a2, a3⟩ := a
  obtain ⟨c1, c2, c3⟩ := c
  rw [a3] at c1 c2 c3
  refine ⟨r_FB_t a1 c1 g.1, fun j j0 jj => ?_, c3⟩
  obtain ⟨x1, x2, x3, x4, x5⟩ := a2 j j0 jj
  obtain ⟨y1, y2, y3, y4, y5⟩ := c2 j j0 (jj.imp (fun z => Int32.lt_of_lt_of_le z g.2) id)
  exact ⟨y1.trans x1, y2.trans x2, y3.trans x3, y4.trans x4, y5.trans x5⟩
theorem r_GW_t (a : r_GW h h2 v0) (c : r_GW h2 h' v0) : r_GW h h' v0 := ⟨Int32.le_trans a.1 c.1, Int32.le_trans a.2 c.2⟩
theorem r_KP_a (e : ∀ a, v0 < a → a < v0 + 34 → (a = v0 + 23 ∨ a = v0 + 24 ∨ a = v0 + 25 ∨ a = v0 + 26 ∨ a = v0 + 27 ∨ a = v0 + 29 ∨ a = v0 + 30 ∨ a = v0 + 31) → vA h' a = vA h a) (e4 : vL h' (v0 + 32) = vL h (v0 + 32)) (e5 : vL h' (v0 + 33) = vL h (v0 + 33)) (e0 : vI h' v0 42 = vI h v0 42) : r_KP h h' v0 :=
  ⟨r_FB_a (e _ (by omega) (by omega) (by omega)) (e _ (by omega) (by omega) (by omega)) (e _ (by omega) (by omega) (by omega)) e4 e5, fun j _ _ => ⟨by rw [e _ (by omega) (by omega) (by omega)], by rw [e _ (by omega) (by omega) (by omega)], by rw [e _ (by omega) (by omega) (by omega)], by rw [e _ (by omega) (by omega) (by omega)], by rw [e _ (by omega) (by omega) (by omega)]⟩, e0⟩
theorem r_GW_a (e1 : vA h' (v0 + 21) = vA h (v0 + 21)) (e2 : vA h' (v0 + 20) = vA h (v0 + 20)) (e0 : vI h' v0 42 = vI h v0 42) : r_GW h h' v0 := by
  unfold r_GW r_IX r_QT
  rw [e0, e1, e2]
  exact ⟨Int32.le_refl _, Int32.le_refl _⟩
theorem r_PQ_f (P : r_PQ h v0 q t n p) (K : r_KP h h' v0) (G : r_GW h h' v0) : r_PQ h' v0 q t n p := by
  obtain ⟨b, ⟨⟨q1, q2, q3, q4⟩, ⟨b0, i0, i1, b1⟩, I⟩, ab, le, q0, ql, g5, l1, l2⟩ := P
  obtain ⟨k1, k2, k3⟩ := K
  obtain ⟨x1, x2, x3, x4, e25⟩ := k2 q q0 (Or.inl ql)
  exact ⟨b, ⟨⟨by rw [e25]; exact q1, by rw [x4]; exact q2, by rw [x1]; exact q3, by rw [x2]; exact q4⟩, ⟨b0, i0, i1, b1⟩, r_IT_f I b0 b1 i1 k1 le⟩, by rw [x3]; exact ab, Int32.le_trans le G.1, q0, Int32.lt_of_lt_of_le ql G.2, by rw [e25]; exact g5, by rw [k3]; exact l1, by rw [k3]; exact l2⟩
/-- a pattern is read -/
theorem r_KPp (B : r_BD h v0) (p9 : vI h v0 41 ≤ 240) (F : r_FB h h' v0 (260 * vI h v0 42 + vA h (v0 + 21) (vI h v0 42)) (260 * vI h v0 42 + 260)) (e1 : ∀ j, 0 ≤ j → ¬ j = 130 * vI h v0 42 + vA h (v0 + 20) (vI h v0 42) → vA h' (v0 + 23) j = vA h (v0 + 23) j) (e2 : ∀ j, 0 ≤ j → ¬ j = 130 * vI h v0 42 + vA h (v0 + 20) (vI h v0 42) → vA h' (v0 + 24) j = vA h (v0 + 24) j) (e3 : ∀ j, 0 ≤ j → ¬ j = 130 * vI h v0 42 + vA h (v0 + 20) (vI h v0 42) → vA h' (v0 + 30) j = vA h (v0 + 30) j) (e4 : ∀ j, 0 ≤ j → ¬ j = 130 * vI h v0 42 + vA h (v0 + 20) (vI h v0 42) → vA h' (v0 + 31) j = vA h (v0 + 31) j) (e5 : ∀ j, 0 ≤ j → ¬ j = 130 * vI h v0 42 + vA h (v0 + 20) (vI h v0 42) → vA h' (v0 + 25) j = vA h (v0 + 25) j) (e0 : vI h' v0 42 = vI h v0 42) : r_KP h h' v0 := by
  obtain ⟨⟨c0, c1⟩, ⟨d0, d9, d1⟩, hf⟩ := B
  refine ⟨F, fun j j0 jj => ?_, e0⟩
  have n : ¬ j = 130 * vI h v0 42 + vA h (v0 + 20) (vI h v0 42) := fun z => by
    unfold r_QT at jj
    rcases jj with y | y
    · exact absurd (z ▸ y) Int32.lt_irrefl
    · have d2 : vA h (v0 + 20) (vI h v0 42) < 130 := by lia
      rw [z] at y
      rcases hf with e | e <;> rw [e] at y d0 d2 <;> lia
  exact ⟨e1 j j0 n, e2 j j0 n, e3 j j0 n, e4 j j0 n, e5 j j0 n⟩
theorem r_PQ_o (B : r_BD h v0) (p9 : vI h v0 41 ≤ 240) (eq : q = 130 * vI h v0 42 + vA h (v0 + 20) (vI h v0 42)) (P : r_PF h' v0 q (260 * vI h v0 42 + vA h (v0 + 21) (vI h v0 42)) (x_pA t n p)) (ab : vA h' (v0 + 30) q = (if x_lk t n p = 94 then 1 else 0)) (e1 : 260 * vI h v0 42 + vA h' (v0 + 21) (vI h v0 42) = 260 * vI h v0 42 + vA h (v0 + 21) (vI h v0 42) + xi (x_pA t n p)) (e2 : vA h' (v0 + 20) (vI h v0 42) = vA h (v0 + 20) (vI h v0 42) + 1) (e0 : vI h' v0 42 = vI h v0 42) : r_PQ h' v0 q t n p ∧ r_GW h h' v0 := by
  obtain ⟨⟨c0, c1⟩, ⟨d0, d9, d1⟩, hf⟩ := B
  have d2 : vA h (v0 + 20) (vI h v0 42) < 130 := by lia
  obtain ⟨⟨g1, -⟩, ⟨b0, i0, i1, b1⟩, -⟩ := id P
  have Q0 : 0 ≤ q ∧ q < r_QT h' v0 ∧ r_QT h v0 ≤ r_QT h' v0 := by
    unfold r_QT
    rw [e0, e2, eq]
    rcases hf with e | e <;> rw [e] at d0 d2 ⊢ <;> refine ⟨?_, ?_, ?_⟩ <;> lia
  have Q1 : 260 * vI h' v0 42 ≤ 260 * vI h v0 42 + vA h (v0 + 21) (vI h v0 42) ∧ 130 * vI h' v0 42 ≤ q := by
    rw [e0, eq]
    rcases hf with e | e <;> rw [e] at c0 c1 d0 d2 ⊢ <;> constructor <;> lia
  refine ⟨⟨_, P, ab, ?_, Q0.1, Q0.2.1, g1, Q1.1, Q1.2⟩, ⟨?_, Q0.2.2⟩⟩
  · unfold r_IX
    rw [e0, e1]
    exact Int32.le_refl _
  · unfold r_IX
    rw [e0, e1]
    lia
end Q8
