/-! contents: the reference's pattern, whole -/
theorem r_beg {h h' : z_H} {v0 : Nat} {q n p : Int32} {t : Int32 → Int32} (p0 : 0 ≤ p) (p9 : p ≤ 240) (ib : (0 ≤ vA h (v0 + 21) (vI h v0 42) ∧ vA h (v0 + 21) (vI h v0 42) ≤ p) ∧ (vI h v0 42 = 0 ∨ vI h v0 42 = 1)) (q1 : vI h' v0 41 = (if x_lk t n p = 94 then p + 1 else p)) (q2 : vI h' v0 44 = 0) (q3 : vA h' (v0 + 21) = vA h (v0 + 21)) (q0 : vI h' v0 42 = vI h v0 42) (q4 : vI h' v0 45 = 0) (q5 : vA h' (v0 + 31) q = 0) (q6 : vA h' (v0 + 23) q = 260 * vI h v0 42 + vA h (v0 + 21) (vI h v0 42)) (q7 : vI h' v0 50 = 0) : r_PA h' v0 q (260 * vI h v0 42 + vA h (v0 + 21) (vI h v0 42)) (x_pA0 t n p) := by
  obtain ⟨⟨c0, c1⟩, hf⟩ := ib
  have bb : 0 ≤ 260 * vI h v0 42 + vA h (v0 + 21) (vI h v0 42) ∧ 260 * vI h v0 42 + vA h (v0 + 21) (vI h v0 42) ≤ 1000 := by
    rcases hf with e | e <;> rw [e] at c0 c1 ⊢ <;> constructor <;> lia
  refine ⟨⟨q1, q2, ?_, q4, q5, q6⟩, ⟨⟨bb.1, (show (0 : Int32) ≤ 0 by decide), (show (0 : Int32) ≤ 1000 by decide), bb.2⟩, by rw [q0]; exact hf, by rw [q0, q3]; exact c0, ?_⟩, ⟨⟨(show (0 : Int32) ≤ 0 by decide), (show (0 : Int32) ≤ 2 by decide)⟩, fun z => absurd rfl z, fun z => absurd z (show ¬ (0 : Int32) = 2 by decide), fun z => absurd q7 z⟩, fun j j0 j1 => absurd (Int32.lt_of_le_of_lt j0 j1) (show ¬ (0 : Int32) < 0 by decide)⟩
  · unfold r_IX
    rw [q0, q3]
    exact (Int32.add_zero _).symm
  · rw [q0, q3]
    show _ ≤ (if x_lk t n p = 94 then p + 1 else p)
    split
    · lia
    · exact c1
