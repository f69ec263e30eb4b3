/-! sums of places, one by one -/
theorem q_upn {a b : Int32} (h0 : 0 ≤ a) (h1 : a ≤ 240) (e : b = a ∨ b = a + 1 ∨ b = a + 2 ∨ b = a + 1 + 1) : a ≤ b ∧ b ≤ 242 := by
  rcases e with e | e | e | e <;> subst e <;> constructor <;> lia
theorem q_u1 {a b l : Int32} (h0 : 0 ≤ a) (hl : a < l) (h2 : l ≤ 240) (e : b = a + 1) : a < b ∧ b ≤ l := by
  subst e; constructor <;> lia
theorem q_u2 {a b l : Int32} (h0 : 0 ≤ a) (h9 : a ≤ 250) (hl : a + 1 < l) (h2 : l ≤ 240) (e : b = a + 2) : a < b ∧ b ≤ l := by
  subst e; constructor <;> lia
theorem q_a2 {a l : Int32} (h0 : 0 ≤ a) (h9 : a ≤ 250) (hl : a + 1 < l) (h2 : l ≤ 240) : a ≤ 240 := by lia
theorem q_a1 {a l : Int32} (hl : a < l) (h2 : l ≤ 240) : a ≤ 240 := by lia
theorem q_ui {i i' a b : Int32} (h0 : 0 ≤ i) (hi : i ≤ a) (ha : a ≤ 240) (e : i' = i ∨ i' = i + 1) (f : b = a + 1 ∨ b = a + 2) : i' ≤ b := by
  rcases e with e | e <;> rcases f with f | f <;> subst e <;> subst f <;> lia
theorem q_ui8 {i i' : Int32} (h0 : 0 ≤ i) (hi : i ≤ 240) (e : i' = i ∨ i' = i + 1) : i ≤ i' ∧ i' ≤ 241 := by
  rcases e with e | e <;> subst e <;> constructor <;> lia
theorem q_pf {j hf i : Int32} (h : j < 260 * hf + i ∨ 260 * hf + 260 ≤ j) (h0 : 0 ≤ hf) (h1 : hf ≤ 1) (i0 : 0 ≤ i) (i1 : i ≤ 250) : j ≠ 260 * hf + i := by
  have z : hf = 0 ∨ hf = 1 := by lia
  rcases z with z | z <;> subst z <;> rcases h with h | h <;> intro e <;> subst e <;> lia
theorem q_s52 {hf i : Int32} (h0 : 0 ≤ hf) (h1 : hf ≤ 1) (i0 : 0 ≤ i) (i1 : i ≤ 250) : 260 * hf + i < 520 := by
  have z : hf = 0 ∨ hf = 1 := by lia
  rcases z with z | z <;> subst z <;> lia
theorem q_JM_it {h h' : z_H} {v0 : Nat} {f0 k x : Int32} (J : q_JM (vA h (v0 + 26)) (vA h (v0 + 27)) f0 (260 * vI h v0 42 + vA h (v0 + 21) (vI h v0 42)) (vI h v0 44) (vI h v0 49) (vI h v0 50)) (hf0 : 0 ≤ vI h v0 42) (hf1 : vI h v0 42 ≤ 1) (i0 : 0 ≤ vA h (v0 + 21) (vI h v0 42)) (i1 : vA h (v0 + 21) (vI h v0 42) ≤ 250) (eh : vI h' v0 42 = vI h v0 42) (e : ∀ j, 0 ≤ j → j ≠ (260 * vI h v0 42 + vA h (v0 + 21) (vI h v0 42)) → vA h' (v0 + 26) j = vA h (v0 + 26) j ∧ vA h' (v0 + 27) j = vA h (v0 + 27) j) (ek : vA h' (v0 + 26) (260 * vI h v0 42 + vA h (v0 + 21) (vI h v0 42)) = k) (eg : vA h' (v0 + 27) (260 * vI h v0 42 + vA h (v0 + 21) (vI h v0 42)) = x) (ei : vA h' (v0 + 21) (vI h v0 42) = vA h (v0 + 21) (vI h v0 42) + 1)
    (H : (k < 3 ∧ vI h' v0 44 = vI h v0 44 ∧ vI h' v0 49 = vI h v0 49) ∨ (k = 3 ∧ 1 ≤ x ∧ x ≤ vI h v0 44 ∧ (vI h v0 49 = 0 ∨ x < vI h v0 44) ∧ vI h' v0 44 = vI h v0 44 ∧ vI h' v0 49 = vI h v0 49) ∨ (k = 4 ∧ vI h v0 49 = 0 ∧ vI h v0 44 < 3 ∧ x = vI h v0 44 + 1 ∧ vI h' v0 44 = vI h v0 44 + 1 ∧ vI h' v0 49 ≠ 0) ∨ (k = 5 ∧ vI h v0 49 ≠ 0 ∧ x = vI h v0 44 ∧ vI h' v0 44 = vI h v0 44 ∧ vI h' v0 49 = 0)) : q_JM (vA h' (v0 + 26)) (vA h' (v0 + 27)) f0 (260 * vI h' v0 42 + vA h' (v0 + 21) (vI h' v0 42)) (vI h' v0 44) (vI h' v0 49) (vI h' v0 50) := by
  refine q_JM_add J (fun j j0 j1 => e j j0 (fun z => absurd j1 (by rw [z]; exact Int32.not_lt.mpr (Int32.le_refl _)))) (q_s52 hf0 hf1 i0 i1) ek eg rfl ?_ H
  rw [eh, ei, Int32.add_assoc]
