/-! contents: the reference's store -/
def r_SW (h : z_H) (v0 : Nat) (s : Int32) (t : Int32 → Int32) (a m : Int32) : Prop := ∀ j, 0 ≤ j → j < m → vA h (v0 + 28) (s + j) = t (a + j)
def r_SK (h h' : z_H) (v0 : Nat) (lo hi : Int32) : Prop := ∀ j, 0 ≤ j → j < lo ∨ hi ≤ j → vA h' (v0 + 28) j = vA h (v0 + 28) j
section Q12
variable {h h' h2 : z_H} {v0 : Nat} {t : Int32 → Int32} {s a b c lo lo2 hi : Int32}
theorem r_SK_a (e : vA h' (v0 + 28) = vA h (v0 + 28)) : r_SK h h' v0 lo hi := fun j _ _ => by rw [e]
theorem r_SK_t (x : r_SK h h2 v0 lo hi) (y : r_SK h2 h' v0 lo2 hi) (le : lo ≤ lo2) : r_SK h h' v0 lo hi := fun j j0 jj => (y j j0 (jj.imp (fun z => Int32.lt_of_lt_of_le z le) id)).trans (x j j0 jj)
theorem r_SK_k (e : ∀ j, 0 ≤ j → vA h' (v0 + 28) j = if j = s then c else vA h (v0 + 28) j) (h1 : s < hi) : r_SK h h' v0 s hi := fun j j0 jj => by
  rw [e j j0, if_neg]
  intro z
  rcases jj with y | y
  · exact absurd (z ▸ y) Int32.lt_irrefl
  · exact absurd (z ▸ Int32.lt_of_lt_of_le h1 y) Int32.lt_irrefl
theorem r_SW_0 : r_SW h v0 s t a (a - a) := fun j j0 j1 => by
  have e : a - a = 0 := by lia
  rw [e] at j1
  exact absurd (Int32.lt_of_le_of_lt j0 j1) (by decide)
theorem r_SW_c (s0 : 0 ≤ s) (s1 : s ≤ 1000) (a0 : 0 ≤ a) (a1 : a ≤ 1000) (ab : a + 1 ≤ b) (b1 : b ≤ 1000) (e : vA h2 (v0 + 28) s = t a) (K : r_SK h2 h' v0 (s + 1) hi) (W : r_SW h' v0 (s + 1) t (a + 1) (b - (a + 1))) : r_SW h' v0 s t a (b - a) := by
  intro j j0 j1
  by_cases q : j = 0
  · rw [q, Int32.add_zero, Int32.add_zero, K s s0 (Or.inl (by lia))]
    exact e
  · have w := W (j - 1) (by lia) (by lia)
    rw [show s + 1 + (j - 1) = s + j by lia, show a + 1 + (j - 1) = a + j by lia] at w
    exact w
end Q12
theorem x_ch0 {c a : Int32} : c = c + (a - a) := by lia
theorem x_ch1 {c a b : Int32} : c + 1 + (b - (a + 1)) = c + (b - a) := by lia
theorem r_cb {h : z_H} {v0 : Nat} {n : Int32} (cb : ((0 ≤ vA h (v0 + 22) (vI h v0 42) ∧ vA h (v0 + 22) (vI h v0 42) ≤ vI h v0 41) ∧ (vI h v0 42 = 0 ∨ vI h v0 42 = 1)) ∧ vI h v0 41 ≤ n) (n1 : n ≤ 240) : (0 ≤ 300 * vI h v0 42 + vA h (v0 + 22) (vI h v0 42) ∧ 300 * vI h v0 42 + vA h (v0 + 22) (vI h v0 42) ≤ 1000) ∧ 300 * vI h v0 42 + vA h (v0 + 22) (vI h v0 42) < 300 * vI h v0 42 + 300 ∧ vI h v0 41 ≤ 1000 ∧ 300 * vI h v0 42 + vA h (v0 + 22) (vI h v0 42) ≤ 300 * vI h v0 42 + (vA h (v0 + 22) (vI h v0 42) + 1) := by
  obtain ⟨⟨⟨c0, c1⟩, hf⟩, c2⟩ := cb
  rcases hf with e | e <;> rw [e] at c0 c1 ⊢ <;> refine ⟨⟨?_, ?_⟩, ?_, ?_, ?_⟩ <;> lia
theorem r_cb1 {c f a n : Int32} (cb : ((0 ≤ c ∧ c ≤ a) ∧ (f = 0 ∨ f = 1)) ∧ a ≤ n) (n1 : n ≤ 240) (h : a < n) : ((0 ≤ c + 1 ∧ c + 1 ≤ a + 1) ∧ (f = 0 ∨ f = 1)) ∧ a + 1 ≤ n := by
  obtain ⟨⟨⟨c0, c1⟩, hf⟩, c2⟩ := cb
  exact ⟨⟨⟨by lia, by lia⟩, hf⟩, by lia⟩
theorem r_cb2 {c f a n : Int32} (cb : ((0 ≤ c ∧ c ≤ a) ∧ (f = 0 ∨ f = 1)) ∧ a ≤ n) (n1 : n ≤ 240) (h : a < n) : ((0 ≤ c ∧ c ≤ a + 1) ∧ (f = 0 ∨ f = 1)) ∧ a + 1 ≤ n := by
  obtain ⟨⟨⟨c0, c1⟩, hf⟩, c2⟩ := cb
  exact ⟨⟨⟨c0, by lia⟩, hf⟩, by lia⟩
