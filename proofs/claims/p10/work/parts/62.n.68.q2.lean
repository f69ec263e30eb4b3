/-! contents: escapes and sets of the reference -/
def x_er (b : Int32) : Int32 := if b = 40 then 4 else if b = 41 then 5 else if 49 ≤ b ∧ b ≤ 51 then 3 else 0
def x_ev (b g : Int32) : Int32 := if b = 40 then g + 1 else if b = 41 then g else if 49 ≤ b ∧ b ≤ 51 then b - 48 else b
theorem x_er3 {b : Int32} (h : 49 ≤ b ∧ b ≤ 51) : x_er b = 3 := by rw [x_er, if_neg (x_495 h).1, if_neg (x_495 h).2, if_pos h]
theorem x_ev3 {b g : Int32} (h : 49 ≤ b ∧ b ≤ 51) : x_ev b g = b - 48 := by rw [x_ev, if_neg (x_495 h).1, if_neg (x_495 h).2, if_pos h]
theorem r_kd_e {f : Int32 → Int32} {i b : Int32} (e : f i = x_er b) : r_kd f i = x_ek b := by
  unfold r_kd
  rw [e]
  unfold x_er x_ek
  by_cases h1 : b = 40
  · rw [if_pos h1, if_pos h1]; decide
  · rw [if_neg h1, if_neg h1]
    by_cases h2 : b = 41
    · rw [if_pos h2, if_pos h2]; decide
    · rw [if_neg h2, if_neg h2]
      by_cases h3 : 49 ≤ b ∧ b ≤ 51
      · rw [if_pos h3]; decide
      · rw [if_neg h3]; decide
theorem x_mr_st {x : Bool} {a b c : Int32} (le : a ≤ b) (b1 : b ≤ 126) (kc : x_kc c) : ((x || decide (c = a)) || decide (a + 1 ≤ c ∧ c ≤ b)) = (x || decide (a ≤ c ∧ c ≤ b)) := x_mb_st le b1 kc
noncomputable def x_sG (t : Int32 → Int32) (n v q : Int32) (S : Int32 → Bool) : Int32 × (Int32 → Bool) := if v = 0 ∨ ¬ x_lk t n q = 93 then x_sF t n 0 q S else (q, S)
section Q2
variable {t : Int32 → Int32} {n v q : Int32} {S : Int32 → Bool}
theorem x_sG_e (h : ¬ v = 0) (c : x_lk t n q = 93) : x_sG t n v q S = (q, S) := if_neg (fun z => z.elim h (fun y => y c))
theorem x_sG_s (h : v = 0 ∨ ¬ x_lk t n q = 93) : x_sG t n v q S = x_sG t n 1 (x_rq t n q) (x_sb t n q S) := by
  rw [x_sG, if_pos h]
  by_cases c : x_lk t n (x_rq t n q) = 93
  · rw [x_sG_e (by decide) c, x_sF_1 rfl c, x_sF_n (by decide)]
  · rw [x_sG, if_pos (Or.inr c), x_sF_0 rfl c]
theorem x_rq3 (h1 : x_lk t n (q + 1) = 45) (h2 : ¬ x_lk t n (q + 2) = 93) : x_rq t n q = q + 3 ∧ x_rb t n q = x_lk t n (q + 2) := ⟨if_pos ⟨h1, h2⟩, if_pos ⟨h1, h2⟩⟩
theorem x_rq1 (h : ¬ (x_lk t n (q + 1) = 45 ∧ ¬ x_lk t n (q + 2) = 93)) : x_rq t n q = q + 1 ∧ x_rb t n q = x_lk t n q := ⟨if_neg h, if_neg h⟩
end Q2
theorem x_ixm (a c : Int32) : a + (c + 1) - 1 = a + c := by lia
theorem x_sG_0 {t : Int32 → Int32} {n q : Int32} {S : Int32 → Bool} : x_sG t n 0 q S = x_sF t n 0 q S := if_pos (Or.inl rfl)
