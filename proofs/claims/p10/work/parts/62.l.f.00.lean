/-! a step of a pattern -/
section XQ
variable {t : Int32 → Int32} {n a ic sc gr go rp : Int32}
theorem x_lk_in {K : Int32} (c : x_lk t n a = K) (hK : K ≠ -1) : a < n ∧ t a = K := by
  unfold x_lk at c
  split at c
  · next h => exact ⟨h, c⟩
  · exact absurd c.symm hK
theorem x_lk_at (c : ¬ x_lk t n a = -1) : a < n ∧ t a = x_lk t n a := by
  by_cases h : a < n
  · exact ⟨h, by unfold x_lk; rw [if_pos h]⟩
  · exact absurd (by unfold x_lk; rw [if_neg h]) c
theorem x_lk_no (tp : ∀ j, t j ≠ -1) (c : x_lk t n a = -1) : ¬ a < n := by
  intro h
  unfold x_lk at c
  rw [if_pos h] at c
  exact tp _ c
theorem x_lk_out (h : ¬ a < n) : x_lk t n a = -1 := by
  unfold x_lk
  rw [if_neg h]
theorem x_q47 (n2 : n ≤ 1000) (c : x_lk t n a = 47) : x_pat t n a ic sc gr go rp = if go = 0 then some (a + 1, gr) else none := by
  obtain ⟨c1, c2⟩ := x_lk_in c (by decide)
  rw [x_pat, dif_pos ⟨c1, n2⟩, c2, if_pos rfl]
theorem x_q42 (n2 : n ≤ 1000) (c : x_lk t n a = 42) : x_pat t n a ic sc gr go rp = if rp = 0 ∨ sc = 2 then none else x_pat t n (a + 1) ic (sc + 1) gr go 0 := by
  obtain ⟨c1, c2⟩ := x_lk_in c (by decide)
  rw [x_pat, dif_pos ⟨c1, n2⟩, c2, if_neg (by decide), if_pos rfl]
theorem x_q92 (n2 : n ≤ 1000) (c : x_lk t n a = 92) : x_pat t n a ic sc gr go rp =
      (if x_lk t n (a + 1) = 40 then (if go = 0 ∧ gr ≠ 3 then x_pat t n (a + 2) ic sc (gr + 1) 1 0 else none)
      else if x_lk t n (a + 1) = 41 then (if go = 0 then none else x_pat t n (a + 2) ic sc gr 0 0)
      else if 49 ≤ x_lk t n (a + 1) ∧ x_lk t n (a + 1) ≤ 51 then (if (gr < x_lk t n (a + 1) - 48 ∨ (x_lk t n (a + 1) - 48 = gr ∧ go ≠ 0)) ∨ ic = 14 then none else x_pat t n (a + 2) (ic + 1) sc gr go 0)
      else if x_lk t n (a + 1) = 47 ∨ x_lk t n (a + 1) = 92 ∨ x_lk t n (a + 1) = 91 ∨ x_lk t n (a + 1) = 42 ∨ x_lk t n (a + 1) = 46 ∨ x_lk t n (a + 1) = 94 ∨ x_lk t n (a + 1) = 36 then (if ic = 14 then none else x_pat t n (a + 2) (ic + 1) sc gr go 1)
      else none) := by
  obtain ⟨c1, c2⟩ := x_lk_in c (by decide)
  rw [x_pat, dif_pos ⟨c1, n2⟩, c2, if_neg (by decide), if_neg (by decide), if_pos rfl]
theorem x_q91n (n2 : n ≤ 1000) (c : x_lk t n a = 91) (e : x_set t n (if x_lk t n (a + 1) = 94 then a + 2 else a + 1) = none) : x_pat t n a ic sc gr go rp = none := by
  obtain ⟨c1, c2⟩ := x_lk_in c (by decide)
  rw [x_pat, dif_pos ⟨c1, n2⟩, c2, if_neg (by decide), if_neg (by decide), if_neg (by decide), if_pos rfl, e]
  split <;> rfl
theorem x_q91 (n2 : n ≤ 1000) (c : x_lk t n a = 91) (hic : ic = 14) : x_pat t n a ic sc gr go rp = none := by
  obtain ⟨c1, c2⟩ := x_lk_in c (by decide)
  rw [x_pat, dif_pos ⟨c1, n2⟩, c2, if_neg (by decide), if_neg (by decide), if_neg (by decide), if_pos rfl, if_pos hic]
theorem x_q91s {b : Int32} (n2 : n ≤ 1000) (c : x_lk t n a = 91) (hic : ¬ ic = 14) (e : x_set t n (if x_lk t n (a + 1) = 94 then a + 2 else a + 1) = some b) : x_pat t n a ic sc gr go rp = x_pat t n b (ic + 1) sc gr go 1 := by
  obtain ⟨c1, c2⟩ := x_lk_in c (by decide)
  have z := x_set_lt t n _ _ _ (Nat.lt_succ_self _) e
  obtain ⟨b0, b9, b1, b2, b3, b4⟩ := x_b ⟨c1, n2⟩
  have hb : a < b := Int32.lt_iff_toInt_lt.mpr (by split at z <;> omega)
  rw [x_pat, dif_pos ⟨c1, n2⟩, c2, if_neg (by decide), if_neg (by decide), if_neg (by decide), if_pos rfl, if_neg hic, e]
  dsimp only
  rw [dif_pos hb]
theorem x_q36 (n2 : n ≤ 1000) (c : x_lk t n a = 36) : x_pat t n a ic sc gr go rp = if go = 0 ∧ x_lk t n (a + 1) = 47 then some (a + 2, gr) else if ic = 14 then none else x_pat t n (a + 1) (ic + 1) sc gr go 1 := by
  obtain ⟨c1, c2⟩ := x_lk_in c (by decide)
  rw [x_pat, dif_pos ⟨c1, n2⟩, c2, if_neg (by decide), if_neg (by decide), if_neg (by decide), if_neg (by decide)]
  by_cases q : go = 0 ∧ x_lk t n (a + 1) = 47
  · rw [if_pos ⟨rfl, q⟩, if_pos q]
  · rw [if_neg (fun z => q z.2), if_neg q, if_neg (by decide)]
theorem x_q10 (n2 : n ≤ 1000) (c : x_lk t n a = 10) : x_pat t n a ic sc gr go rp = none := by
  obtain ⟨c1, c2⟩ := x_lk_in c (by decide)
  rw [x_pat, dif_pos ⟨c1, n2⟩, c2, if_neg (by decide), if_neg (by decide), if_neg (by decide), if_neg (by decide), if_neg (fun z => absurd z.1 (by decide)), if_pos rfl]
theorem x_qout (h : ¬ a < n) : x_pat t n a ic sc gr go rp = none := by
  rw [x_pat, dif_neg (fun z => h z.1)]
theorem x_qno (tp : ∀ j, t j ≠ -1) (c : x_lk t n a = -1) : x_pat t n a ic sc gr go rp = none := x_qout (x_lk_no tp c)
theorem x_qpl (n2 : n ≤ 1000) (c0 : ¬ x_lk t n a = -1) (c1 : ¬ x_lk t n a = 10) (c2 : ¬ x_lk t n a = 47) (c3 : ¬ x_lk t n a = 42) (c4 : ¬ x_lk t n a = 92) (c5 : ¬ x_lk t n a = 91) (c6 : ¬ (x_lk t n a = 36 ∧ go = 0 ∧ x_lk t n (a + 1) = 47)) : x_pat t n a ic sc gr go rp = if ic = 14 then none else x_pat t n (a + 1) (ic + 1) sc gr go 1 := by
  obtain ⟨d1, d2⟩ := x_lk_at c0
  rw [x_pat, dif_pos ⟨d1, n2⟩, d2, if_neg c2, if_neg c3, if_neg c4, if_neg c5, if_neg c6, if_neg c1]
/-- a set -/
theorem x_se (n2 : n ≤ 1000) (c0 : ¬ x_lk t n a = -1) : x_set t n a =
    if x_lk t n a = 10 ∨ x_lk t n a = 47 ∨ x_lk t n a = 93 then none
    else if x_lk t n (a + 1) = 45 ∧ x_lk t n (a + 2) ≠ 93 then
      (if x_lk t n (a + 2) = -1 ∨ x_lk t n (a + 2) = 10 ∨ x_lk t n (a + 2) = 47 ∨ x_lk t n (a + 2) = 93 ∨ x_lk t n (a + 2) < x_lk t n a then none
      else if x_lk t n (a + 3) = 93 then some (a + 4) else x_set t n (a + 3))
    else if x_lk t n (a + 1) = 93 then some (a + 2) else x_set t n (a + 1) := by
  obtain ⟨d1, d2⟩ := x_lk_at c0
  rw [x_set, dif_pos ⟨d1, n2⟩, d2]
theorem x_seo (h : ¬ a < n) : x_set t n a = none := by
  rw [x_set, dif_neg (fun z => h z.1)]
theorem x_se0 (tp : ∀ j, t j ≠ -1) (n2 : n ≤ 1000) (c : x_lk t n a = -1 ∨ x_lk t n a = 10 ∨ x_lk t n a = 47 ∨ x_lk t n a = 93) : x_set t n a = none := by
  by_cases q : x_lk t n a = -1
  · exact x_seo (x_lk_no tp q)
  · rw [x_se n2 q, if_pos (c.resolve_left q)]
theorem x_se1 (n2 : n ≤ 1000) (c0 : ¬ x_lk t n a = -1) (c1 : ¬ x_lk t n a = 10) (c2 : ¬ x_lk t n a = 47) (c3 : ¬ x_lk t n a = 93) (c4 : ¬ (x_lk t n (a + 1) = 45 ∧ ¬ x_lk t n (a + 2) = 93)) : x_set t n a = if x_lk t n (a + 1) = 93 then some (a + 2) else x_set t n (a + 1) := by
  rw [x_se n2 c0, if_neg (fun z => z.elim c1 (fun z => z.elim c2 c3)), if_neg c4]
theorem x_se2 (n2 : n ≤ 1000) (c0 : ¬ x_lk t n a = -1) (c1 : ¬ x_lk t n a = 10) (c2 : ¬ x_lk t n a = 47) (c3 : ¬ x_lk t n a = 93) (c4 : x_lk t n (a + 1) = 45) (c5 : ¬ x_lk t n (a + 2) = 93) : x_set t n a =
      (if x_lk t n (a + 2) = -1 ∨ x_lk t n (a + 2) = 10 ∨ x_lk t n (a + 2) = 47 ∨ x_lk t n (a + 2) = 93 ∨ x_lk t n (a + 2) < x_lk t n a then none
      else if x_lk t n (a + 3) = 93 then some (a + 4) else x_set t n (a + 3)) := by
  rw [x_se n2 c0, if_neg (fun z => z.elim c1 (fun z => z.elim c2 c3)), if_pos ⟨c4, c5⟩]
theorem x_ltp {b k : Int32} (h : a < n ∧ n ≤ 1000) (k1 : 1 ≤ k.toInt) (k4 : k.toInt ≤ 4) (e : b = a + k) : a < b := by
  have e1 := Int32.lt_iff_toInt_lt.mp h.1
  have e2 := Int32.le_iff_toInt_le.mp h.2
  have c1 : (1000 : Int32).toInt = 1000 := rfl
  subst e
  refine Int32.lt_iff_toInt_lt.mpr ?_
  rw [x_add (by omega) (by omega) (by omega)]
  omega
theorem x_lp1 (n2 : n ≤ 1000) (c : ¬ x_lk t n a = -1) : a < a + 1 := x_ltp (k := 1) ⟨(x_lk_at c).1, n2⟩ (by decide) (by decide) rfl
theorem x_lp2 (n2 : n ≤ 1000) (c : ¬ x_lk t n a = -1) : a < a + 2 := x_ltp (k := 2) ⟨(x_lk_at c).1, n2⟩ (by decide) (by decide) rfl
theorem x_lp3 (n2 : n ≤ 1000) (c : ¬ x_lk t n a = -1) : a < a + 3 := x_ltp (k := 3) ⟨(x_lk_at c).1, n2⟩ (by decide) (by decide) rfl
theorem x_cl {v : Int32} (g0 : 0 ≤ gr) (g3 : gr ≤ 3) : gr - 1 < v ↔ (gr < v ∨ v = gr) := by
  constructor
  · intro h; lia
  · intro h; rcases h with h | h <;> lia
theorem x_stp {v : Int32} (h : v ≤ a) (h2 : ¬ 240 < v) {b : Int32} (hb : a < b) : v + 1 ≤ b := by lia
theorem x_lim {v : Int32} (h : v ≤ a) (h2 : 240 < v) (n1 : n ≤ 240) : ¬ a < n := by lia
end XQ
theorem x_0le {a b : Int32} (h0 : 0 ≤ a) (h : a < b) : 0 ≤ b := Int32.le_of_lt (Int32.lt_of_le_of_lt h0 h)
theorem x_ptn {t : Int32 → Int32} {n a : Int32} : x_pattern t n a = x_pat t n (if x_lk t n a = 94 then a + 1 else a) 0 0 0 0 0 := by
  unfold x_pattern
  split <;> rfl
theorem x_if0 {t : Int32 → Int32} {n a : Int32} (n2 : n ≤ 1000) (a0 : 0 ≤ a) : 0 ≤ (if x_lk t n a = 94 then a + 1 else a) := by
  split
  · next c => exact x_0le a0 (x_lp1 n2 (t := t) (by rw [c]; decide))
  · exact a0
theorem x_setlt {t : Int32 → Int32} {n a b : Int32} (n2 : n ≤ 1000) (c : x_lk t n a = 91) (e : x_set t n (if x_lk t n (a + 1) = 94 then a + 2 else a + 1) = some b) : a < b := by
  have z := x_set_lt t n _ _ _ (Nat.lt_succ_self _) e
  obtain ⟨b0, b9, b1, b2, b3, b4⟩ := x_b ⟨(x_lk_in c (by decide)).1, n2⟩
  exact Int32.lt_iff_toInt_lt.mpr (by split at z <;> omega)
theorem x_g3 {g : Int32} (gb : 0 ≤ g ∧ g ≤ 3) (h : ¬ g = 3) : 0 ≤ g + 1 ∧ g + 1 ≤ 3 := by
  obtain ⟨g0, g3⟩ := gb
  constructor <;> lia
theorem x_49 {d : Int32} (e : d = 49 ∨ d = 50 ∨ d = 51) : ¬ d = 40 ∧ ¬ d = 41 ∧ (49 ≤ d ∧ d ≤ 51) := by
  rcases e with e | e | e <;> subst e <;> decide
theorem x_qend {t : Int32 → Int32} {n a ic sc gr go rp : Int32} (tp : ∀ j, t j ≠ -1) (n2 : n ≤ 1000) (c : x_lk t n a = 36) (e1 : go = 0) (e2 : x_lk t n (a + 1) = 47 ∨ x_lk t n (a + 1) = -1) : x_pat t n a ic sc gr go rp = x_pat t n (a + 1) ic sc gr go rp := by
  rw [x_q36 n2 c]
  rcases e2 with e | e
  · rw [if_pos ⟨e1, e⟩, x_q47 n2 e, if_pos e1, x_s11]
  · rw [if_neg (fun z => absurd (z.2.symm.trans e) (by decide)), x_qno tp e, x_qno tp e]
    split <;> rfl
