/-! steps of the rest of a script -/
section XR
variable {t : Int32 → Int32} {n a : Int32}
theorem x_bl_32 (n2 : n ≤ 1000) (c : x_lk t n a = 32) : x_bl t n a = x_bl t n (a + 1) := by
  obtain ⟨c1, c2⟩ := x_lk_in c (by decide)
  rw [x_bl, dif_pos ⟨c1, n2⟩, if_pos c2]
theorem x_bl_out (h : ¬ a < n) : x_bl t n a = a := by
  rw [x_bl, dif_neg (fun z => h z.1)]
theorem x_bl_no (c : ¬ x_lk t n a = 32) : x_bl t n a = a := by
  rw [x_bl]
  split
  · next h => rw [if_neg (fun z => c (by unfold x_lk; rw [if_pos h.1]; exact z))]
  · rfl
theorem x_nl_out (h : ¬ a < n) : x_nl t n a = a := by
  rw [x_nl, dif_neg (fun z => h z.1)]
theorem x_nl_10 (n2 : n ≤ 1000) (h : a < n) (c : t a = 10) : x_nl t n a = a := by
  rw [x_nl, dif_pos ⟨h, n2⟩, if_pos c]
theorem x_nl_st (n2 : n ≤ 1000) (h : a < n) (c : ¬ t a = 10) : x_nl t n a = x_nl t n (a + 1) := by
  rw [x_nl, dif_pos ⟨h, n2⟩, if_neg c]
theorem x_adr47 {b g : Int32} (c : x_lk t n a = 47) (e : x_pattern t n (a + 1) = some (b, g)) : x_adr t n a = some b := by
  unfold x_adr
  rw [if_pos c, e]
  rfl
theorem x_adr47n (c : x_lk t n a = 47) (e : x_pattern t n (a + 1) = none) : x_adr t n a = none := by
  unfold x_adr
  rw [if_pos c, e]
  rfl
theorem x_adr36 (c : x_lk t n a = 36) : x_adr t n a = some (a + 1) := by
  unfold x_adr
  rw [if_neg (by rw [c]; decide), if_pos c]
theorem x_adrd1 (c1 : ¬ x_lk t n a = 47) (c2 : ¬ x_lk t n a = 36) (c : x_lk t n a = 36 ∨ x_lk t n a = 47 ∨ (49 ≤ x_lk t n a ∧ x_lk t n a ≤ 57)) (d : 48 ≤ x_lk t n (a + 1) ∧ x_lk t n (a + 1) ≤ 57) : x_adr t n a = some (a + 2) := by
  unfold x_adr
  rw [if_neg c1, if_neg c2, if_pos ((c.resolve_left c2).resolve_left c1), if_pos d]
theorem x_adrd0 (c1 : ¬ x_lk t n a = 47) (c2 : ¬ x_lk t n a = 36) (c : x_lk t n a = 36 ∨ x_lk t n a = 47 ∨ (49 ≤ x_lk t n a ∧ x_lk t n a ≤ 57)) (d : ¬ (48 ≤ x_lk t n (a + 1) ∧ x_lk t n (a + 1) ≤ 57)) : x_adr t n a = some (a + 1) := by
  unfold x_adr
  rw [if_neg c1, if_neg c2, if_pos ((c.resolve_left c2).resolve_left c1), if_neg d]
theorem x_adrn (c : ¬ (x_lk t n a = 36 ∨ x_lk t n a = 47 ∨ (49 ≤ x_lk t n a ∧ x_lk t n a ≤ 57))) : x_adr t n a = none := by
  unfold x_adr
  rw [if_neg (fun z => c (Or.inr (Or.inl z))), if_neg (fun z => c (Or.inl z)), if_neg (fun z => c (Or.inr (Or.inr z)))]
theorem x_adrs0 (c : ¬ (x_lk t n a = 36 ∨ x_lk t n a = 47 ∨ (49 ≤ x_lk t n a ∧ x_lk t n a ≤ 57))) : x_adrs t n a = some (a, 0) := by
  unfold x_adrs
  rw [if_neg c]
theorem x_adrsn (c : x_lk t n a = 36 ∨ x_lk t n a = 47 ∨ (49 ≤ x_lk t n a ∧ x_lk t n a ≤ 57)) (e : x_adr t n a = none) : x_adrs t n a = none := by
  unfold x_adrs
  rw [if_pos c, e]
theorem x_adrs1 {b : Int32} (c : x_lk t n a = 36 ∨ x_lk t n a = 47 ∨ (49 ≤ x_lk t n a ∧ x_lk t n a ≤ 57)) (e : x_adr t n a = some b) (d : ¬ x_lk t n b = 44) : x_adrs t n a = some (b, 1) := by
  unfold x_adrs
  rw [if_pos c, e]
  dsimp only
  rw [if_neg d]
theorem x_adrs2 {b d : Int32} (c : x_lk t n a = 36 ∨ x_lk t n a = 47 ∨ (49 ≤ x_lk t n a ∧ x_lk t n a ≤ 57)) (e : x_adr t n a = some b) (q : x_lk t n b = 44) (e2 : x_adr t n (b + 1) = some d) : x_adrs t n a = some (d, 1) := by
  unfold x_adrs
  rw [if_pos c, e]
  dsimp only
  rw [if_pos q, e2]
theorem x_adrs2n {b : Int32} (c : x_lk t n a = 36 ∨ x_lk t n a = 47 ∨ (49 ≤ x_lk t n a ∧ x_lk t n a ≤ 57)) (e : x_adr t n a = some b) (q : x_lk t n b = 44) (e2 : x_adr t n (b + 1) = none) : x_adrs t n a = none := by
  unfold x_adrs
  rw [if_pos c, e]
  dsimp only
  rw [if_pos q, e2]
theorem x_neg1 (c : x_lk t n (x_bl t n a) = 33) : x_neg t n a = (x_bl t n (x_bl t n a + 1), 1) := by
  unfold x_neg
  rw [if_pos c]
theorem x_neg0 (c : ¬ x_lk t n (x_bl t n a) = 33) : x_neg t n a = (x_bl t n a, 0) := by
  unfold x_neg
  rw [if_neg c]
theorem x_re_out {g : Int32} (h : ¬ a < n) : x_rep t n a g = none := by
  rw [x_rep, dif_neg (fun z => h z.1)]
theorem x_re47 {g : Int32} (n2 : n ≤ 1000) (c : x_lk t n a = 47) : x_rep t n a g = some (a + 1) := by
  obtain ⟨c1, c2⟩ := x_lk_in c (by decide)
  rw [x_rep, dif_pos ⟨c1, n2⟩, if_pos c2]
theorem x_re10 {g : Int32} (n2 : n ≤ 1000) (c : x_lk t n a = 10) : x_rep t n a g = none := by
  obtain ⟨c1, c2⟩ := x_lk_in c (by decide)
  rw [x_rep, dif_pos ⟨c1, n2⟩, c2, if_neg (by decide), if_pos rfl]
theorem x_re92 {g : Int32} (n2 : n ≤ 1000) (c : x_lk t n a = 92) : x_rep t n a g = if (49 ≤ x_lk t n (a + 1) ∧ x_lk t n (a + 1) ≤ 48 + g) ∨ x_lk t n (a + 1) = 38 ∨ x_lk t n (a + 1) = 47 ∨ x_lk t n (a + 1) = 92 ∨ x_lk t n (a + 1) = 110 then x_rep t n (a + 2) g else none := by
  obtain ⟨c1, c2⟩ := x_lk_in c (by decide)
  rw [x_rep, dif_pos ⟨c1, n2⟩, c2, if_neg (by decide), if_neg (by decide), if_pos rfl]
theorem x_repl {g : Int32} (n2 : n ≤ 1000) (c0 : ¬ x_lk t n a = -1) (c1 : ¬ x_lk t n a = 47) (c2 : ¬ x_lk t n a = 10) (c3 : ¬ x_lk t n a = 92) : x_rep t n a g = x_rep t n (a + 1) g := by
  obtain ⟨d1, d2⟩ := x_lk_at c0
  rw [x_rep, dif_pos ⟨d1, n2⟩, d2, if_neg c1, if_neg c2, if_neg c3]
theorem x_fl_g {p d : Int32} (n2 : n ≤ 1000) (c : x_lk t n a = 103) : x_fl t n a 0 p d = x_fl t n (a + 1) 1 p d := by
  obtain ⟨c1, c2⟩ := x_lk_in c (by decide)
  rw [x_fl, dif_pos ⟨c1, n2⟩, if_pos ⟨c2, rfl⟩]
theorem x_fl_p {g d : Int32} (n2 : n ≤ 1000) (c : x_lk t n a = 112) : x_fl t n a g 0 d = x_fl t n (a + 1) g 1 d := by
  obtain ⟨c1, c2⟩ := x_lk_in c (by decide)
  rw [x_fl, dif_pos ⟨c1, n2⟩, c2, if_neg (fun z => absurd z.1 (by decide)), if_pos ⟨rfl, rfl⟩]
theorem x_fl_d {g p : Int32} (n2 : n ≤ 1000) (c : 49 ≤ x_lk t n a ∧ x_lk t n a ≤ 57) : x_fl t n a g p 0 = x_fl t n (a + 1) g p (x_lk t n a - 48) := by
  obtain ⟨d1, d2⟩ := x_lk_at (t := t) (n := n) (a := a) (fun z => absurd c.1 (by rw [z]; decide))
  rw [x_fl, dif_pos ⟨d1, n2⟩, d2, if_neg (fun z => absurd c.2 (by rw [z.1]; decide)), if_neg (fun z => absurd c.2 (by rw [z.1]; decide)), if_pos ⟨c.1, c.2, rfl⟩]
theorem x_fl_no {g p d : Int32} (c1 : ¬ (x_lk t n a = 103 ∧ g = 0)) (c2 : ¬ (x_lk t n a = 112 ∧ p = 0)) (c3 : ¬ (49 ≤ x_lk t n a ∧ x_lk t n a ≤ 57 ∧ d = 0)) : x_fl t n a g p d = a := by
  rw [x_fl]
  split
  · next h =>
    have e : t a = x_lk t n a := by unfold x_lk; rw [if_pos h.1]
    rw [e, if_neg c1, if_neg c2, if_neg c3]
  · rfl
theorem x_seen1 {f c : Int32} (h : f < a ∧ a ≤ 1000) (e : t f = c) : x_seen t f a c = 1 := by
  rw [x_seen, dif_pos h, if_pos e]
theorem x_seens {f c : Int32} (h : f < a ∧ a ≤ 1000) (e : ¬ t f = c) : x_seen t f a c = x_seen t (f + 1) a c := by
  rw [x_seen, dif_pos h, if_neg e]
theorem x_seen0 {f c : Int32} (h : ¬ f < a) : x_seen t f a c = 0 := by
  rw [x_seen, dif_neg (fun z => h z.1)]
theorem x_yf_out {f : Int32} (h : ¬ a < n) : x_yf t n f a = none := by
  rw [x_yf, dif_neg (fun z => h z.1)]
theorem x_yf47 {f : Int32} (n2 : n ≤ 1000) (c : x_lk t n a = 47) : x_yf t n f a = some a := by
  obtain ⟨c1, c2⟩ := x_lk_in c (by decide)
  rw [x_yf, dif_pos ⟨c1, n2⟩, if_pos c2]
theorem x_yfn {f : Int32} (tp : ∀ j, t j ≠ -1) (n2 : n ≤ 1000) (c1 : ¬ x_lk t n a = 47) (c : (x_lk t n a = -1 ∨ x_lk t n a = 10 ∨ x_lk t n a = 92) ∨ x_seen t f a (x_lk t n a) = 1) : x_yf t n f a = none := by
  by_cases q : x_lk t n a = -1
  · exact x_yf_out (x_lk_no tp q)
  · obtain ⟨d1, d2⟩ := x_lk_at q
    rw [x_yf, dif_pos ⟨d1, n2⟩, d2, if_neg c1, if_pos (by rcases c with (c | c | c) | c; exact absurd c q; exact Or.inl c; exact Or.inr (Or.inl c); exact Or.inr (Or.inr c))]
theorem x_yfs {f : Int32} (n2 : n ≤ 1000) (c0 : ¬ x_lk t n a = -1) (c1 : ¬ x_lk t n a = 47) (c2 : ¬ x_lk t n a = 10) (c3 : ¬ x_lk t n a = 92) (c4 : x_seen t f a (x_lk t n a) = 0) : x_yf t n f a = x_yf t n f (a + 1) := by
  obtain ⟨d1, d2⟩ := x_lk_at c0
  rw [x_yf, dif_pos ⟨d1, n2⟩, d2, if_neg c1, if_neg (fun z => z.elim c2 (fun z => z.elim c3 (fun z => absurd (z.symm.trans c4) (by decide))))]
theorem x_yt_out {k : Int32} (h : ¬ a < n) : x_yt t n k a = none := by
  rw [x_yt, dif_neg (fun z => h z.1)]
theorem x_yt0 (n2 : n ≤ 1000) (c : x_lk t n a = 47) : x_yt t n 0 a = some (a + 1) := by
  obtain ⟨c1, c2⟩ := x_lk_in c (by decide)
  rw [x_yt, dif_pos ⟨c1, n2⟩, if_pos rfl, if_pos c2]
theorem x_yt0n (c : ¬ x_lk t n a = 47) : x_yt t n 0 a = none := by
  rw [x_yt]
  split
  · next h =>
    have e : t a = x_lk t n a := by unfold x_lk; rw [if_pos h.1]
    rw [if_pos rfl, e, if_neg c]
  · rfl
theorem x_ytn {k : Int32} (tp : ∀ j, t j ≠ -1) (n2 : n ≤ 1000) (hk : ¬ k = 0) (c : x_lk t n a = 47 ∨ (x_lk t n a = -1 ∨ x_lk t n a = 10 ∨ x_lk t n a = 92)) : x_yt t n k a = none := by
  by_cases q : x_lk t n a = -1
  · exact x_yt_out (x_lk_no tp q)
  · obtain ⟨d1, d2⟩ := x_lk_at q
    rw [x_yt, dif_pos ⟨d1, n2⟩, d2, if_neg hk, if_pos (by rcases c with c | c | c | c; exact Or.inr (Or.inr c); exact absurd c q; exact Or.inl c; exact Or.inr (Or.inl c))]
theorem x_yts {k : Int32} (n2 : n ≤ 1000) (hk : ¬ k = 0) (c0 : ¬ x_lk t n a = -1) (c1 : ¬ x_lk t n a = 47) (c2 : ¬ x_lk t n a = 10) (c3 : ¬ x_lk t n a = 92) : x_yt t n k a = x_yt t n (k - 1) (a + 1) := by
  obtain ⟨d1, d2⟩ := x_lk_at c0
  rw [x_yt, dif_pos ⟨d1, n2⟩, d2, if_neg hk, if_neg (fun z => z.elim c2 (fun z => z.elim c3 c1))]
theorem x_end1 {c : Int32} (h : c = -1 ∨ c = 32 ∨ c = 10 ∨ c = 59 ∨ c = 125) : x_end c = true := by
  rcases h with h | h | h | h | h <;> subst h <;> decide
theorem x_end0 {c : Int32} (h1 : ¬ c = -1) (h2 : ¬ c = 32) (h3 : ¬ c = 10) (h4 : ¬ c = 59) (h5 : ¬ c = 125) : ¬ x_end c = true := by
  intro z
  unfold x_end at z
  simp only [Bool.or_eq_true, beq_iff_eq] at z
  rcases z with (((z | z) | z) | z) | z
  · exact h1 z
  · exact h2 z
  · exact h3 z
  · exact h4 z
  · exact h5 z
theorem x_fin1 {k v : Int32} (h : x_end (x_lk t n a) = true) : x_fin t n a k v = some (a, k, v) := by
  unfold x_fin
  rw [if_pos h]
theorem x_fin0 {k v : Int32} (h : ¬ x_end (x_lk t n a) = true) : x_fin t n a k v = none := by
  unfold x_fin
  rw [if_neg h]
theorem x_sub_n (c : ¬ x_lk t n a = 47) : x_sub t n a = none := by
  unfold x_sub
  rw [if_neg c]
theorem x_sub_p (c : x_lk t n a = 47) (e : x_pattern t n (a + 1) = none) : x_sub t n a = none := by
  unfold x_sub
  rw [if_pos c, e]
theorem x_sub_r {b g : Int32} (c : x_lk t n a = 47) (e : x_pattern t n (a + 1) = some (b, g)) (e2 : x_rep t n b g = none) : x_sub t n a = none := by
  unfold x_sub
  rw [if_pos c, e]
  dsimp only
  rw [e2]
theorem x_sub_s {b g d : Int32} (c : x_lk t n a = 47) (e : x_pattern t n (a + 1) = some (b, g)) (e2 : x_rep t n b g = some d) : x_sub t n a = some (x_fl t n d 0 0 0) := by
  unfold x_sub
  rw [if_pos c, e]
  dsimp only
  rw [e2]
/-- both halves of y -/
def x_yy (t : Int32 → Int32) (n f a : Int32) : Option Int32 := match x_yf t n f a with
  | none => none
  | some b => x_yt t n (b - f) (b + 1)
theorem x_yy_n {f : Int32} (e : x_yf t n f a = none) : x_yy t n f a = none := by
  unfold x_yy
  rw [e]
theorem x_yy_s {f b : Int32} (e : x_yf t n f a = some b) : x_yy t n f a = x_yt t n (b - f) (b + 1) := by
  unfold x_yy
  rw [e]
theorem x_yy_e {f : Int32} (e : x_yf t n f a = x_yf t n f (a + 1)) : x_yy t n f a = x_yy t n f (a + 1) := by
  unfold x_yy
  rw [e]
theorem x_exc_n (c : ¬ x_lk t n a = 47) : x_exc t n a = none := by
  unfold x_exc
  rw [if_neg c]
theorem x_exc_y (c : x_lk t n a = 47) : x_exc t n a = x_yy t n (a + 1) (a + 1) := by
  unfold x_exc x_yy
  rw [if_pos c]
  cases x_yf t n (a + 1) (a + 1) <;> rfl
end XR
theorem x_m1 (g : Int32) : ¬ ((49 ≤ (-1 : Int32) ∧ (-1 : Int32) ≤ 48 + g) ∨ (-1 : Int32) = 38 ∨ (-1 : Int32) = 47 ∨ (-1 : Int32) = 92 ∨ (-1 : Int32) = 110) := by
  rintro (z | z | z | z | z)
  · exact absurd z.1 (by decide)
  all_goals exact absurd z (by decide)
theorem x_ne {a K : Int32} (h : a = K) (k : K ≠ -1 := by decide) : ¬ a = -1 := fun z => k (h.symm.trans z)
theorem x_ne2 {a : Int32} (h : ¬ a < 49) : ¬ a = -1 := fun z => h (by rw [z]; decide)
theorem x_lim2 {a n v : Int32} (h : v ≤ a) (h2 : 240 ≤ v) (n1 : n ≤ 240) : ¬ a < n := by lia
theorem x_stp2 {a b v : Int32} (h : v ≤ a) (h2 : ¬ 240 ≤ v) (hb : a < b) : v + 1 ≤ b := by lia
theorem x_le1 {a n : Int32} (n2 : n ≤ 1000) (h : a < n) : a + 1 ≤ n := by lia
theorem x_le2 {t : Int32 → Int32} {a n : Int32} (n2 : n ≤ 1000) (c : x_lk t n (a + 1) = 47) : a + 2 ≤ n := by
  rw [← x_s11]
  exact x_le1 n2 (x_lk_in c (by decide)).1
theorem x_an1 {a n : Int32} (h : a ≤ n) (n2 : n ≤ 1000) : a < 1001 := by lia
theorem x_lim3 {a n v : Int32} (h : v ≤ a) (h2 : 240 < v) (n1 : n ≤ 240) (an : a ≤ n) : ¬ a + 1 < n := by lia
theorem x_inc {a b : Int32} (h : 0 ≤ a) (h2 : a < b) (h3 : b ≤ 2000) : 0 ≤ a + 1 := by lia
def x_cn (g p d : Int32) : Int32 := (if g = 0 then 0 else 1) + (if p = 0 then 0 else 1) + (if d = 0 then 0 else 1)
theorem x_fl_all {t : Int32 → Int32} {n a g p d v : Int32} (h : v = x_cn g p d) (h3 : 3 ≤ v) : x_fl t n a g p d = a := by
  unfold x_cn at h
  subst h
  by_cases g0 : g = 0 <;> by_cases p0 : p = 0 <;> by_cases d0 : d = 0 <;> first
    | (rw [if_neg g0, if_neg p0, if_neg d0] at h3; exact x_fl_no (fun z => g0 z.2) (fun z => p0 z.2) (fun z => d0 z.2.2))
    | (exfalso; simp only [g0, p0, d0, if_true, if_false] at h3; revert h3; decide)
theorem x_cng {g p d v : Int32} (h : v = x_cn g p d) (z : g = 0) : v + 1 = x_cn 1 p d := by
  subst h; subst z; unfold x_cn
  by_cases p0 : p = 0 <;> by_cases d0 : d = 0 <;> simp only [p0, d0, if_true, if_false] <;> decide
theorem x_cnp {g p d v : Int32} (h : v = x_cn g p d) (z : p = 0) : v + 1 = x_cn g 1 d := by
  subst h; subst z; unfold x_cn
  by_cases p0 : g = 0 <;> by_cases d0 : d = 0 <;> simp only [p0, d0, if_true, if_false] <;> decide
theorem x_cnd {g p d v c : Int32} (h : v = x_cn g p d) (z : d = 0) (h1 : 49 ≤ c) (h2 : c ≤ 57) : v + 1 = x_cn g p (c - 48) := by
  have e : ¬ c - 48 = 0 := by lia
  subst h; subst z; unfold x_cn
  by_cases p0 : g = 0 <;> by_cases d0 : p = 0 <;> simp only [p0, d0, e, if_true, if_false] <;> decide
theorem x_rat {t : Int32 → Int32} {n m j : Int32} {f : Int32 → Int32} (j0 : 0 ≤ j) (j1 : j < n) (hn : m = n) (ht : ∀ j, 0 ≤ j → j < n → f j = t j) : (if 0 ≤ j ∧ j < m then f j else -1) = t j := by
  rw [if_pos ⟨j0, hn ▸ j1⟩, ht j j0 j1]
theorem x_sub0 {v b : Int32} (w : 0 ≤ v ∧ v ≤ b ∧ b ≤ 1000) (h : ¬ b ≤ v) : ¬ b - v = 0 := by
  obtain ⟨w1, w2, w3⟩ := w
  lia
theorem x_eq0 {v b : Int32} (w : 0 ≤ v ∧ v ≤ b ∧ b ≤ 1000) (h : b ≤ v) : b - v = 0 := by
  obtain ⟨w1, w2, w3⟩ := w
  lia
theorem x_sub1 (b v : Int32) : b - v - 1 = b - (v + 1) := by grind
theorem x_wk {v b : Int32} (w : 0 ≤ v ∧ v ≤ b ∧ b ≤ 1000) (h : ¬ b ≤ v) : 0 ≤ v + 1 ∧ v + 1 ≤ b ∧ b ≤ 1000 := by
  obtain ⟨w1, w2, w3⟩ := w
  refine ⟨?_, ?_, w3⟩ <;> lia
