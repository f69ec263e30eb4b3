def x_C1 (t : Int32 → Int32) (n a b d d' s : Int32) (l l' : Int32 → Int32) (kd lb : Int32) : Prop := ∃ r, x_adrs t n a = some r ∧ x_A1 x_abr (x_act t n (x_neg t n r.1).1 (if r.2 = 1 ∨ (x_neg t n r.1).2 = 1 then 1 else 0)) b d d' s l l' kd lb
def x_C0 (t : Int32 → Int32) (n a d : Int32) (l : Int32 → Int32) : Prop := x_adrs t n a = none ∨ ∃ r, x_adrs t n a = some r ∧ x_A0 x_abr (x_act t n (x_neg t n r.1).1 (if r.2 = 1 ∨ (x_neg t n r.1).2 = 1 then 1 else 0)) d l
theorem x_ast {t : Int32 → Int32} {n a b : Int32} (e : x_adr t n a = some b) : x_lk t n a = 36 ∨ x_lk t n a = 47 ∨ (49 ≤ x_lk t n a ∧ x_lk t n a ≤ 57) := by
  by_cases q : x_lk t n a = 36 ∨ x_lk t n a = 47 ∨ (49 ≤ x_lk t n a ∧ x_lk t n a ≤ 57)
  · exact q
  · rw [x_adrn q] at e; cases e
theorem x_y0 {y : Int32} (h : y = 0) : y ≤ 0 := by rw [h]; decide
theorem x_yn {y : Int32} (h0 : 0 ≤ y) (h : ¬ y = 0) : ¬ y ≤ 0 := fun z => h (Int32.le_antisymm z h0)
theorem x_hc0 {y b : Int32} (h : y = 0) : (if (0 : Int32) = 1 ∨ b = 1 then (1 : Int32) else 0) = 1 ↔ (¬ y = 0 ∨ b = 1) := by
  by_cases q : b = 1
  · rw [if_pos (Or.inr q)]; exact ⟨fun _ => Or.inr q, fun _ => rfl⟩
  · rw [if_neg (fun z => z.elim (by decide) q)]
    exact ⟨fun z => absurd z (by decide), fun z => z.elim (fun w => absurd h w) (fun w => absurd w q)⟩
theorem x_hc1 {y b : Int32} (h : ¬ y ≤ 0) : (if (1 : Int32) = 1 ∨ b = 1 then (1 : Int32) else 0) = 1 ↔ (¬ y = 0 ∨ b = 1) := by
  rw [if_pos (Or.inl rfl)]
  exact ⟨fun _ => Or.inl (fun z => h (x_y0 z)), fun _ => rfl⟩
theorem x_bl_fx (t : Int32 → Int32) (n : Int32) : ∀ (m : Nat) (a : Int32), (n.toInt - a.toInt).toNat < m → x_bl t n (x_bl t n a) = x_bl t n a := by
  intro m
  induction m with
  | zero => intro a h; omega
  | succ m ih =>
    intro a hm
    by_cases h : a < n ∧ n ≤ 1000
    · obtain ⟨b0, b9, b1, b2, b3, b4⟩ := x_b h
      by_cases q : x_lk t n a = 32
      · rw [x_bl_32 h.2 q]; exact ih (a + 1) (by omega)
      · rw [x_bl_no q, x_bl_no q]
    · have e : x_bl t n a = a := by rw [x_bl, dif_neg h]
      rw [e, e]
theorem x_bl_fix {t : Int32 → Int32} {n a : Int32} (_ : n ≤ 1000) : x_bl t n (x_bl t n a) = x_bl t n a := x_bl_fx t n _ a (Nat.lt_succ_self _)
theorem x_hd1 {t : Int32 → Int32} {n a ad o : Int32} (had : ad = 1 ↔ (¬ o = 0 ∨ (x_neg t n a).2 = 1)) (c : x_lk t n (x_bl t n a) = 33) : ad = 1 ↔ ¬ (o = 0 ∧ (1 : Int32) = 0) := by
  rw [x_neg1 c] at had
  exact ⟨fun _ z => absurd z.2 (by decide), fun _ => had.mpr (Or.inr rfl)⟩
theorem x_hd0 {t : Int32 → Int32} {n a ad o : Int32} (had : ad = 1 ↔ (¬ o = 0 ∨ (x_neg t n a).2 = 1)) (c : ¬ x_lk t n (x_bl t n a) = 33) : ad = 1 ↔ ¬ (o = 0 ∧ (0 : Int32) = 0) := by
  rw [x_neg0 c] at had
  exact ⟨fun h z => (had.mp h).elim (fun w => w z.1) (fun w => absurd (show (0 : Int32) = 1 from w) (by decide)), fun h => had.mpr (Or.inl (fun w => h ⟨w, rfl⟩))⟩
section XU
variable {t : Int32 → Int32} {n a ad : Int32}
theorem x_acm (c : x_lk t n a = -1) : x_act t n a ad = none := by
  unfold x_act
  dsimp only
  rw [c, if_neg (by decide), if_neg (by decide), if_neg (by decide), if_neg (by decide), if_neg (by decide), if_neg (by decide), if_neg (by decide)]
theorem x_acnp (c1 : ¬ x_lk t n a = 123) (c2 : ¬ x_lk t n a = 58) (c3 : ¬ x_lk t n a = 98) (c4 : ¬ x_lk t n a = 116) (c5 : ¬ x_lk t n a = 115) (c6 : ¬ x_lk t n a = 121) (c7 : ¬ x_lk t n a = 97) (c8 : ¬ x_lk t n a = 105) (c9 : ¬ x_lk t n a = 99) (h : ¬ x_pl (x_lk t n a) = true) : x_act t n a ad = none := by
  have q : ∀ k : Int32, x_pl k = true → ¬ x_lk t n a = k := fun k hk z => h (z ▸ hk)
  exact x_acn c1 c2 c3 c4 c5 c6 c7 c8 c9 (q _ rfl) (q _ rfl) (q _ rfl) (q _ rfl) (q _ rfl) (q _ rfl) (q _ rfl) (q _ rfl) (q _ rfl) (q _ rfl) (q _ rfl) (q _ rfl) (q _ rfl)
theorem x_acsr (c : x_lk t n a = 115) (g : x_sub t n (a + 1) = none ∨ ∃ b, x_sub t n (a + 1) = some b ∧ ¬ x_end (x_lk t n b) = true) : x_act t n a ad = none := by
  rcases g with g | ⟨b, g, e⟩
  · exact x_acs0 c g
  · exact (x_acs1 c g).trans (x_fin0 e)
theorem x_A0_labr {ab : Int32 → Prop} {d : Int32} {l : Int32 → Int32} (c : x_lk t n a = 58) (q : ¬ ad = 1) (g : ¬ (97 ≤ x_lk t n (a + 1) ∧ x_lk t n (a + 1) ≤ 122) ∨ ¬ ab (l (x_lk t n (a + 1) - 97)) ∨ ¬ x_end (x_lk t n (a + 2)) = true) : x_A0 ab (x_act t n a ad) d l := by
  by_cases w : 97 ≤ x_lk t n (a + 1) ∧ x_lk t n (a + 1) ≤ 122
  · by_cases r : x_end (x_lk t n (a + 2)) = true
    · rcases g with g | g | g
      · exact absurd w g
      · exact Or.inr (Or.inr ⟨_, _, (x_ac58 c q w).trans (x_fin1 r), x_az w, g⟩)
      · exact absurd r g
    · exact Or.inl ((x_ac58 c q w).trans (x_fin0 r))
  · exact Or.inl (x_ac58b c w)
end XU
