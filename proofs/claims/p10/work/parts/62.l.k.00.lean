/-! commands -/
section XA
variable {t : Int32 → Int32} {n a ad : Int32}
theorem x_ac123 (c : x_lk t n a = 123) : x_act t n a ad = some (a + 1, 1, 0) := by
  unfold x_act
  dsimp only
  rw [c, if_pos rfl]
theorem x_ac58a (c : x_lk t n a = 58) (h : ad = 1) : x_act t n a ad = none := by
  unfold x_act
  dsimp only
  rw [c, if_neg (by decide), if_pos rfl, if_pos h]
theorem x_ac58b (c : x_lk t n a = 58) (d : ¬ (97 ≤ x_lk t n (a + 1) ∧ x_lk t n (a + 1) ≤ 122)) : x_act t n a ad = none := by
  unfold x_act
  dsimp only
  rw [c, if_neg (by decide), if_pos rfl, if_neg d]
  split <;> rfl
theorem x_ac58 (c : x_lk t n a = 58) (h : ¬ ad = 1) (d : 97 ≤ x_lk t n (a + 1) ∧ x_lk t n (a + 1) ≤ 122) : x_act t n a ad = x_fin t n (a + 2) 2 (x_lk t n (a + 1) - 97) := by
  unfold x_act
  dsimp only
  rw [c, if_neg (by decide), if_pos rfl, if_neg h, if_pos d]
theorem x_acb (c : x_lk t n a = 98 ∨ x_lk t n a = 116) : x_act t n a ad = if 97 ≤ x_lk t n (a + 1) ∧ x_lk t n (a + 1) ≤ 122 then x_fin t n (a + 2) 3 (x_lk t n (a + 1) - 97) else x_fin t n (a + 1) 3 (-1) := by
  unfold x_act
  dsimp only
  rcases c with c | c <;> rw [c, if_neg (by decide), if_neg (by decide), if_pos (by decide)]
theorem x_acs (c : x_lk t n a = 115) : x_act t n a ad = match x_sub t n (a + 1) with
    | none => none
    | some b => x_fin t n b 0 0 := by
  unfold x_act
  dsimp only
  rw [c, if_neg (by decide), if_neg (by decide), if_neg (by decide), if_pos rfl]
  cases x_sub t n (a + 1) <;> rfl
theorem x_acs0 (c : x_lk t n a = 115) (e : x_sub t n (a + 1) = none) : x_act t n a ad = none := by
  rw [x_acs c, e]
theorem x_acs1 {b : Int32} (c : x_lk t n a = 115) (e : x_sub t n (a + 1) = some b) : x_act t n a ad = x_fin t n b 0 0 := by
  rw [x_acs c, e]
theorem x_acy (c : x_lk t n a = 121) : x_act t n a ad = match x_exc t n (a + 1) with
    | none => none
    | some b => x_fin t n b 0 0 := by
  unfold x_act
  dsimp only
  rw [c, if_neg (by decide), if_neg (by decide), if_neg (by decide), if_neg (by decide), if_pos rfl]
  cases x_exc t n (a + 1) <;> rfl
theorem x_acy0 (c : x_lk t n a = 121) (e : x_exc t n (a + 1) = none) : x_act t n a ad = none := by
  rw [x_acy c, e]
theorem x_acy1 {b : Int32} (c : x_lk t n a = 121) (e : x_exc t n (a + 1) = some b) : x_act t n a ad = x_fin t n b 0 0 := by
  rw [x_acy c, e]
theorem x_aca (c : x_lk t n a = 97 ∨ x_lk t n a = 105 ∨ x_lk t n a = 99) : x_act t n a ad = if x_lk t n (a + 1) = 32 then some (x_nl t n (a + 2), 0, 0) else none := by
  unfold x_act
  dsimp only
  rcases c with c | c | c <;> rw [c, if_neg (by decide), if_neg (by decide), if_neg (by decide), if_neg (by decide), if_neg (by decide), if_pos (by decide)]
def x_pl (c : Int32) : Bool := c == 100 || c == 68 || c == 112 || c == 80 || c == 110 || c == 78 || c == 104 || c == 72 || c == 103 || c == 71 || c == 120 || c == 61 || c == 113
theorem x_acp {c : Int32} (e : x_lk t n a = c) (h : x_pl c = true) : x_act t n a ad = x_fin t n (a + 1) 0 0 := by
  unfold x_pl at h
  simp only [Bool.or_eq_true, beq_iff_eq] at h
  unfold x_act
  dsimp only
  rcases h with (((((((((((h | h) | h) | h) | h) | h) | h) | h) | h) | h) | h) | h) | h <;> subst h <;>
    rw [e, if_neg (by decide), if_neg (by decide), if_neg (by decide), if_neg (by decide), if_neg (by decide), if_neg (by decide), if_pos (by decide)]
theorem x_acn (c1 : ¬ x_lk t n a = 123) (c2 : ¬ x_lk t n a = 58) (c3 : ¬ x_lk t n a = 98) (c4 : ¬ x_lk t n a = 116) (c5 : ¬ x_lk t n a = 115) (c6 : ¬ x_lk t n a = 121) (c7 : ¬ x_lk t n a = 97) (c8 : ¬ x_lk t n a = 105) (c9 : ¬ x_lk t n a = 99) (d1 : ¬ x_lk t n a = 100) (d2 : ¬ x_lk t n a = 68) (d3 : ¬ x_lk t n a = 112) (d4 : ¬ x_lk t n a = 80) (d5 : ¬ x_lk t n a = 110) (d6 : ¬ x_lk t n a = 78) (d7 : ¬ x_lk t n a = 104) (d8 : ¬ x_lk t n a = 72) (d9 : ¬ x_lk t n a = 103) (e1 : ¬ x_lk t n a = 71) (e2 : ¬ x_lk t n a = 120) (e3 : ¬ x_lk t n a = 61) (e4 : ¬ x_lk t n a = 113) : x_act t n a ad = none := by
  unfold x_act
  dsimp only
  rw [if_neg c1, if_neg c2, if_neg (fun z => z.elim c3 c4), if_neg c5, if_neg c6, if_neg (fun z => z.elim c7 (fun z => z.elim c8 c9)), if_neg]
  rintro (z | z | z | z | z | z | z | z | z | z | z | z | z)
  · exact d1 z
  · exact d2 z
  · exact d3 z
  · exact d4 z
  · exact d5 z
  · exact d6 z
  · exact d7 z
  · exact d8 z
  · exact d9 z
  · exact e1 z
  · exact e2 z
  · exact e3 z
  · exact e4 z
/-- a label that isn't placed: the class says -1, the reference something below 0 -/
def x_abc (x : Int32) : Prop := x = -1
def x_abr (x : Int32) : Prop := x < 0
/-- a command was read: where it ends, depth, labels, its kind and its label -/
def x_A1 (ab : Int32 → Prop) (act : Option (Int32 × Int32 × Int32)) (b d d' s : Int32) (l l' : Int32 → Int32) (kd lb : Int32) : Prop :=
  ∃ k v, act = some (b, k, v) ∧
    ((k = 1 ∧ ¬ d = 4 ∧ d' = d + 1 ∧ l' = l ∧ ¬ kd = 98 ∧ ¬ kd = 116) ∨
     (k = 2 ∧ d' = d ∧ ab (l v) ∧ (0 ≤ v ∧ v ≤ 25) ∧ (∀ j, 0 ≤ j → l' j = if j = v then s else l j) ∧ ¬ kd = 98 ∧ ¬ kd = 116) ∨
     (k = 3 ∧ d' = d ∧ l' = l ∧ lb = v ∧ (v = -1 ∨ (0 ≤ v ∧ v ≤ 25)) ∧ (kd = 98 ∨ kd = 116)) ∨
     (k = 0 ∧ d' = d ∧ l' = l ∧ ¬ kd = 98 ∧ ¬ kd = 116))
def x_A0 (ab : Int32 → Prop) (act : Option (Int32 × Int32 × Int32)) (d : Int32) (l : Int32 → Int32) : Prop :=
  act = none ∨ (∃ b v, act = some (b, 1, v) ∧ d = 4) ∨ (∃ b v, act = some (b, 2, v) ∧ (0 ≤ v ∧ v ≤ 25) ∧ ¬ ab (l v))
theorem x_A1_1 {ab : Int32 → Prop} {act : Option (Int32 × Int32 × Int32)} {b d s v kd lb : Int32} {l : Int32 → Int32} (e : act = some (b, 1, v)) (h1 : ¬ d = 4) (h2 : ¬ kd = 98) (h3 : ¬ kd = 116) : x_A1 ab act b d (d + 1) s l l kd lb :=
  ⟨1, v, e, Or.inl ⟨rfl, h1, rfl, rfl, h2, h3⟩⟩
theorem x_A1_2 {ab : Int32 → Prop} {act : Option (Int32 × Int32 × Int32)} {b d s v kd lb : Int32} {l l' : Int32 → Int32} (e : act = some (b, 2, v)) (h1 : ab (l v)) (hv : 0 ≤ v ∧ v ≤ 25) (hl : ∀ j, 0 ≤ j → l' j = if j = v then s else l j) (h2 : ¬ kd = 98) (h3 : ¬ kd = 116) : x_A1 ab act b d d s l l' kd lb :=
  ⟨2, v, e, Or.inr (Or.inl ⟨rfl, rfl, h1, hv, hl, h2, h3⟩)⟩
theorem x_A1_3 {ab : Int32 → Prop} {act : Option (Int32 × Int32 × Int32)} {b d s v kd lb : Int32} {l : Int32 → Int32} (e : act = some (b, 3, v)) (h1 : lb = v) (hv : v = -1 ∨ (0 ≤ v ∧ v ≤ 25)) (h2 : kd = 98 ∨ kd = 116) : x_A1 ab act b d d s l l kd lb :=
  ⟨3, v, e, Or.inr (Or.inr (Or.inl ⟨rfl, rfl, rfl, h1, hv, h2⟩))⟩
theorem x_A1_0 {ab : Int32 → Prop} {act : Option (Int32 × Int32 × Int32)} {b d s v kd lb : Int32} {l : Int32 → Int32} (e : act = some (b, 0, v)) (h2 : ¬ kd = 98) (h3 : ¬ kd = 116) : x_A1 ab act b d d s l l kd lb :=
  ⟨0, v, e, Or.inr (Or.inr (Or.inr ⟨rfl, rfl, rfl, h2, h3⟩))⟩
theorem x_az {d : Int32} (h : 97 ≤ d ∧ d ≤ 122) : 0 ≤ d - 97 ∧ d - 97 ≤ 25 := by
  obtain ⟨h1, h2⟩ := h
  constructor <;> lia
theorem x_A0_lab {ab : Int32 → Prop} {d e5 e6 : Int32} {l : Int32 → Int32} (c : x_lk t n a = 58) (had : ad = 1 ↔ (0 < e5 ∨ ¬ e6 = 0)) (g : 0 < e5 ∨ ¬ e6 = 0 ∨ ¬ (97 ≤ x_lk t n (a + 1) ∧ x_lk t n (a + 1) ≤ 122) ∨ ¬ ab (l (x_lk t n (a + 1) - 97))) : x_A0 ab (x_act t n a ad) d l := by
  by_cases q : ad = 1
  · exact Or.inl (x_ac58a c q)
  · have q2 : ¬ (0 < e5 ∨ ¬ e6 = 0) := fun z => q (had.mpr z)
    by_cases w : 97 ≤ x_lk t n (a + 1) ∧ x_lk t n (a + 1) ≤ 122
    · have g2 : ¬ ab (l (x_lk t n (a + 1) - 97)) := by
        rcases g with g | g | g | g
        · exact absurd (Or.inl g) q2
        · exact absurd (Or.inr g) q2
        · exact absurd w g
        · exact g
      by_cases r : x_end (x_lk t n (a + 2)) = true
      · exact Or.inr (Or.inr ⟨_, _, (x_ac58 c q w).trans (x_fin1 r), x_az w, g2⟩)
      · exact Or.inl ((x_ac58 c q w).trans (x_fin0 r))
    · exact Or.inl (x_ac58b c w)
/-- addresses, blanks and a ! were read -/
def x_AP (t : Int32 → Int32) (n a b e f : Int32) : Prop := ∃ r, x_adrs t n a = some r ∧ b = (x_neg t n r.1).1 ∧ f = (x_neg t n r.1).2 ∧ (0 < e ↔ r.2 = 1)
end XA
theorem x_nst {c : Int32} (h : c = 36 ∨ c = 47 ∨ (49 ≤ c ∧ c ≤ 57)) : ¬ c = -1 := by
  intro z
  subst z
  revert h
  decide
theorem x_blle {t : Int32 → Int32} {n a : Int32} (a0 : 0 ≤ a) : 0 ≤ x_bl t n a := by
  have z := x_bl_le t n _ a (Nat.lt_succ_self _)
  exact Int32.le_trans a0 (Int32.le_iff_toInt_le.mpr (by omega))
theorem x_adrl {t : Int32 → Int32} {n a b : Int32} (n2 : n ≤ 1000) (e : x_adr t n a = some b) : a < b := Int32.lt_iff_toInt_lt.mpr (x_adr_lt n2 e).1
theorem x_pl0 {t : Int32 → Int32} {n a : Int32} {r : Int32 × Int32} (n2 : n ≤ 1000) (a0 : 0 ≤ a) (c : x_lk t n a = 115) (c2 : x_lk t n (a + 1) = 47) (e : x_pattern t n (a + 2) = some r) : 0 ≤ r.1 := by
  obtain ⟨b0, b9, b1, b2, b3, b4⟩ := x_b ⟨(x_lk_in c (by decide)).1, n2⟩
  have w := (x_lk_lt c2 (by decide)).1
  have z := x_pattern_lt (by omega) e
  have a1 := Int32.le_iff_toInt_le.mp a0
  have z0 : (0 : Int32).toInt = 0 := rfl
  exact Int32.le_iff_toInt_le.mpr (by omega)
theorem x_rpl {t : Int32 → Int32} {n a b g : Int32} (e : x_rep t n a g = some b) : a < b := Int32.lt_iff_toInt_lt.mpr (x_rep_lt t n g _ a b (Nat.lt_succ_self _) e).1
theorem x_suba {t : Int32 → Int32} {n a b : Int32} (n2 : n ≤ 1000) (c : x_lk t n a = 115) (e : x_sub t n (a + 1) = some b) : a < b := by
  obtain ⟨b0, b9, b1, b2, b3, b4⟩ := x_b ⟨(x_lk_in c (by decide)).1, n2⟩
  have z := x_sub_lt n2 e
  exact Int32.lt_iff_toInt_lt.mpr (by omega)
theorem x_exca {t : Int32 → Int32} {n a b : Int32} (n2 : n ≤ 1000) (c : x_lk t n a = 121) (e : x_exc t n (a + 1) = some b) : a < b := by
  obtain ⟨b0, b9, b1, b2, b3, b4⟩ := x_b ⟨(x_lk_in c (by decide)).1, n2⟩
  have z := x_exc_lt n2 e
  exact Int32.lt_iff_toInt_lt.mpr (by omega)
