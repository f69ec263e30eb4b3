/-! the reference's walk begins anew: its heap, with what a walk leaves set back -/
def q_rst (v0 : Nat) (h : z_H) : Option z_H :=
  z_b (sF h v0 12 55 (.int 0)) fun h1 =>
  z_b (uI h1 (v0 + 37) 0 1 (-1)) fun h2 =>
  z_b (uI h2 (v0 + 37) 0 2 (-1)) fun h3 =>
  z_b (uI h3 (v0 + 37) 0 3 (-1)) fun h4 =>
  z_b (uI h4 (v0 + 38) 0 1 (-1)) fun h5 =>
  z_b (uI h5 (v0 + 38) 0 2 (-1)) fun h6 =>
  uI h6 (v0 + 38) 0 3 (-1)
def q_m3 (f : Nat → Int32) : Nat → Int32 := upd (upd (upd f 1 (-1)) 2 (-1)) 3 (-1)
theorem q_uI_eq {h : z_H} {a : Nat} {f : Nat → Int32} {i x : Int32} (e : h a = some (.inl (0, 4, .inl f))) (hi : ¬ (i < 0 ∨ 4 ≤ i.toNatClampNeg)) : uI h a 0 i x = some (z_up h a (.inl (0, 4, .inl (upd f i.toNatClampNeg x)))) := by
  unfold uI
  rw [e]
  exact if_pos ⟨rfl, hi⟩
theorem q_up_s (h : z_H) (a : Nat) (e : z_E) : z_up h a e a = some e := if_pos rfl
theorem q_up_n (h : z_H) {a b : Nat} (e : z_E) (n : b ≠ a) : z_up h a e b = h b := if_neg n
theorem q_rst_eq {v0 : Nat} {h : z_H} {fs : List Value} {f g : Nat → Int32} (e1 : h v0 = some (.inr (12, fs))) (hl : 55 < fs.length) (e2 : h (v0 + 37) = some (.inl (0, 4, .inl f))) (e3 : h (v0 + 38) = some (.inl (0, 4, .inl g))) :
    q_rst v0 h = some (z_up (z_up (z_up h v0 (.inr (12, fs.set 55 (.int 0)))) (v0 + 37) (.inl (0, 4, .inl (q_m3 f)))) (v0 + 38) (.inl (0, 4, .inl (q_m3 g)))) := by
  have s1 : sF h v0 12 55 (.int 0) = some (z_up h v0 (.inr (12, fs.set 55 (.int 0)))) := by
    unfold sF
    rw [e1]
    exact if_pos ⟨rfl, hl⟩
  have d1 : v0 + 37 ≠ v0 := by omega
  have d2 : v0 + 38 ≠ v0 := by omega
  have d3 : v0 + 38 ≠ v0 + 37 := by omega
  unfold q_rst
  rw [s1, z_b_some, q_uI_eq (f := f) (by rw [q_up_n _ _ d1]; exact e2) (by decide), z_b_some, q_uI_eq (q_up_s _ _ _) (by decide), z_b_some, q_uI_eq (q_up_s _ _ _) (by decide), z_b_some, q_uI_eq (f := g) (by rw [q_up_n _ _ d3, q_up_n _ _ d3, q_up_n _ _ d3, q_up_n _ _ d2]; exact e3) (by decide), z_b_some, q_uI_eq (q_up_s _ _ _) (by decide), z_b_some, q_uI_eq (q_up_s _ _ _) (by decide)]
  congr 1
  funext q
  unfold z_up
  by_cases c1 : q = v0 + 38
  · simp only [c1, if_true]; rfl
  · simp only [c1, if_false]
    by_cases c2 : q = v0 + 37
    · simp only [c2, if_true]; rfl
    · simp only [c2, if_false]
theorem q_m3_upd (f : Nat → Int32) {i : Nat} (x : Int32) (hi : i = 1 ∨ i = 2 ∨ i = 3) : q_m3 (upd f i x) = q_m3 f := by
  funext n
  unfold q_m3 upd
  rcases hi with e | e | e <;> subst e <;> grind
section QRST
variable {L : q_L} {W : Nat → Prop} {h0 : z_H} {π : Nat → Nat → Option Nat} {h : z_H} {a : Nat}
theorem q_shape (T : q_T L W h0 π h) (k : qκ L a = 13) (k1 : qκ L (a + 37) = 4 * 1000 + 100 + 0) (k2 : qκ L (a + 38) = 4 * 1000 + 100 + 0) : ∃ fs f g, h a = some (.inr (12, fs)) ∧ 55 < fs.length ∧ h (a + 37) = some (.inl (0, 4, .inl f)) ∧ h (a + 38) = some (.inl (0, 4, .inl g)) := by
  obtain ⟨fs, e1, e2⟩ := q_obj (ci := 12) ((T.1 a).trans k) (by decide)
  obtain ⟨f, e3⟩ := q_arI (t := 0) (n := 4) ((T.1 (a + 37)).trans k1) (by decide)
  obtain ⟨g, e4⟩ := q_arI (t := 0) (n := 4) ((T.1 (a + 38)).trans k2) (by decide)
  exact ⟨fs, f, g, e1, q_tgL (k := 55) (x := 0) e2 rfl, e3, e4⟩
theorem q_rst_55 (T : q_T L W h0 π h) (k : qκ L a = 13) (k1 : qκ L (a + 37) = 4 * 1000 + 100 + 0) (k2 : qκ L (a + 38) = 4 * 1000 + 100 + 0) {h' : z_H} {v : Int32} (e : sF h a 12 55 (.int v) = some h') : q_rst a h' = q_rst a h := by
  obtain ⟨fs, f, g, e1, hl, e2, e3⟩ := q_shape T k k1 k2
  have s1 : sF h a 12 55 (.int v) = some (z_up h a (.inr (12, fs.set 55 (.int v)))) := by
    unfold sF
    rw [e1]
    exact if_pos ⟨rfl, hl⟩
  rw [s1] at e
  cases e
  rw [q_rst_eq e1 hl e2 e3, q_rst_eq (fs := fs.set 55 (.int v)) (f := f) (g := g) (q_up_s _ _ _) (by rw [List.length_set]; exact hl) (by rw [q_up_n _ _ (by omega)]; exact e2) (by rw [q_up_n _ _ (by omega)]; exact e3), List.set_set]
  congr 1
  funext q
  unfold z_up
  by_cases c1 : q = a + 38
  · simp only [c1, if_true]
  · simp only [c1, if_false]
    by_cases c2 : q = a + 37
    · simp only [c2, if_true]
    · simp only [c2, if_false]
      by_cases c3 : q = a
      · simp only [c3, if_true]
      · simp only [c3, if_false]
theorem q_rst_37 (T : q_T L W h0 π h) (k : qκ L a = 13) (k1 : qκ L (a + 37) = 4 * 1000 + 100 + 0) (k2 : qκ L (a + 38) = 4 * 1000 + 100 + 0) {h' : z_H} {i x : Int32} (i0 : 1 ≤ i) (i1 : i < 4) (e : uI h (a + 37) 0 i x = some h') : q_rst a h' = q_rst a h := by
  obtain ⟨fs, f, g, e1, hl, e2, e3⟩ := q_shape T k k1 k2
  have hi : i = 1 ∨ i = 2 ∨ i = 3 := by lia
  have hj : i.toNatClampNeg = 1 ∨ i.toNatClampNeg = 2 ∨ i.toNatClampNeg = 3 := by rcases hi with z | z | z <;> subst z <;> decide
  rw [q_uI_eq e2 (by rcases hi with z | z | z <;> subst z <;> decide)] at e
  cases e
  rw [q_rst_eq e1 hl e2 e3, q_rst_eq (fs := fs) (f := upd f i.toNatClampNeg x) (g := g) (by rw [q_up_n _ _ (by omega)]; exact e1) hl (q_up_s _ _ _) (by rw [q_up_n _ _ (by omega)]; exact e3), q_m3_upd f x hj]
  congr 1
  funext q
  unfold z_up
  by_cases c1 : q = a + 38
  · simp only [c1, if_true]
  · simp only [c1, if_false]
    by_cases c2 : q = a + 37
    · simp only [c2, if_true]
    · simp only [c2, if_false]
theorem q_rst_38 (T : q_T L W h0 π h) (k : qκ L a = 13) (k1 : qκ L (a + 37) = 4 * 1000 + 100 + 0) (k2 : qκ L (a + 38) = 4 * 1000 + 100 + 0) {h' : z_H} {i x : Int32} (i0 : 1 ≤ i) (i1 : i < 4) (e : uI h (a + 38) 0 i x = some h') : q_rst a h' = q_rst a h := by
  obtain ⟨fs, f, g, e1, hl, e2, e3⟩ := q_shape T k k1 k2
  have hi : i = 1 ∨ i = 2 ∨ i = 3 := by lia
  have hj : i.toNatClampNeg = 1 ∨ i.toNatClampNeg = 2 ∨ i.toNatClampNeg = 3 := by rcases hi with z | z | z <;> subst z <;> decide
  rw [q_uI_eq e3 (by rcases hi with z | z | z <;> subst z <;> decide)] at e
  cases e
  rw [q_rst_eq e1 hl e2 e3, q_rst_eq (fs := fs) (f := f) (g := upd g i.toNatClampNeg x) (by rw [q_up_n _ _ (by omega)]; exact e1) hl (by rw [q_up_n _ _ (by omega)]; exact e2) (q_up_s _ _ _), q_m3_upd g x hj]
  congr 1
  funext q
  unfold z_up
  by_cases c1 : q = a + 38
  · simp only [c1, if_true]
  · simp only [c1, if_false]
end QRST
/-- two heaps that differ in the field 56 of an object at most -/
def q_re (v0 : Nat) (h h' : z_H) : Prop := ∃ fs v, h v0 = some (.inr (12, fs)) ∧ h' = z_up h v0 (.inr (12, fs.set 56 (.int v)))
theorem q_re_56 {h h' : z_H} {a : Nat} {v : Int32} (e : sF h a 12 56 (.int v) = some h') : q_re a h h' := by
  unfold sF at e
  split at e
  · next o ho =>
    split at e
    · next c =>
      cases e
      refine ⟨o.2, v, ?_, rfl⟩
      rw [ho, ← c.1]
    · cases e
  · cases e
/-! the reference: what its cells are, a rule a field and an array -/
def q_CM0 (L : q_L) (a : Nat) : Prop := (qlo L a 3 = 0 ∧ qhi L a 3 = 240) ∧ (qlo L a 4 = 0 ∧ qhi L a 4 = 12) ∧ (qlo L a 5 = (-2147483648) ∧ qhi L a 5 = 2147483647) ∧ (qlo L a 6 = (-2147483648) ∧ qhi L a 6 = 2147483647) ∧ (qlo L a 7 = 0 ∧ qhi L a 7 = 1) ∧ (qlo L a 8 = (-2147483648) ∧ qhi L a 8 = 2147483647) ∧ (qlo L a 41 = 0 ∧ qhi L a 41 = 250) ∧ (qlo L a 42 = 0 ∧ qhi L a 42 = 1) ∧ (qlo L a 43 = 0 ∧ qhi L a 43 = 4) ∧ (qlo L a 44 = 0 ∧ qhi L a 44 = 3) ∧ (qlo L a 45 = (-2147483648) ∧ qhi L a 45 = 2147483647) ∧ (qlo L a 46 = (-2147483648) ∧ qhi L a 46 = 2147483647)
def q_CM1 (L : q_L) (a : Nat) : Prop := (qlo L a 47 = 0 ∧ qhi L a 47 = 259) ∧ (qlo L a 48 = (-2147483648) ∧ qhi L a 48 = 2147483647) ∧ (qlo L a 49 = (-2147483648) ∧ qhi L a 49 = 2147483647) ∧ (qlo L a 50 = (-2147483648) ∧ qhi L a 50 = 2147483647) ∧ (qlo L a 54 = 0 ∧ qhi L a 54 = 60) ∧ (qlo L a 55 = (-2147483648) ∧ qhi L a 55 = 2147483647) ∧ (qlo L a 56 = 0 ∧ qhi L a 56 = 60) ∧ (qlo L a 57 = (-1) ∧ qhi L a 57 = 60) ∧ (qlo L a 65 = 0 ∧ qhi L a 65 = 60) ∧ (qlo L a 66 = 0 ∧ qhi L a 66 = 60) ∧ (qlo L a 67 = 0 ∧ qhi L a 67 = 400) ∧ (qlo L a 68 = 0 ∧ qhi L a 68 = 200)
def q_CM2 (L : q_L) (a : Nat) : Prop := (qlo L a 69 = 0 ∧ qhi L a 69 = 600) ∧ (qlo L a 70 = 0 ∧ qhi L a 70 = 12) ∧ (qlo L a 71 = 0 ∧ qhi L a 71 = 200) ∧ (qlo L a 72 = (-2147483648) ∧ qhi L a 72 = 2147483647) ∧ (qlo L a 73 = (-2147483648) ∧ qhi L a 73 = 2147483647) ∧ (qlo L a 74 = (-2147483648) ∧ qhi L a 74 = 2147483647) ∧ (qlo L a 75 = (-2147483648) ∧ qhi L a 75 = 2147483647) ∧ (qlo L a 76 = (-2147483648) ∧ qhi L a 76 = 2147483647) ∧ qκ L (a + 1) = 240 * 1000 + 100 + 0 ∧ (qel L (a + 1) = 0 ∧ qeh L (a + 1) = 126) ∧ qκ L (a + 2) = 12 * 1000 + 100 + 0 ∧ (qel L (a + 2) = 0 ∧ qeh L (a + 2) = 24)
def q_CM3 (L : q_L) (a : Nat) : Prop := qκ L (a + 3) = 288 * 1000 + 100 + 0 ∧ (qel L (a + 3) = (-2147483648) ∧ qeh L (a + 3) = 2147483647) ∧ qκ L (a + 4) = 80 * 1000 + 100 + 0 ∧ (qel L (a + 4) = (-2147483648) ∧ qeh L (a + 4) = 2147483647) ∧ qκ L (a + 5) = 80 * 1000 + 100 + 0 ∧ (qel L (a + 5) = 0 ∧ qeh L (a + 5) = 3) ∧ qκ L (a + 6) = 80 * 1000 + 100 + 0 ∧ (qel L (a + 6) = 0 ∧ qeh L (a + 6) = 259) ∧ qκ L (a + 7) = 80 * 1000 + 100 + 0 ∧ (qel L (a + 7) = 0 ∧ qeh L (a + 7) = 3) ∧ qκ L (a + 8) = 80 * 1000 + 100 + 0 ∧ (qel L (a + 8) = 0 ∧ qeh L (a + 8) = 259)
def q_CM4 (L : q_L) (a : Nat) : Prop := qκ L (a + 9) = 80 * 1000 + 100 + 0 ∧ (qel L (a + 9) = 0 ∧ qeh L (a + 9) = 259) ∧ qκ L (a + 10) = 80 * 1000 + 100 + 0 ∧ (qel L (a + 10) = 0 ∧ qeh L (a + 10) = 600) ∧ qκ L (a + 11) = 80 * 1000 + 100 + 0 ∧ (qel L (a + 11) = 0 ∧ qeh L (a + 11) = 600) ∧ qκ L (a + 12) = 80 * 1000 + 100 + 0 ∧ (qel L (a + 12) = 0 ∧ qeh L (a + 12) = 600) ∧ qκ L (a + 13) = 80 * 1000 + 100 + 0 ∧ (qel L (a + 13) = (-1) ∧ qeh L (a + 13) = 40) ∧ qκ L (a + 14) = 80 * 1000 + 100 + 0 ∧ (qel L (a + 14) = (-2147483648) ∧ qeh L (a + 14) = 2147483647)
def q_CM5 (L : q_L) (a : Nat) : Prop := qκ L (a + 15) = 80 * 1000 + 100 + 0 ∧ (qel L (a + 15) = (-2147483648) ∧ qeh L (a + 15) = 2147483647) ∧ qκ L (a + 16) = 80 * 1000 + 100 + 3 ∧ (qel L (a + 16) = (-2147483648) ∧ qeh L (a + 16) = 2147483647) ∧ qκ L (a + 17) = 80 * 1000 + 100 + 3 ∧ (qel L (a + 17) = (-2147483648) ∧ qeh L (a + 17) = 2147483647) ∧ qκ L (a + 18) = 80 * 1000 + 100 + 3 ∧ (qel L (a + 18) = (-2147483648) ∧ qeh L (a + 18) = 2147483647) ∧ qκ L (a + 19) = 2 * 1000 + 100 + 0 ∧ (qel L (a + 19) = 0 ∧ qeh L (a + 19) = 40) ∧ qκ L (a + 20) = 2 * 1000 + 100 + 0 ∧ (qel L (a + 20) = 0 ∧ qeh L (a + 20) = 130)
def q_CM6 (L : q_L) (a : Nat) : Prop := qκ L (a + 21) = 2 * 1000 + 100 + 0 ∧ (qel L (a + 21) = 0 ∧ qeh L (a + 21) = 259) ∧ qκ L (a + 22) = 2 * 1000 + 100 + 0 ∧ (qel L (a + 22) = 0 ∧ qeh L (a + 22) = 299) ∧ qκ L (a + 23) = 260 * 1000 + 100 + 0 ∧ (qel L (a + 23) = 0 ∧ qeh L (a + 23) = 520) ∧ qκ L (a + 24) = 260 * 1000 + 100 + 0 ∧ (qel L (a + 24) = 0 ∧ qeh L (a + 24) = 520) ∧ qκ L (a + 25) = 260 * 1000 + 100 + 0 ∧ (qel L (a + 25) = 0 ∧ qeh L (a + 25) = 3) ∧ qκ L (a + 26) = 520 * 1000 + 100 + 0 ∧ (qel L (a + 26) = 0 ∧ qeh L (a + 26) = 5)
def q_CM7 (L : q_L) (a : Nat) : Prop := qκ L (a + 27) = 520 * 1000 + 100 + 0 ∧ (qel L (a + 27) = (-2147483648) ∧ qeh L (a + 27) = 2147483647) ∧ qκ L (a + 28) = 600 * 1000 + 100 + 0 ∧ (qel L (a + 28) = (-1) ∧ qeh L (a + 28) = 203) ∧ qκ L (a + 29) = 520 * 1000 + 100 + 3 ∧ (qel L (a + 29) = (-2147483648) ∧ qeh L (a + 29) = 2147483647) ∧ qκ L (a + 30) = 260 * 1000 + 100 + 3 ∧ (qel L (a + 30) = (-2147483648) ∧ qeh L (a + 30) = 2147483647) ∧ qκ L (a + 31) = 260 * 1000 + 100 + 3 ∧ (qel L (a + 31) = (-2147483648) ∧ qeh L (a + 31) = 2147483647) ∧ qκ L (a + 32) = 520 * 1000 + 200 ∧ qκ L (a + 33) = 520 * 1000 + 200
def q_CM8 (L : q_L) (a : Nat) : Prop := qκ L (a + 34) = 26 * 1000 + 100 + 0 ∧ (qel L (a + 34) = (-1) ∧ qeh L (a + 34) = 79) ∧ qκ L (a + 35) = 5 * 1000 + 100 + 0 ∧ (qel L (a + 35) = 0 ∧ qeh L (a + 35) = 79) ∧ qκ L (a + 36) = 64 * 1000 + 100 + 0 ∧ (qel L (a + 36) = (-2147483648) ∧ qeh L (a + 36) = 2147483647) ∧ qκ L (a + 37) = 4 * 1000 + 100 + 0 ∧ (qel L (a + 37) = (-1) ∧ qeh L (a + 37) = 60) ∧ qκ L (a + 38) = 4 * 1000 + 100 + 0 ∧ (qel L (a + 38) = (-1) ∧ qeh L (a + 38) = 60) ∧ qκ L (a + 39) = 64 * 1000 + 100 + 0 ∧ (qel L (a + 39) = (-2147483648) ∧ qeh L (a + 39) = 2147483647)
def q_CM9 (L : q_L) (a : Nat) : Prop := qκ L (a + 40) = 64 * 1000 + 100 + 0 ∧ (qel L (a + 40) = (-2147483648) ∧ qeh L (a + 40) = 2147483647) ∧ qκ L (a + 41) = 400 * 1000 + 100 + 0 ∧ (qel L (a + 41) = (-2147483648) ∧ qeh L (a + 41) = 2147483647) ∧ qκ L (a + 42) = 200 * 1000 + 100 + 0 ∧ (qel L (a + 42) = (-2147483648) ∧ qeh L (a + 42) = 2147483647) ∧ qκ L (a + 43) = 600 * 1000 + 100 + 0 ∧ (qel L (a + 43) = (-2147483648) ∧ qeh L (a + 43) = 2147483647) ∧ qκ L (a + 44) = 40 * 1000 + 100 + 0 ∧ (qel L (a + 44) = (-2147483648) ∧ qeh L (a + 44) = 2147483647) ∧ qκ L (a + 45) = 40 * 1000 + 100 + 3 ∧ (qel L (a + 45) = (-2147483648) ∧ qeh L (a + 45) = 2147483647)
def q_C_Mo (L : q_L) (a : Nat) : Prop := q_CM0 L a ∧ q_CM1 L a ∧ q_CM2 L a ∧ q_CM3 L a ∧ q_CM4 L a ∧ q_CM5 L a ∧ q_CM6 L a ∧ q_CM7 L a ∧ q_CM8 L a ∧ q_CM9 L a
def q_FM0 (π : Nat → Nat → Option Nat) (a : Nat) : Prop := π a 0 = some (a + 1) ∧ π a 1 = some (a + 2) ∧ π a 2 = some (a + 3) ∧ π a 9 = some (a + 4) ∧ π a 10 = some (a + 5) ∧ π a 11 = some (a + 6) ∧ π a 12 = some (a + 7) ∧ π a 13 = some (a + 8) ∧ π a 14 = some (a + 9) ∧ π a 15 = some (a + 10) ∧ π a 16 = some (a + 11) ∧ π a 17 = some (a + 12)
def q_FM1 (π : Nat → Nat → Option Nat) (a : Nat) : Prop := π a 18 = some (a + 13) ∧ π a 19 = some (a + 14) ∧ π a 20 = some (a + 15) ∧ π a 21 = some (a + 16) ∧ π a 22 = some (a + 17) ∧ π a 23 = some (a + 18) ∧ π a 24 = some (a + 19) ∧ π a 25 = some (a + 20) ∧ π a 26 = some (a + 21) ∧ π a 27 = some (a + 22) ∧ π a 28 = some (a + 23) ∧ π a 29 = some (a + 24)
def q_FM2 (π : Nat → Nat → Option Nat) (a : Nat) : Prop := π a 30 = some (a + 25) ∧ π a 31 = some (a + 26) ∧ π a 32 = some (a + 27) ∧ π a 33 = some (a + 28) ∧ π a 34 = some (a + 29) ∧ π a 35 = some (a + 30) ∧ π a 36 = some (a + 31) ∧ π a 37 = some (a + 32) ∧ π a 38 = some (a + 33) ∧ π a 39 = some (a + 34) ∧ π a 40 = some (a + 35) ∧ π a 51 = some (a + 36)
def q_FM3 (π : Nat → Nat → Option Nat) (a : Nat) : Prop := π a 52 = some (a + 37) ∧ π a 53 = some (a + 38) ∧ π a 58 = some (a + 39) ∧ π a 59 = some (a + 40) ∧ π a 60 = some (a + 41) ∧ π a 61 = some (a + 42) ∧ π a 62 = some (a + 43) ∧ π a 63 = some (a + 44) ∧ π a 64 = some (a + 45)
def q_F_Mo (π : Nat → Nat → Option Nat) (a : Nat) : Prop := q_FM0 π a ∧ q_FM1 π a ∧ q_FM2 π a ∧ q_FM3 π a
def q_M (L : q_L) (π : Nat → Nat → Option Nat) (a : Nat) : Prop := qκ L a = 13 ∧ q_C_Mo L a ∧ q_F_Mo π a
section QM
variable {L : q_L} {W : Nat → Prop} {h0 : z_H} {π : Nat → Nat → Option Nat} {h : z_H} {a : Nat}
theorem r_Mo_o {β : Type} {f : Unit → Option β} {Q : β → Prop} (T : q_U L W h0 π h) (ha : q_M L π a) (H : qk (f ()) Q) : qk (z_b (gO h a 12) f) Q := by
  rw [q_gO (ci := 12) T.2.2 ha.1 (by decide)]; exact H
theorem r_Mo_0 {β : Type} {f : Nat → Option β} {Q : β → Prop} (T : q_U L W h0 π h) (ha : q_M L π a) (H : qk (f (a + 1)) Q) : qk (z_b (gR h a 12 0) f) Q := by
  rw [q_gR (ci := 12) T.2.2 ha.1 (by decide) ((ha.2.2.1).1)]; exact H
theorem r_Mo_1 {β : Type} {f : Nat → Option β} {Q : β → Prop} (T : q_U L W h0 π h) (ha : q_M L π a) (H : qk (f (a + 2)) Q) : qk (z_b (gR h a 12 1) f) Q := by
  rw [q_gR (ci := 12) T.2.2 ha.1 (by decide) ((ha.2.2.1).2.1)]; exact H
theorem r_Mo_2 {β : Type} {f : Nat → Option β} {Q : β → Prop} (T : q_U L W h0 π h) (ha : q_M L π a) (H : qk (f (a + 3)) Q) : qk (z_b (gR h a 12 2) f) Q := by
  rw [q_gR (ci := 12) T.2.2 ha.1 (by decide) ((ha.2.2.1).2.2.1)]; exact H
theorem r_Mo_3 {β : Type} {f : Int32 → Option β} {Q : β → Prop} (T : q_U L W h0 π h) (ha : q_M L π a) (H : ∀ x, x = vI h a 3 → 0 ≤ x → x ≤ 240 → qk (f x) Q) : qk (z_b (gI h a 12 3) f) Q := by
  rw [q_gI (ci := 12) T.2.2 ha.1 (by decide) rfl]
  have c := (ha.2.1.1).1
  have t := T.2.2.2.1 a 3
  rw [c.1, c.2] at t
  exact H _ rfl t.1 t.2
theorem w_Mo_3 {β : Type} {f : z_H → Option β} {Q : β → Prop} {v : Int32} (T : q_U L W h0 π h) (ha : q_M L π a) (w : W a) (r1 : 0 ≤ v) (r2 : v ≤ 240) (H : ∀ h', q_U L W h0 π h' → (∀ a' k', vI h' a' k' = if a' = a ∧ k' = 3 then v else vI h a' k') → (∀ a' i, vA h' a' i = vA h a' i) → qk (f h') Q) : qk (z_b (sF h a 12 3 (.int v)) f) Q := by
  have c := (ha.2.1.1).1
  obtain ⟨h', e1, e2, e3⟩ := q_sI (ci := 12) (k := 3) (v := v) T.2.2 ha.1 (by decide) rfl w (by rw [c.1]; exact r1) (by rw [c.2]; exact r2)
  rw [e1]; exact H h' ⟨T.1, T.2.1, e2⟩ e3.1 e3.2
theorem r_Mo_4 {β : Type} {f : Int32 → Option β} {Q : β → Prop} (T : q_U L W h0 π h) (ha : q_M L π a) (H : ∀ x, x = vI h a 4 → 0 ≤ x → x ≤ 12 → qk (f x) Q) : qk (z_b (gI h a 12 4) f) Q := by
  rw [q_gI (ci := 12) T.2.2 ha.1 (by decide) rfl]
  have c := (ha.2.1.1).2.1
  have t := T.2.2.2.1 a 4
  rw [c.1, c.2] at t
  exact H _ rfl t.1 t.2
theorem w_Mo_4 {β : Type} {f : z_H → Option β} {Q : β → Prop} {v : Int32} (T : q_U L W h0 π h) (ha : q_M L π a) (w : W a) (r1 : 0 ≤ v) (r2 : v ≤ 12) (H : ∀ h', q_U L W h0 π h' → (∀ a' k', vI h' a' k' = if a' = a ∧ k' = 4 then v else vI h a' k') → (∀ a' i, vA h' a' i = vA h a' i) → qk (f h') Q) : qk (z_b (sF h a 12 4 (.int v)) f) Q := by
  have c := (ha.2.1.1).2.1
  obtain ⟨h', e1, e2, e3⟩ := q_sI (ci := 12) (k := 4) (v := v) T.2.2 ha.1 (by decide) rfl w (by rw [c.1]; exact r1) (by rw [c.2]; exact r2)
  rw [e1]; exact H h' ⟨T.1, T.2.1, e2⟩ e3.1 e3.2
theorem r_Mo_5 {β : Type} {f : Int32 → Option β} {Q : β → Prop} (T : q_U L W h0 π h) (ha : q_M L π a) (H : ∀ x, x = vI h a 5 → qk (f x) Q) : qk (z_b (gI h a 12 5) f) Q := by
  rw [q_gI (ci := 12) T.2.2 ha.1 (by decide) rfl]
  exact H _ rfl
theorem w_Mo_5 {β : Type} {f : z_H → Option β} {Q : β → Prop} {v : Int32} (T : q_U L W h0 π h) (ha : q_M L π a) (w : W a) (H : ∀ h', q_U L W h0 π h' → (∀ a' k', vI h' a' k' = if a' = a ∧ k' = 5 then v else vI h a' k') → (∀ a' i, vA h' a' i = vA h a' i) → qk (f h') Q) : qk (z_b (sF h a 12 5 (.int v)) f) Q := by
  have c := (ha.2.1.1).2.2.1
  obtain ⟨h', e1, e2, e3⟩ := q_sI (ci := 12) (k := 5) (v := v) T.2.2 ha.1 (by decide) rfl w (by rw [c.1]; exact q_min v) (by rw [c.2]; exact q_max v)
  rw [e1]; exact H h' ⟨T.1, T.2.1, e2⟩ e3.1 e3.2
theorem r_Mo_6 {β : Type} {f : Int32 → Option β} {Q : β → Prop} (T : q_U L W h0 π h) (ha : q_M L π a) (H : ∀ x, x = vI h a 6 → qk (f x) Q) : qk (z_b (gI h a 12 6) f) Q := by
  rw [q_gI (ci := 12) T.2.2 ha.1 (by decide) rfl]
  exact H _ rfl
theorem w_Mo_6 {β : Type} {f : z_H → Option β} {Q : β → Prop} {v : Int32} (T : q_U L W h0 π h) (ha : q_M L π a) (w : W a) (H : ∀ h', q_U L W h0 π h' → (∀ a' k', vI h' a' k' = if a' = a ∧ k' = 6 then v else vI h a' k') → (∀ a' i, vA h' a' i = vA h a' i) → qk (f h') Q) : qk (z_b (sF h a 12 6 (.int v)) f) Q := by
  have c := (ha.2.1.1).2.2.2.1
  obtain ⟨h', e1, e2, e3⟩ := q_sI (ci := 12) (k := 6) (v := v) T.2.2 ha.1 (by decide) rfl w (by rw [c.1]; exact q_min v) (by rw [c.2]; exact q_max v)
  rw [e1]; exact H h' ⟨T.1, T.2.1, e2⟩ e3.1 e3.2
theorem r_Mo_7 {β : Type} {f : Int32 → Option β} {Q : β → Prop} (T : q_U L W h0 π h) (ha : q_M L π a) (H : ∀ x, x = vI h a 7 → 0 ≤ x → x ≤ 1 → qk (f x) Q) : qk (z_b (gI h a 12 7) f) Q := by
  rw [q_gI (ci := 12) T.2.2 ha.1 (by decide) rfl]
  have c := (ha.2.1.1).2.2.2.2.1
  have t := T.2.2.2.1 a 7
  rw [c.1, c.2] at t
  exact H _ rfl t.1 t.2
theorem w_Mo_7 {β : Type} {f : z_H → Option β} {Q : β → Prop} {v : Int32} (T : q_U L W h0 π h) (ha : q_M L π a) (w : W a) (r1 : 0 ≤ v) (r2 : v ≤ 1) (H : ∀ h', q_U L W h0 π h' → (∀ a' k', vI h' a' k' = if a' = a ∧ k' = 7 then v else vI h a' k') → (∀ a' i, vA h' a' i = vA h a' i) → qk (f h') Q) : qk (z_b (sF h a 12 7 (.int v)) f) Q := by
  have c := (ha.2.1.1).2.2.2.2.1
  obtain ⟨h', e1, e2, e3⟩ := q_sI (ci := 12) (k := 7) (v := v) T.2.2 ha.1 (by decide) rfl w (by rw [c.1]; exact r1) (by rw [c.2]; exact r2)
  rw [e1]; exact H h' ⟨T.1, T.2.1, e2⟩ e3.1 e3.2
theorem r_Mo_8 {β : Type} {f : Int32 → Option β} {Q : β → Prop} (T : q_U L W h0 π h) (ha : q_M L π a) (H : ∀ x, x = vI h a 8 → qk (f x) Q) : qk (z_b (gI h a 12 8) f) Q := by
  rw [q_gI (ci := 12) T.2.2 ha.1 (by decide) rfl]
  exact H _ rfl
theorem w_Mo_8 {β : Type} {f : z_H → Option β} {Q : β → Prop} {v : Int32} (T : q_U L W h0 π h) (ha : q_M L π a) (w : W a) (H : ∀ h', q_U L W h0 π h' → (∀ a' k', vI h' a' k' = if a' = a ∧ k' = 8 then v else vI h a' k') → (∀ a' i, vA h' a' i = vA h a' i) → qk (f h') Q) : qk (z_b (sF h a 12 8 (.int v)) f) Q := by
  have c := (ha.2.1.1).2.2.2.2.2.1
  obtain ⟨h', e1, e2, e3⟩ := q_sI (ci := 12) (k := 8) (v := v) T.2.2 ha.1 (by decide) rfl w (by rw [c.1]; exact q_min v) (by rw [c.2]; exact q_max v)
  rw [e1]; exact H h' ⟨T.1, T.2.1, e2⟩ e3.1 e3.2
theorem r_Mo_9 {β : Type} {f : Nat → Option β} {Q : β → Prop} (T : q_U L W h0 π h) (ha : q_M L π a) (H : qk (f (a + 4)) Q) : qk (z_b (gR h a 12 9) f) Q := by
  rw [q_gR (ci := 12) T.2.2 ha.1 (by decide) ((ha.2.2.1).2.2.2.1)]; exact H
theorem r_Mo_10 {β : Type} {f : Nat → Option β} {Q : β → Prop} (T : q_U L W h0 π h) (ha : q_M L π a) (H : qk (f (a + 5)) Q) : qk (z_b (gR h a 12 10) f) Q := by
  rw [q_gR (ci := 12) T.2.2 ha.1 (by decide) ((ha.2.2.1).2.2.2.2.1)]; exact H
theorem r_Mo_11 {β : Type} {f : Nat → Option β} {Q : β → Prop} (T : q_U L W h0 π h) (ha : q_M L π a) (H : qk (f (a + 6)) Q) : qk (z_b (gR h a 12 11) f) Q := by
  rw [q_gR (ci := 12) T.2.2 ha.1 (by decide) ((ha.2.2.1).2.2.2.2.2.1)]; exact H
theorem r_Mo_12 {β : Type} {f : Nat → Option β} {Q : β → Prop} (T : q_U L W h0 π h) (ha : q_M L π a) (H : qk (f (a + 7)) Q) : qk (z_b (gR h a 12 12) f) Q := by
  rw [q_gR (ci := 12) T.2.2 ha.1 (by decide) ((ha.2.2.1).2.2.2.2.2.2.1)]; exact H
theorem r_Mo_13 {β : Type} {f : Nat → Option β} {Q : β → Prop} (T : q_U L W h0 π h) (ha : q_M L π a) (H : qk (f (a + 8)) Q) : qk (z_b (gR h a 12 13) f) Q := by
  rw [q_gR (ci := 12) T.2.2 ha.1 (by decide) ((ha.2.2.1).2.2.2.2.2.2.2.1)]; exact H
theorem r_Mo_14 {β : Type} {f : Nat → Option β} {Q : β → Prop} (T : q_U L W h0 π h) (ha : q_M L π a) (H : qk (f (a + 9)) Q) : qk (z_b (gR h a 12 14) f) Q := by
  rw [q_gR (ci := 12) T.2.2 ha.1 (by decide) ((ha.2.2.1).2.2.2.2.2.2.2.2.1)]; exact H
theorem r_Mo_15 {β : Type} {f : Nat → Option β} {Q : β → Prop} (T : q_U L W h0 π h) (ha : q_M L π a) (H : qk (f (a + 10)) Q) : qk (z_b (gR h a 12 15) f) Q := by
  rw [q_gR (ci := 12) T.2.2 ha.1 (by decide) ((ha.2.2.1).2.2.2.2.2.2.2.2.2.1)]; exact H
theorem r_Mo_16 {β : Type} {f : Nat → Option β} {Q : β → Prop} (T : q_U L W h0 π h) (ha : q_M L π a) (H : qk (f (a + 11)) Q) : qk (z_b (gR h a 12 16) f) Q := by
  rw [q_gR (ci := 12) T.2.2 ha.1 (by decide) ((ha.2.2.1).2.2.2.2.2.2.2.2.2.2.1)]; exact H
theorem r_Mo_17 {β : Type} {f : Nat → Option β} {Q : β → Prop} (T : q_U L W h0 π h) (ha : q_M L π a) (H : qk (f (a + 12)) Q) : qk (z_b (gR h a 12 17) f) Q := by
  rw [q_gR (ci := 12) T.2.2 ha.1 (by decide) ((ha.2.2.1).2.2.2.2.2.2.2.2.2.2.2)]; exact H
theorem r_Mo_18 {β : Type} {f : Nat → Option β} {Q : β → Prop} (T : q_U L W h0 π h) (ha : q_M L π a) (H : qk (f (a + 13)) Q) : qk (z_b (gR h a 12 18) f) Q := by
  rw [q_gR (ci := 12) T.2.2 ha.1 (by decide) ((ha.2.2.2.1).1)]; exact H
theorem r_Mo_19 {β : Type} {f : Nat → Option β} {Q : β → Prop} (T : q_U L W h0 π h) (ha : q_M L π a) (H : qk (f (a + 14)) Q) : qk (z_b (gR h a 12 19) f) Q := by
  rw [q_gR (ci := 12) T.2.2 ha.1 (by decide) ((ha.2.2.2.1).2.1)]; exact H
theorem r_Mo_20 {β : Type} {f : Nat → Option β} {Q : β → Prop} (T : q_U L W h0 π h) (ha : q_M L π a) (H : qk (f (a + 15)) Q) : qk (z_b (gR h a 12 20) f) Q := by
  rw [q_gR (ci := 12) T.2.2 ha.1 (by decide) ((ha.2.2.2.1).2.2.1)]; exact H
theorem r_Mo_21 {β : Type} {f : Nat → Option β} {Q : β → Prop} (T : q_U L W h0 π h) (ha : q_M L π a) (H : qk (f (a + 16)) Q) : qk (z_b (gR h a 12 21) f) Q := by
  rw [q_gR (ci := 12) T.2.2 ha.1 (by decide) ((ha.2.2.2.1).2.2.2.1)]; exact H
theorem r_Mo_22 {β : Type} {f : Nat → Option β} {Q : β → Prop} (T : q_U L W h0 π h) (ha : q_M L π a) (H : qk (f (a + 17)) Q) : qk (z_b (gR h a 12 22) f) Q := by
  rw [q_gR (ci := 12) T.2.2 ha.1 (by decide) ((ha.2.2.2.1).2.2.2.2.1)]; exact H
theorem r_Mo_23 {β : Type} {f : Nat → Option β} {Q : β → Prop} (T : q_U L W h0 π h) (ha : q_M L π a) (H : qk (f (a + 18)) Q) : qk (z_b (gR h a 12 23) f) Q := by
  rw [q_gR (ci := 12) T.2.2 ha.1 (by decide) ((ha.2.2.2.1).2.2.2.2.2.1)]; exact H
theorem r_Mo_24 {β : Type} {f : Nat → Option β} {Q : β → Prop} (T : q_U L W h0 π h) (ha : q_M L π a) (H : qk (f (a + 19)) Q) : qk (z_b (gR h a 12 24) f) Q := by
  rw [q_gR (ci := 12) T.2.2 ha.1 (by decide) ((ha.2.2.2.1).2.2.2.2.2.2.1)]; exact H
theorem r_Mo_25 {β : Type} {f : Nat → Option β} {Q : β → Prop} (T : q_U L W h0 π h) (ha : q_M L π a) (H : qk (f (a + 20)) Q) : qk (z_b (gR h a 12 25) f) Q := by
  rw [q_gR (ci := 12) T.2.2 ha.1 (by decide) ((ha.2.2.2.1).2.2.2.2.2.2.2.1)]; exact H
theorem r_Mo_26 {β : Type} {f : Nat → Option β} {Q : β → Prop} (T : q_U L W h0 π h) (ha : q_M L π a) (H : qk (f (a + 21)) Q) : qk (z_b (gR h a 12 26) f) Q := by
  rw [q_gR (ci := 12) T.2.2 ha.1 (by decide) ((ha.2.2.2.1).2.2.2.2.2.2.2.2.1)]; exact H
theorem r_Mo_27 {β : Type} {f : Nat → Option β} {Q : β → Prop} (T : q_U L W h0 π h) (ha : q_M L π a) (H : qk (f (a + 22)) Q) : qk (z_b (gR h a 12 27) f) Q := by
  rw [q_gR (ci := 12) T.2.2 ha.1 (by decide) ((ha.2.2.2.1).2.2.2.2.2.2.2.2.2.1)]; exact H
theorem r_Mo_28 {β : Type} {f : Nat → Option β} {Q : β → Prop} (T : q_U L W h0 π h) (ha : q_M L π a) (H : qk (f (a + 23)) Q) : qk (z_b (gR h a 12 28) f) Q := by
  rw [q_gR (ci := 12) T.2.2 ha.1 (by decide) ((ha.2.2.2.1).2.2.2.2.2.2.2.2.2.2.1)]; exact H
theorem r_Mo_29 {β : Type} {f : Nat → Option β} {Q : β → Prop} (T : q_U L W h0 π h) (ha : q_M L π a) (H : qk (f (a + 24)) Q) : qk (z_b (gR h a 12 29) f) Q := by
  rw [q_gR (ci := 12) T.2.2 ha.1 (by decide) ((ha.2.2.2.1).2.2.2.2.2.2.2.2.2.2.2)]; exact H
theorem r_Mo_30 {β : Type} {f : Nat → Option β} {Q : β → Prop} (T : q_U L W h0 π h) (ha : q_M L π a) (H : qk (f (a + 25)) Q) : qk (z_b (gR h a 12 30) f) Q := by
  rw [q_gR (ci := 12) T.2.2 ha.1 (by decide) ((ha.2.2.2.2.1).1)]; exact H
theorem r_Mo_31 {β : Type} {f : Nat → Option β} {Q : β → Prop} (T : q_U L W h0 π h) (ha : q_M L π a) (H : qk (f (a + 26)) Q) : qk (z_b (gR h a 12 31) f) Q := by
  rw [q_gR (ci := 12) T.2.2 ha.1 (by decide) ((ha.2.2.2.2.1).2.1)]; exact H
theorem r_Mo_32 {β : Type} {f : Nat → Option β} {Q : β → Prop} (T : q_U L W h0 π h) (ha : q_M L π a) (H : qk (f (a + 27)) Q) : qk (z_b (gR h a 12 32) f) Q := by
  rw [q_gR (ci := 12) T.2.2 ha.1 (by decide) ((ha.2.2.2.2.1).2.2.1)]; exact H
theorem r_Mo_33 {β : Type} {f : Nat → Option β} {Q : β → Prop} (T : q_U L W h0 π h) (ha : q_M L π a) (H : qk (f (a + 28)) Q) : qk (z_b (gR h a 12 33) f) Q := by
  rw [q_gR (ci := 12) T.2.2 ha.1 (by decide) ((ha.2.2.2.2.1).2.2.2.1)]; exact H
theorem r_Mo_34 {β : Type} {f : Nat → Option β} {Q : β → Prop} (T : q_U L W h0 π h) (ha : q_M L π a) (H : qk (f (a + 29)) Q) : qk (z_b (gR h a 12 34) f) Q := by
  rw [q_gR (ci := 12) T.2.2 ha.1 (by decide) ((ha.2.2.2.2.1).2.2.2.2.1)]; exact H
theorem r_Mo_35 {β : Type} {f : Nat → Option β} {Q : β → Prop} (T : q_U L W h0 π h) (ha : q_M L π a) (H : qk (f (a + 30)) Q) : qk (z_b (gR h a 12 35) f) Q := by
  rw [q_gR (ci := 12) T.2.2 ha.1 (by decide) ((ha.2.2.2.2.1).2.2.2.2.2.1)]; exact H
theorem r_Mo_36 {β : Type} {f : Nat → Option β} {Q : β → Prop} (T : q_U L W h0 π h) (ha : q_M L π a) (H : qk (f (a + 31)) Q) : qk (z_b (gR h a 12 36) f) Q := by
  rw [q_gR (ci := 12) T.2.2 ha.1 (by decide) ((ha.2.2.2.2.1).2.2.2.2.2.2.1)]; exact H
theorem r_Mo_37 {β : Type} {f : Nat → Option β} {Q : β → Prop} (T : q_U L W h0 π h) (ha : q_M L π a) (H : qk (f (a + 32)) Q) : qk (z_b (gR h a 12 37) f) Q := by
  rw [q_gR (ci := 12) T.2.2 ha.1 (by decide) ((ha.2.2.2.2.1).2.2.2.2.2.2.2.1)]; exact H
theorem r_Mo_38 {β : Type} {f : Nat → Option β} {Q : β → Prop} (T : q_U L W h0 π h) (ha : q_M L π a) (H : qk (f (a + 33)) Q) : qk (z_b (gR h a 12 38) f) Q := by
  rw [q_gR (ci := 12) T.2.2 ha.1 (by decide) ((ha.2.2.2.2.1).2.2.2.2.2.2.2.2.1)]; exact H
theorem r_Mo_39 {β : Type} {f : Nat → Option β} {Q : β → Prop} (T : q_U L W h0 π h) (ha : q_M L π a) (H : qk (f (a + 34)) Q) : qk (z_b (gR h a 12 39) f) Q := by
  rw [q_gR (ci := 12) T.2.2 ha.1 (by decide) ((ha.2.2.2.2.1).2.2.2.2.2.2.2.2.2.1)]; exact H
theorem r_Mo_40 {β : Type} {f : Nat → Option β} {Q : β → Prop} (T : q_U L W h0 π h) (ha : q_M L π a) (H : qk (f (a + 35)) Q) : qk (z_b (gR h a 12 40) f) Q := by
  rw [q_gR (ci := 12) T.2.2 ha.1 (by decide) ((ha.2.2.2.2.1).2.2.2.2.2.2.2.2.2.2.1)]; exact H
theorem r_Mo_41 {β : Type} {f : Int32 → Option β} {Q : β → Prop} (T : q_U L W h0 π h) (ha : q_M L π a) (H : ∀ x, x = vI h a 41 → 0 ≤ x → x ≤ 250 → qk (f x) Q) : qk (z_b (gI h a 12 41) f) Q := by
  rw [q_gI (ci := 12) T.2.2 ha.1 (by decide) rfl]
  have c := (ha.2.1.1).2.2.2.2.2.2.1
  have t := T.2.2.2.1 a 41
  rw [c.1, c.2] at t
  exact H _ rfl t.1 t.2
theorem w_Mo_41 {β : Type} {f : z_H → Option β} {Q : β → Prop} {v : Int32} (T : q_U L W h0 π h) (ha : q_M L π a) (w : W a) (r1 : 0 ≤ v) (r2 : v ≤ 250) (H : ∀ h', q_U L W h0 π h' → (∀ a' k', vI h' a' k' = if a' = a ∧ k' = 41 then v else vI h a' k') → (∀ a' i, vA h' a' i = vA h a' i) → qk (f h') Q) : qk (z_b (sF h a 12 41 (.int v)) f) Q := by
  have c := (ha.2.1.1).2.2.2.2.2.2.1
  obtain ⟨h', e1, e2, e3⟩ := q_sI (ci := 12) (k := 41) (v := v) T.2.2 ha.1 (by decide) rfl w (by rw [c.1]; exact r1) (by rw [c.2]; exact r2)
  rw [e1]; exact H h' ⟨T.1, T.2.1, e2⟩ e3.1 e3.2
theorem r_Mo_42 {β : Type} {f : Int32 → Option β} {Q : β → Prop} (T : q_U L W h0 π h) (ha : q_M L π a) (H : ∀ x, x = vI h a 42 → 0 ≤ x → x ≤ 1 → qk (f x) Q) : qk (z_b (gI h a 12 42) f) Q := by
  rw [q_gI (ci := 12) T.2.2 ha.1 (by decide) rfl]
  have c := (ha.2.1.1).2.2.2.2.2.2.2.1
  have t := T.2.2.2.1 a 42
  rw [c.1, c.2] at t
  exact H _ rfl t.1 t.2
theorem w_Mo_42 {β : Type} {f : z_H → Option β} {Q : β → Prop} {v : Int32} (T : q_U L W h0 π h) (ha : q_M L π a) (w : W a) (r1 : 0 ≤ v) (r2 : v ≤ 1) (H : ∀ h', q_U L W h0 π h' → (∀ a' k', vI h' a' k' = if a' = a ∧ k' = 42 then v else vI h a' k') → (∀ a' i, vA h' a' i = vA h a' i) → qk (f h') Q) : qk (z_b (sF h a 12 42 (.int v)) f) Q := by
  have c := (ha.2.1.1).2.2.2.2.2.2.2.1
  obtain ⟨h', e1, e2, e3⟩ := q_sI (ci := 12) (k := 42) (v := v) T.2.2 ha.1 (by decide) rfl w (by rw [c.1]; exact r1) (by rw [c.2]; exact r2)
  rw [e1]; exact H h' ⟨T.1, T.2.1, e2⟩ e3.1 e3.2
theorem r_Mo_43 {β : Type} {f : Int32 → Option β} {Q : β → Prop} (T : q_U L W h0 π h) (ha : q_M L π a) (H : ∀ x, x = vI h a 43 → 0 ≤ x → x ≤ 4 → qk (f x) Q) : qk (z_b (gI h a 12 43) f) Q := by
  rw [q_gI (ci := 12) T.2.2 ha.1 (by decide) rfl]
  have c := (ha.2.1.1).2.2.2.2.2.2.2.2.1
  have t := T.2.2.2.1 a 43
  rw [c.1, c.2] at t
  exact H _ rfl t.1 t.2
theorem w_Mo_43 {β : Type} {f : z_H → Option β} {Q : β → Prop} {v : Int32} (T : q_U L W h0 π h) (ha : q_M L π a) (w : W a) (r1 : 0 ≤ v) (r2 : v ≤ 4) (H : ∀ h', q_U L W h0 π h' → (∀ a' k', vI h' a' k' = if a' = a ∧ k' = 43 then v else vI h a' k') → (∀ a' i, vA h' a' i = vA h a' i) → qk (f h') Q) : qk (z_b (sF h a 12 43 (.int v)) f) Q := by
  have c := (ha.2.1.1).2.2.2.2.2.2.2.2.1
  obtain ⟨h', e1, e2, e3⟩ := q_sI (ci := 12) (k := 43) (v := v) T.2.2 ha.1 (by decide) rfl w (by rw [c.1]; exact r1) (by rw [c.2]; exact r2)
  rw [e1]; exact H h' ⟨T.1, T.2.1, e2⟩ e3.1 e3.2
theorem r_Mo_44 {β : Type} {f : Int32 → Option β} {Q : β → Prop} (T : q_U L W h0 π h) (ha : q_M L π a) (H : ∀ x, x = vI h a 44 → 0 ≤ x → x ≤ 3 → qk (f x) Q) : qk (z_b (gI h a 12 44) f) Q := by
  rw [q_gI (ci := 12) T.2.2 ha.1 (by decide) rfl]
  have c := (ha.2.1.1).2.2.2.2.2.2.2.2.2.1
  have t := T.2.2.2.1 a 44
  rw [c.1, c.2] at t
  exact H _ rfl t.1 t.2
theorem w_Mo_44 {β : Type} {f : z_H → Option β} {Q : β → Prop} {v : Int32} (T : q_U L W h0 π h) (ha : q_M L π a) (w : W a) (r1 : 0 ≤ v) (r2 : v ≤ 3) (H : ∀ h', q_U L W h0 π h' → (∀ a' k', vI h' a' k' = if a' = a ∧ k' = 44 then v else vI h a' k') → (∀ a' i, vA h' a' i = vA h a' i) → qk (f h') Q) : qk (z_b (sF h a 12 44 (.int v)) f) Q := by
  have c := (ha.2.1.1).2.2.2.2.2.2.2.2.2.1
  obtain ⟨h', e1, e2, e3⟩ := q_sI (ci := 12) (k := 44) (v := v) T.2.2 ha.1 (by decide) rfl w (by rw [c.1]; exact r1) (by rw [c.2]; exact r2)
  rw [e1]; exact H h' ⟨T.1, T.2.1, e2⟩ e3.1 e3.2
theorem r_Mo_45 {β : Type} {f : Int32 → Option β} {Q : β → Prop} (T : q_U L W h0 π h) (ha : q_M L π a) (H : ∀ x, x = vI h a 45 → qk (f x) Q) : qk (z_b (gI h a 12 45) f) Q := by
  rw [q_gI (ci := 12) T.2.2 ha.1 (by decide) rfl]
  exact H _ rfl
theorem w_Mo_45 {β : Type} {f : z_H → Option β} {Q : β → Prop} {v : Int32} (T : q_U L W h0 π h) (ha : q_M L π a) (w : W a) (H : ∀ h', q_U L W h0 π h' → (∀ a' k', vI h' a' k' = if a' = a ∧ k' = 45 then v else vI h a' k') → (∀ a' i, vA h' a' i = vA h a' i) → qk (f h') Q) : qk (z_b (sF h a 12 45 (.int v)) f) Q := by
  have c := (ha.2.1.1).2.2.2.2.2.2.2.2.2.2.1
  obtain ⟨h', e1, e2, e3⟩ := q_sI (ci := 12) (k := 45) (v := v) T.2.2 ha.1 (by decide) rfl w (by rw [c.1]; exact q_min v) (by rw [c.2]; exact q_max v)
  rw [e1]; exact H h' ⟨T.1, T.2.1, e2⟩ e3.1 e3.2
theorem r_Mo_46 {β : Type} {f : Int32 → Option β} {Q : β → Prop} (T : q_U L W h0 π h) (ha : q_M L π a) (H : ∀ x, x = vI h a 46 → qk (f x) Q) : qk (z_b (gI h a 12 46) f) Q := by
  rw [q_gI (ci := 12) T.2.2 ha.1 (by decide) rfl]
  exact H _ rfl
theorem w_Mo_46 {β : Type} {f : z_H → Option β} {Q : β → Prop} {v : Int32} (T : q_U L W h0 π h) (ha : q_M L π a) (w : W a) (H : ∀ h', q_U L W h0 π h' → (∀ a' k', vI h' a' k' = if a' = a ∧ k' = 46 then v else vI h a' k') → (∀ a' i, vA h' a' i = vA h a' i) → qk (f h') Q) : qk (z_b (sF h a 12 46 (.int v)) f) Q := by
  have c := (ha.2.1.1).2.2.2.2.2.2.2.2.2.2.2
  obtain ⟨h', e1, e2, e3⟩ := q_sI (ci := 12) (k := 46) (v := v) T.2.2 ha.1 (by decide) rfl w (by rw [c.1]; exact q_min v) (by rw [c.2]; exact q_max v)
  rw [e1]; exact H h' ⟨T.1, T.2.1, e2⟩ e3.1 e3.2
theorem r_Mo_47 {β : Type} {f : Int32 → Option β} {Q : β → Prop} (T : q_U L W h0 π h) (ha : q_M L π a) (H : ∀ x, x = vI h a 47 → 0 ≤ x → x ≤ 259 → qk (f x) Q) : qk (z_b (gI h a 12 47) f) Q := by
  rw [q_gI (ci := 12) T.2.2 ha.1 (by decide) rfl]
  have c := (ha.2.1.2.1).1
  have t := T.2.2.2.1 a 47
  rw [c.1, c.2] at t
  exact H _ rfl t.1 t.2
theorem w_Mo_47 {β : Type} {f : z_H → Option β} {Q : β → Prop} {v : Int32} (T : q_U L W h0 π h) (ha : q_M L π a) (w : W a) (r1 : 0 ≤ v) (r2 : v ≤ 259) (H : ∀ h', q_U L W h0 π h' → (∀ a' k', vI h' a' k' = if a' = a ∧ k' = 47 then v else vI h a' k') → (∀ a' i, vA h' a' i = vA h a' i) → qk (f h') Q) : qk (z_b (sF h a 12 47 (.int v)) f) Q := by
  have c := (ha.2.1.2.1).1
  obtain ⟨h', e1, e2, e3⟩ := q_sI (ci := 12) (k := 47) (v := v) T.2.2 ha.1 (by decide) rfl w (by rw [c.1]; exact r1) (by rw [c.2]; exact r2)
  rw [e1]; exact H h' ⟨T.1, T.2.1, e2⟩ e3.1 e3.2
theorem r_Mo_48 {β : Type} {f : Int32 → Option β} {Q : β → Prop} (T : q_U L W h0 π h) (ha : q_M L π a) (H : ∀ x, x = vI h a 48 → qk (f x) Q) : qk (z_b (gI h a 12 48) f) Q := by
  rw [q_gI (ci := 12) T.2.2 ha.1 (by decide) rfl]
  exact H _ rfl
theorem w_Mo_48 {β : Type} {f : z_H → Option β} {Q : β → Prop} {v : Int32} (T : q_U L W h0 π h) (ha : q_M L π a) (w : W a) (H : ∀ h', q_U L W h0 π h' → (∀ a' k', vI h' a' k' = if a' = a ∧ k' = 48 then v else vI h a' k') → (∀ a' i, vA h' a' i = vA h a' i) → qk (f h') Q) : qk (z_b (sF h a 12 48 (.int v)) f) Q := by
  have c := (ha.2.1.2.1).2.1
  obtain ⟨h', e1, e2, e3⟩ := q_sI (ci := 12) (k := 48) (v := v) T.2.2 ha.1 (by decide) rfl w (by rw [c.1]; exact q_min v) (by rw [c.2]; exact q_max v)
  rw [e1]; exact H h' ⟨T.1, T.2.1, e2⟩ e3.1 e3.2
theorem r_Mo_49 {β : Type} {f : Int32 → Option β} {Q : β → Prop} (T : q_U L W h0 π h) (ha : q_M L π a) (H : ∀ x, x = vI h a 49 → qk (f x) Q) : qk (z_b (gI h a 12 49) f) Q := by
  rw [q_gI (ci := 12) T.2.2 ha.1 (by decide) rfl]
  exact H _ rfl
theorem w_Mo_49 {β : Type} {f : z_H → Option β} {Q : β → Prop} {v : Int32} (T : q_U L W h0 π h) (ha : q_M L π a) (w : W a) (H : ∀ h', q_U L W h0 π h' → (∀ a' k', vI h' a' k' = if a' = a ∧ k' = 49 then v else vI h a' k') → (∀ a' i, vA h' a' i = vA h a' i) → qk (f h') Q) : qk (z_b (sF h a 12 49 (.int v)) f) Q := by
  have c := (ha.2.1.2.1).2.2.1
  obtain ⟨h', e1, e2, e3⟩ := q_sI (ci := 12) (k := 49) (v := v) T.2.2 ha.1 (by decide) rfl w (by rw [c.1]; exact q_min v) (by rw [c.2]; exact q_max v)
  rw [e1]; exact H h' ⟨T.1, T.2.1, e2⟩ e3.1 e3.2
theorem r_Mo_50 {β : Type} {f : Int32 → Option β} {Q : β → Prop} (T : q_U L W h0 π h) (ha : q_M L π a) (H : ∀ x, x = vI h a 50 → qk (f x) Q) : qk (z_b (gI h a 12 50) f) Q := by
  rw [q_gI (ci := 12) T.2.2 ha.1 (by decide) rfl]
  exact H _ rfl
theorem w_Mo_50 {β : Type} {f : z_H → Option β} {Q : β → Prop} {v : Int32} (T : q_U L W h0 π h) (ha : q_M L π a) (w : W a) (H : ∀ h', q_U L W h0 π h' → (∀ a' k', vI h' a' k' = if a' = a ∧ k' = 50 then v else vI h a' k') → (∀ a' i, vA h' a' i = vA h a' i) → qk (f h') Q) : qk (z_b (sF h a 12 50 (.int v)) f) Q := by
  have c := (ha.2.1.2.1).2.2.2.1
  obtain ⟨h', e1, e2, e3⟩ := q_sI (ci := 12) (k := 50) (v := v) T.2.2 ha.1 (by decide) rfl w (by rw [c.1]; exact q_min v) (by rw [c.2]; exact q_max v)
  rw [e1]; exact H h' ⟨T.1, T.2.1, e2⟩ e3.1 e3.2
theorem r_Mo_51 {β : Type} {f : Nat → Option β} {Q : β → Prop} (T : q_U L W h0 π h) (ha : q_M L π a) (H : qk (f (a + 36)) Q) : qk (z_b (gR h a 12 51) f) Q := by
  rw [q_gR (ci := 12) T.2.2 ha.1 (by decide) ((ha.2.2.2.2.1).2.2.2.2.2.2.2.2.2.2.2)]; exact H
theorem r_Mo_52 {β : Type} {f : Nat → Option β} {Q : β → Prop} (T : q_U L W h0 π h) (ha : q_M L π a) (H : qk (f (a + 37)) Q) : qk (z_b (gR h a 12 52) f) Q := by
  rw [q_gR (ci := 12) T.2.2 ha.1 (by decide) ((ha.2.2.2.2.2).1)]; exact H
theorem r_Mo_53 {β : Type} {f : Nat → Option β} {Q : β → Prop} (T : q_U L W h0 π h) (ha : q_M L π a) (H : qk (f (a + 38)) Q) : qk (z_b (gR h a 12 53) f) Q := by
  rw [q_gR (ci := 12) T.2.2 ha.1 (by decide) ((ha.2.2.2.2.2).2.1)]; exact H
theorem r_Mo_54 {β : Type} {f : Int32 → Option β} {Q : β → Prop} (T : q_U L W h0 π h) (ha : q_M L π a) (H : ∀ x, x = vI h a 54 → 0 ≤ x → x ≤ 60 → qk (f x) Q) : qk (z_b (gI h a 12 54) f) Q := by
  rw [q_gI (ci := 12) T.2.2 ha.1 (by decide) rfl]
  have c := (ha.2.1.2.1).2.2.2.2.1
  have t := T.2.2.2.1 a 54
  rw [c.1, c.2] at t
  exact H _ rfl t.1 t.2
theorem w_Mo_54 {β : Type} {f : z_H → Option β} {Q : β → Prop} {v : Int32} (T : q_U L W h0 π h) (ha : q_M L π a) (w : W a) (r1 : 0 ≤ v) (r2 : v ≤ 60) (H : ∀ h', q_U L W h0 π h' → (∀ a' k', vI h' a' k' = if a' = a ∧ k' = 54 then v else vI h a' k') → (∀ a' i, vA h' a' i = vA h a' i) → qk (f h') Q) : qk (z_b (sF h a 12 54 (.int v)) f) Q := by
  have c := (ha.2.1.2.1).2.2.2.2.1
  obtain ⟨h', e1, e2, e3⟩ := q_sI (ci := 12) (k := 54) (v := v) T.2.2 ha.1 (by decide) rfl w (by rw [c.1]; exact r1) (by rw [c.2]; exact r2)
  rw [e1]; exact H h' ⟨T.1, T.2.1, e2⟩ e3.1 e3.2
theorem r_Mo_55 {β : Type} {f : Int32 → Option β} {Q : β → Prop} (T : q_U L W h0 π h) (ha : q_M L π a) (H : ∀ x, x = vI h a 55 → qk (f x) Q) : qk (z_b (gI h a 12 55) f) Q := by
  rw [q_gI (ci := 12) T.2.2 ha.1 (by decide) rfl]
  exact H _ rfl
theorem w_Mo_55 {β : Type} {f : z_H → Option β} {Q : β → Prop} {v : Int32} (T : q_U L W h0 π h) (ha : q_M L π a) (w : W a) (H : ∀ h', q_U L W h0 π h' → (∀ a' k', vI h' a' k' = if a' = a ∧ k' = 55 then v else vI h a' k') → (∀ a' i, vA h' a' i = vA h a' i) → q_rst a h' = q_rst a h → qk (f h') Q) : qk (z_b (sF h a 12 55 (.int v)) f) Q := by
  have c := (ha.2.1.2.1).2.2.2.2.2.1
  obtain ⟨h', e1, e2, e3⟩ := q_sI (ci := 12) (k := 55) (v := v) T.2.2 ha.1 (by decide) rfl w (by rw [c.1]; exact q_min v) (by rw [c.2]; exact q_max v)
  have ed := q_rst_55 T.2.2 ha.1 ((ha.2.1.2.2.2.2.2.2.2.2.1).2.2.2.2.2.2.1) ((ha.2.1.2.2.2.2.2.2.2.2.1).2.2.2.2.2.2.2.2.1) e1
  rw [e1]; exact H h' ⟨T.1, T.2.1, e2⟩ e3.1 e3.2 ed
theorem r_Mo_56 {β : Type} {f : Int32 → Option β} {Q : β → Prop} (T : q_U L W h0 π h) (ha : q_M L π a) (H : ∀ x, x = vI h a 56 → 0 ≤ x → x ≤ 60 → qk (f x) Q) : qk (z_b (gI h a 12 56) f) Q := by
  rw [q_gI (ci := 12) T.2.2 ha.1 (by decide) rfl]
  have c := (ha.2.1.2.1).2.2.2.2.2.2.1
  have t := T.2.2.2.1 a 56
  rw [c.1, c.2] at t
  exact H _ rfl t.1 t.2
theorem w_Mo_56 {β : Type} {f : z_H → Option β} {Q : β → Prop} {v : Int32} (T : q_U L W h0 π h) (ha : q_M L π a) (w : W a) (r1 : 0 ≤ v) (r2 : v ≤ 60) (H : ∀ h', q_U L W h0 π h' → (∀ a' k', vI h' a' k' = if a' = a ∧ k' = 56 then v else vI h a' k') → (∀ a' i, vA h' a' i = vA h a' i) → q_re a h h' → qk (f h') Q) : qk (z_b (sF h a 12 56 (.int v)) f) Q := by
  have c := (ha.2.1.2.1).2.2.2.2.2.2.1
  obtain ⟨h', e1, e2, e3⟩ := q_sI (ci := 12) (k := 56) (v := v) T.2.2 ha.1 (by decide) rfl w (by rw [c.1]; exact r1) (by rw [c.2]; exact r2)
  have ed := q_re_56 e1
  rw [e1]; exact H h' ⟨T.1, T.2.1, e2⟩ e3.1 e3.2 ed
theorem r_Mo_57 {β : Type} {f : Int32 → Option β} {Q : β → Prop} (T : q_U L W h0 π h) (ha : q_M L π a) (H : ∀ x, x = vI h a 57 → (-1) ≤ x → x ≤ 60 → qk (f x) Q) : qk (z_b (gI h a 12 57) f) Q := by
  rw [q_gI (ci := 12) T.2.2 ha.1 (by decide) rfl]
  have c := (ha.2.1.2.1).2.2.2.2.2.2.2.1
  have t := T.2.2.2.1 a 57
  rw [c.1, c.2] at t
  exact H _ rfl t.1 t.2
theorem w_Mo_57 {β : Type} {f : z_H → Option β} {Q : β → Prop} {v : Int32} (T : q_U L W h0 π h) (ha : q_M L π a) (w : W a) (r1 : (-1) ≤ v) (r2 : v ≤ 60) (H : ∀ h', q_U L W h0 π h' → (∀ a' k', vI h' a' k' = if a' = a ∧ k' = 57 then v else vI h a' k') → (∀ a' i, vA h' a' i = vA h a' i) → qk (f h') Q) : qk (z_b (sF h a 12 57 (.int v)) f) Q := by
  have c := (ha.2.1.2.1).2.2.2.2.2.2.2.1
  obtain ⟨h', e1, e2, e3⟩ := q_sI (ci := 12) (k := 57) (v := v) T.2.2 ha.1 (by decide) rfl w (by rw [c.1]; exact r1) (by rw [c.2]; exact r2)
  rw [e1]; exact H h' ⟨T.1, T.2.1, e2⟩ e3.1 e3.2
theorem r_Mo_58 {β : Type} {f : Nat → Option β} {Q : β → Prop} (T : q_U L W h0 π h) (ha : q_M L π a) (H : qk (f (a + 39)) Q) : qk (z_b (gR h a 12 58) f) Q := by
  rw [q_gR (ci := 12) T.2.2 ha.1 (by decide) ((ha.2.2.2.2.2).2.2.1)]; exact H
theorem r_Mo_59 {β : Type} {f : Nat → Option β} {Q : β → Prop} (T : q_U L W h0 π h) (ha : q_M L π a) (H : qk (f (a + 40)) Q) : qk (z_b (gR h a 12 59) f) Q := by
  rw [q_gR (ci := 12) T.2.2 ha.1 (by decide) ((ha.2.2.2.2.2).2.2.2.1)]; exact H
theorem r_Mo_60 {β : Type} {f : Nat → Option β} {Q : β → Prop} (T : q_U L W h0 π h) (ha : q_M L π a) (H : qk (f (a + 41)) Q) : qk (z_b (gR h a 12 60) f) Q := by
  rw [q_gR (ci := 12) T.2.2 ha.1 (by decide) ((ha.2.2.2.2.2).2.2.2.2.1)]; exact H
theorem r_Mo_61 {β : Type} {f : Nat → Option β} {Q : β → Prop} (T : q_U L W h0 π h) (ha : q_M L π a) (H : qk (f (a + 42)) Q) : qk (z_b (gR h a 12 61) f) Q := by
  rw [q_gR (ci := 12) T.2.2 ha.1 (by decide) ((ha.2.2.2.2.2).2.2.2.2.2.1)]; exact H
theorem r_Mo_62 {β : Type} {f : Nat → Option β} {Q : β → Prop} (T : q_U L W h0 π h) (ha : q_M L π a) (H : qk (f (a + 43)) Q) : qk (z_b (gR h a 12 62) f) Q := by
  rw [q_gR (ci := 12) T.2.2 ha.1 (by decide) ((ha.2.2.2.2.2).2.2.2.2.2.2.1)]; exact H
theorem r_Mo_63 {β : Type} {f : Nat → Option β} {Q : β → Prop} (T : q_U L W h0 π h) (ha : q_M L π a) (H : qk (f (a + 44)) Q) : qk (z_b (gR h a 12 63) f) Q := by
  rw [q_gR (ci := 12) T.2.2 ha.1 (by decide) ((ha.2.2.2.2.2).2.2.2.2.2.2.2.1)]; exact H
theorem r_Mo_64 {β : Type} {f : Nat → Option β} {Q : β → Prop} (T : q_U L W h0 π h) (ha : q_M L π a) (H : qk (f (a + 45)) Q) : qk (z_b (gR h a 12 64) f) Q := by
  rw [q_gR (ci := 12) T.2.2 ha.1 (by decide) ((ha.2.2.2.2.2).2.2.2.2.2.2.2.2)]; exact H
theorem r_Mo_65 {β : Type} {f : Int32 → Option β} {Q : β → Prop} (T : q_U L W h0 π h) (ha : q_M L π a) (H : ∀ x, x = vI h a 65 → 0 ≤ x → x ≤ 60 → qk (f x) Q) : qk (z_b (gI h a 12 65) f) Q := by
  rw [q_gI (ci := 12) T.2.2 ha.1 (by decide) rfl]
  have c := (ha.2.1.2.1).2.2.2.2.2.2.2.2.1
  have t := T.2.2.2.1 a 65
  rw [c.1, c.2] at t
  exact H _ rfl t.1 t.2
theorem w_Mo_65 {β : Type} {f : z_H → Option β} {Q : β → Prop} {v : Int32} (T : q_U L W h0 π h) (ha : q_M L π a) (w : W a) (r1 : 0 ≤ v) (r2 : v ≤ 60) (H : ∀ h', q_U L W h0 π h' → (∀ a' k', vI h' a' k' = if a' = a ∧ k' = 65 then v else vI h a' k') → (∀ a' i, vA h' a' i = vA h a' i) → qk (f h') Q) : qk (z_b (sF h a 12 65 (.int v)) f) Q := by
  have c := (ha.2.1.2.1).2.2.2.2.2.2.2.2.1
  obtain ⟨h', e1, e2, e3⟩ := q_sI (ci := 12) (k := 65) (v := v) T.2.2 ha.1 (by decide) rfl w (by rw [c.1]; exact r1) (by rw [c.2]; exact r2)
  rw [e1]; exact H h' ⟨T.1, T.2.1, e2⟩ e3.1 e3.2
theorem r_Mo_66 {β : Type} {f : Int32 → Option β} {Q : β → Prop} (T : q_U L W h0 π h) (ha : q_M L π a) (H : ∀ x, x = vI h a 66 → 0 ≤ x → x ≤ 60 → qk (f x) Q) : qk (z_b (gI h a 12 66) f) Q := by
  rw [q_gI (ci := 12) T.2.2 ha.1 (by decide) rfl]
  have c := (ha.2.1.2.1).2.2.2.2.2.2.2.2.2.1
  have t := T.2.2.2.1 a 66
  rw [c.1, c.2] at t
  exact H _ rfl t.1 t.2
theorem w_Mo_66 {β : Type} {f : z_H → Option β} {Q : β → Prop} {v : Int32} (T : q_U L W h0 π h) (ha : q_M L π a) (w : W a) (r1 : 0 ≤ v) (r2 : v ≤ 60) (H : ∀ h', q_U L W h0 π h' → (∀ a' k', vI h' a' k' = if a' = a ∧ k' = 66 then v else vI h a' k') → (∀ a' i, vA h' a' i = vA h a' i) → qk (f h') Q) : qk (z_b (sF h a 12 66 (.int v)) f) Q := by
  have c := (ha.2.1.2.1).2.2.2.2.2.2.2.2.2.1
  obtain ⟨h', e1, e2, e3⟩ := q_sI (ci := 12) (k := 66) (v := v) T.2.2 ha.1 (by decide) rfl w (by rw [c.1]; exact r1) (by rw [c.2]; exact r2)
  rw [e1]; exact H h' ⟨T.1, T.2.1, e2⟩ e3.1 e3.2
theorem r_Mo_67 {β : Type} {f : Int32 → Option β} {Q : β → Prop} (T : q_U L W h0 π h) (ha : q_M L π a) (H : ∀ x, x = vI h a 67 → 0 ≤ x → x ≤ 400 → qk (f x) Q) : qk (z_b (gI h a 12 67) f) Q := by
  rw [q_gI (ci := 12) T.2.2 ha.1 (by decide) rfl]
  have c := (ha.2.1.2.1).2.2.2.2.2.2.2.2.2.2.1
  have t := T.2.2.2.1 a 67
  rw [c.1, c.2] at t
  exact H _ rfl t.1 t.2
theorem w_Mo_67 {β : Type} {f : z_H → Option β} {Q : β → Prop} {v : Int32} (T : q_U L W h0 π h) (ha : q_M L π a) (w : W a) (r1 : 0 ≤ v) (r2 : v ≤ 400) (H : ∀ h', q_U L W h0 π h' → (∀ a' k', vI h' a' k' = if a' = a ∧ k' = 67 then v else vI h a' k') → (∀ a' i, vA h' a' i = vA h a' i) → qk (f h') Q) : qk (z_b (sF h a 12 67 (.int v)) f) Q := by
  have c := (ha.2.1.2.1).2.2.2.2.2.2.2.2.2.2.1
  obtain ⟨h', e1, e2, e3⟩ := q_sI (ci := 12) (k := 67) (v := v) T.2.2 ha.1 (by decide) rfl w (by rw [c.1]; exact r1) (by rw [c.2]; exact r2)
  rw [e1]; exact H h' ⟨T.1, T.2.1, e2⟩ e3.1 e3.2
theorem r_Mo_68 {β : Type} {f : Int32 → Option β} {Q : β → Prop} (T : q_U L W h0 π h) (ha : q_M L π a) (H : ∀ x, x = vI h a 68 → 0 ≤ x → x ≤ 200 → qk (f x) Q) : qk (z_b (gI h a 12 68) f) Q := by
  rw [q_gI (ci := 12) T.2.2 ha.1 (by decide) rfl]
  have c := (ha.2.1.2.1).2.2.2.2.2.2.2.2.2.2.2
  have t := T.2.2.2.1 a 68
  rw [c.1, c.2] at t
  exact H _ rfl t.1 t.2
theorem w_Mo_68 {β : Type} {f : z_H → Option β} {Q : β → Prop} {v : Int32} (T : q_U L W h0 π h) (ha : q_M L π a) (w : W a) (r1 : 0 ≤ v) (r2 : v ≤ 200) (H : ∀ h', q_U L W h0 π h' → (∀ a' k', vI h' a' k' = if a' = a ∧ k' = 68 then v else vI h a' k') → (∀ a' i, vA h' a' i = vA h a' i) → qk (f h') Q) : qk (z_b (sF h a 12 68 (.int v)) f) Q := by
  have c := (ha.2.1.2.1).2.2.2.2.2.2.2.2.2.2.2
  obtain ⟨h', e1, e2, e3⟩ := q_sI (ci := 12) (k := 68) (v := v) T.2.2 ha.1 (by decide) rfl w (by rw [c.1]; exact r1) (by rw [c.2]; exact r2)
  rw [e1]; exact H h' ⟨T.1, T.2.1, e2⟩ e3.1 e3.2
theorem r_Mo_69 {β : Type} {f : Int32 → Option β} {Q : β → Prop} (T : q_U L W h0 π h) (ha : q_M L π a) (H : ∀ x, x = vI h a 69 → 0 ≤ x → x ≤ 600 → qk (f x) Q) : qk (z_b (gI h a 12 69) f) Q := by
  rw [q_gI (ci := 12) T.2.2 ha.1 (by decide) rfl]
  have c := (ha.2.1.2.2.1).1
  have t := T.2.2.2.1 a 69
  rw [c.1, c.2] at t
  exact H _ rfl t.1 t.2
theorem w_Mo_69 {β : Type} {f : z_H → Option β} {Q : β → Prop} {v : Int32} (T : q_U L W h0 π h) (ha : q_M L π a) (w : W a) (r1 : 0 ≤ v) (r2 : v ≤ 600) (H : ∀ h', q_U L W h0 π h' → (∀ a' k', vI h' a' k' = if a' = a ∧ k' = 69 then v else vI h a' k') → (∀ a' i, vA h' a' i = vA h a' i) → qk (f h') Q) : qk (z_b (sF h a 12 69 (.int v)) f) Q := by
  have c := (ha.2.1.2.2.1).1
  obtain ⟨h', e1, e2, e3⟩ := q_sI (ci := 12) (k := 69) (v := v) T.2.2 ha.1 (by decide) rfl w (by rw [c.1]; exact r1) (by rw [c.2]; exact r2)
  rw [e1]; exact H h' ⟨T.1, T.2.1, e2⟩ e3.1 e3.2
theorem r_Mo_70 {β : Type} {f : Int32 → Option β} {Q : β → Prop} (T : q_U L W h0 π h) (ha : q_M L π a) (H : ∀ x, x = vI h a 70 → 0 ≤ x → x ≤ 12 → qk (f x) Q) : qk (z_b (gI h a 12 70) f) Q := by
  rw [q_gI (ci := 12) T.2.2 ha.1 (by decide) rfl]
  have c := (ha.2.1.2.2.1).2.1
  have t := T.2.2.2.1 a 70
  rw [c.1, c.2] at t
  exact H _ rfl t.1 t.2
theorem w_Mo_70 {β : Type} {f : z_H → Option β} {Q : β → Prop} {v : Int32} (T : q_U L W h0 π h) (ha : q_M L π a) (w : W a) (r1 : 0 ≤ v) (r2 : v ≤ 12) (H : ∀ h', q_U L W h0 π h' → (∀ a' k', vI h' a' k' = if a' = a ∧ k' = 70 then v else vI h a' k') → (∀ a' i, vA h' a' i = vA h a' i) → qk (f h') Q) : qk (z_b (sF h a 12 70 (.int v)) f) Q := by
  have c := (ha.2.1.2.2.1).2.1
  obtain ⟨h', e1, e2, e3⟩ := q_sI (ci := 12) (k := 70) (v := v) T.2.2 ha.1 (by decide) rfl w (by rw [c.1]; exact r1) (by rw [c.2]; exact r2)
  rw [e1]; exact H h' ⟨T.1, T.2.1, e2⟩ e3.1 e3.2
theorem r_Mo_71 {β : Type} {f : Int32 → Option β} {Q : β → Prop} (T : q_U L W h0 π h) (ha : q_M L π a) (H : ∀ x, x = vI h a 71 → 0 ≤ x → x ≤ 200 → qk (f x) Q) : qk (z_b (gI h a 12 71) f) Q := by
  rw [q_gI (ci := 12) T.2.2 ha.1 (by decide) rfl]
  have c := (ha.2.1.2.2.1).2.2.1
  have t := T.2.2.2.1 a 71
  rw [c.1, c.2] at t
  exact H _ rfl t.1 t.2
theorem w_Mo_71 {β : Type} {f : z_H → Option β} {Q : β → Prop} {v : Int32} (T : q_U L W h0 π h) (ha : q_M L π a) (w : W a) (r1 : 0 ≤ v) (r2 : v ≤ 200) (H : ∀ h', q_U L W h0 π h' → (∀ a' k', vI h' a' k' = if a' = a ∧ k' = 71 then v else vI h a' k') → (∀ a' i, vA h' a' i = vA h a' i) → qk (f h') Q) : qk (z_b (sF h a 12 71 (.int v)) f) Q := by
  have c := (ha.2.1.2.2.1).2.2.1
  obtain ⟨h', e1, e2, e3⟩ := q_sI (ci := 12) (k := 71) (v := v) T.2.2 ha.1 (by decide) rfl w (by rw [c.1]; exact r1) (by rw [c.2]; exact r2)
  rw [e1]; exact H h' ⟨T.1, T.2.1, e2⟩ e3.1 e3.2
theorem r_Mo_72 {β : Type} {f : Int32 → Option β} {Q : β → Prop} (T : q_U L W h0 π h) (ha : q_M L π a) (H : ∀ x, x = vI h a 72 → qk (f x) Q) : qk (z_b (gI h a 12 72) f) Q := by
  rw [q_gI (ci := 12) T.2.2 ha.1 (by decide) rfl]
  exact H _ rfl
theorem w_Mo_72 {β : Type} {f : z_H → Option β} {Q : β → Prop} {v : Int32} (T : q_U L W h0 π h) (ha : q_M L π a) (w : W a) (H : ∀ h', q_U L W h0 π h' → (∀ a' k', vI h' a' k' = if a' = a ∧ k' = 72 then v else vI h a' k') → (∀ a' i, vA h' a' i = vA h a' i) → qk (f h') Q) : qk (z_b (sF h a 12 72 (.int v)) f) Q := by
  have c := (ha.2.1.2.2.1).2.2.2.1
  obtain ⟨h', e1, e2, e3⟩ := q_sI (ci := 12) (k := 72) (v := v) T.2.2 ha.1 (by decide) rfl w (by rw [c.1]; exact q_min v) (by rw [c.2]; exact q_max v)
  rw [e1]; exact H h' ⟨T.1, T.2.1, e2⟩ e3.1 e3.2
theorem r_Mo_73 {β : Type} {f : Int32 → Option β} {Q : β → Prop} (T : q_U L W h0 π h) (ha : q_M L π a) (H : ∀ x, x = vI h a 73 → qk (f x) Q) : qk (z_b (gI h a 12 73) f) Q := by
  rw [q_gI (ci := 12) T.2.2 ha.1 (by decide) rfl]
  exact H _ rfl
theorem w_Mo_73 {β : Type} {f : z_H → Option β} {Q : β → Prop} {v : Int32} (T : q_U L W h0 π h) (ha : q_M L π a) (w : W a) (H : ∀ h', q_U L W h0 π h' → (∀ a' k', vI h' a' k' = if a' = a ∧ k' = 73 then v else vI h a' k') → (∀ a' i, vA h' a' i = vA h a' i) → qk (f h') Q) : qk (z_b (sF h a 12 73 (.int v)) f) Q := by
  have c := (ha.2.1.2.2.1).2.2.2.2.1
  obtain ⟨h', e1, e2, e3⟩ := q_sI (ci := 12) (k := 73) (v := v) T.2.2 ha.1 (by decide) rfl w (by rw [c.1]; exact q_min v) (by rw [c.2]; exact q_max v)
  rw [e1]; exact H h' ⟨T.1, T.2.1, e2⟩ e3.1 e3.2
theorem r_Mo_74 {β : Type} {f : Int32 → Option β} {Q : β → Prop} (T : q_U L W h0 π h) (ha : q_M L π a) (H : ∀ x, x = vI h a 74 → qk (f x) Q) : qk (z_b (gI h a 12 74) f) Q := by
  rw [q_gI (ci := 12) T.2.2 ha.1 (by decide) rfl]
  exact H _ rfl
theorem w_Mo_74 {β : Type} {f : z_H → Option β} {Q : β → Prop} {v : Int32} (T : q_U L W h0 π h) (ha : q_M L π a) (w : W a) (H : ∀ h', q_U L W h0 π h' → (∀ a' k', vI h' a' k' = if a' = a ∧ k' = 74 then v else vI h a' k') → (∀ a' i, vA h' a' i = vA h a' i) → qk (f h') Q) : qk (z_b (sF h a 12 74 (.int v)) f) Q := by
  have c := (ha.2.1.2.2.1).2.2.2.2.2.1
  obtain ⟨h', e1, e2, e3⟩ := q_sI (ci := 12) (k := 74) (v := v) T.2.2 ha.1 (by decide) rfl w (by rw [c.1]; exact q_min v) (by rw [c.2]; exact q_max v)
  rw [e1]; exact H h' ⟨T.1, T.2.1, e2⟩ e3.1 e3.2
theorem r_Mo_75 {β : Type} {f : Int32 → Option β} {Q : β → Prop} (T : q_U L W h0 π h) (ha : q_M L π a) (H : ∀ x, x = vI h a 75 → qk (f x) Q) : qk (z_b (gI h a 12 75) f) Q := by
  rw [q_gI (ci := 12) T.2.2 ha.1 (by decide) rfl]
  exact H _ rfl
theorem w_Mo_75 {β : Type} {f : z_H → Option β} {Q : β → Prop} {v : Int32} (T : q_U L W h0 π h) (ha : q_M L π a) (w : W a) (H : ∀ h', q_U L W h0 π h' → (∀ a' k', vI h' a' k' = if a' = a ∧ k' = 75 then v else vI h a' k') → (∀ a' i, vA h' a' i = vA h a' i) → qk (f h') Q) : qk (z_b (sF h a 12 75 (.int v)) f) Q := by
  have c := (ha.2.1.2.2.1).2.2.2.2.2.2.1
  obtain ⟨h', e1, e2, e3⟩ := q_sI (ci := 12) (k := 75) (v := v) T.2.2 ha.1 (by decide) rfl w (by rw [c.1]; exact q_min v) (by rw [c.2]; exact q_max v)
  rw [e1]; exact H h' ⟨T.1, T.2.1, e2⟩ e3.1 e3.2
theorem r_Mo_76 {β : Type} {f : Int32 → Option β} {Q : β → Prop} (T : q_U L W h0 π h) (ha : q_M L π a) (H : ∀ x, x = vI h a 76 → qk (f x) Q) : qk (z_b (gI h a 12 76) f) Q := by
  rw [q_gI (ci := 12) T.2.2 ha.1 (by decide) rfl]
  exact H _ rfl
theorem w_Mo_76 {β : Type} {f : z_H → Option β} {Q : β → Prop} {v : Int32} (T : q_U L W h0 π h) (ha : q_M L π a) (w : W a) (H : ∀ h', q_U L W h0 π h' → (∀ a' k', vI h' a' k' = if a' = a ∧ k' = 76 then v else vI h a' k') → (∀ a' i, vA h' a' i = vA h a' i) → qk (f h') Q) : qk (z_b (sF h a 12 76 (.int v)) f) Q := by
  have c := (ha.2.1.2.2.1).2.2.2.2.2.2.2.1
  obtain ⟨h', e1, e2, e3⟩ := q_sI (ci := 12) (k := 76) (v := v) T.2.2 ha.1 (by decide) rfl w (by rw [c.1]; exact q_min v) (by rw [c.2]; exact q_max v)
  rw [e1]; exact H h' ⟨T.1, T.2.1, e2⟩ e3.1 e3.2
theorem r_Mo_e1 {β : Type} {f : Int32 → Option β} {Q : β → Prop} {i : Int32} (T : q_U L W h0 π h) (ha : q_M L π a) (i0 : 0 ≤ i) (i1 : i < 240) (H : ∀ x, x = vA h (a + 1) i → 0 ≤ x → x ≤ 126 → qk (f x) Q) : qk (z_b (aI h (a + 1) 0 i) f) Q := by
  rw [q_aI (n := 240) T.2.2 ((ha.2.1.2.2.1).2.2.2.2.2.2.2.2.1) (by decide) (by decide) i0 i1]
  have c := (ha.2.1.2.2.1).2.2.2.2.2.2.2.2.2.1
  have t := T.2.2.2.2.1 (a + 1) i
  rw [c.1, c.2] at t
  exact H _ rfl t.1 t.2
theorem w_Mo_e1 {β : Type} {f : z_H → Option β} {Q : β → Prop} {i v : Int32} (T : q_U L W h0 π h) (ha : q_M L π a) (w : W (a + 1)) (i0 : 0 ≤ i) (i1 : i < 240) (r1 : 0 ≤ v) (r2 : v ≤ 126) (H : ∀ h', q_U L W h0 π h' → (∀ a' k', vI h' a' k' = vI h a' k') → (∀ a' j, 0 ≤ j → vA h' a' j = if a' = a + 1 ∧ j = i then v else vA h a' j) → qk (f h') Q) : qk (z_b (uI h (a + 1) 0 i v) f) Q := by
  have c := (ha.2.1.2.2.1).2.2.2.2.2.2.2.2.2.1
  obtain ⟨h', e1, e2, e3⟩ := q_uI (n := 240) (t := 0) (i := i) (x := v) T.2.2 ((ha.2.1.2.2.1).2.2.2.2.2.2.2.2.1) (by decide) (by decide) w i0 i1 (by rw [c.1]; exact r1) (by rw [c.2]; exact r2)
  rw [e1]; exact H h' ⟨T.1, T.2.1, e2⟩ e3.1 e3.2
theorem r_Mo_e2 {β : Type} {f : Int32 → Option β} {Q : β → Prop} {i : Int32} (T : q_U L W h0 π h) (ha : q_M L π a) (i0 : 0 ≤ i) (i1 : i < 12) (H : ∀ x, x = vA h (a + 2) i → 0 ≤ x → x ≤ 24 → qk (f x) Q) : qk (z_b (aI h (a + 2) 0 i) f) Q := by
  rw [q_aI (n := 12) T.2.2 ((ha.2.1.2.2.1).2.2.2.2.2.2.2.2.2.2.1) (by decide) (by decide) i0 i1]
  have c := (ha.2.1.2.2.1).2.2.2.2.2.2.2.2.2.2.2
  have t := T.2.2.2.2.1 (a + 2) i
  rw [c.1, c.2] at t
  exact H _ rfl t.1 t.2
theorem w_Mo_e2 {β : Type} {f : z_H → Option β} {Q : β → Prop} {i v : Int32} (T : q_U L W h0 π h) (ha : q_M L π a) (w : W (a + 2)) (i0 : 0 ≤ i) (i1 : i < 12) (r1 : 0 ≤ v) (r2 : v ≤ 24) (H : ∀ h', q_U L W h0 π h' → (∀ a' k', vI h' a' k' = vI h a' k') → (∀ a' j, 0 ≤ j → vA h' a' j = if a' = a + 2 ∧ j = i then v else vA h a' j) → qk (f h') Q) : qk (z_b (uI h (a + 2) 0 i v) f) Q := by
  have c := (ha.2.1.2.2.1).2.2.2.2.2.2.2.2.2.2.2
  obtain ⟨h', e1, e2, e3⟩ := q_uI (n := 12) (t := 0) (i := i) (x := v) T.2.2 ((ha.2.1.2.2.1).2.2.2.2.2.2.2.2.2.2.1) (by decide) (by decide) w i0 i1 (by rw [c.1]; exact r1) (by rw [c.2]; exact r2)
  rw [e1]; exact H h' ⟨T.1, T.2.1, e2⟩ e3.1 e3.2
theorem r_Mo_e3 {β : Type} {f : Int32 → Option β} {Q : β → Prop} {i : Int32} (T : q_U L W h0 π h) (ha : q_M L π a) (i0 : 0 ≤ i) (i1 : i < 288) (H : ∀ x, x = vA h (a + 3) i → qk (f x) Q) : qk (z_b (aI h (a + 3) 0 i) f) Q := by
  rw [q_aI (n := 288) T.2.2 ((ha.2.1.2.2.2.1).1) (by decide) (by decide) i0 i1]
  exact H _ rfl
theorem w_Mo_e3 {β : Type} {f : z_H → Option β} {Q : β → Prop} {i v : Int32} (T : q_U L W h0 π h) (ha : q_M L π a) (w : W (a + 3)) (i0 : 0 ≤ i) (i1 : i < 288) (H : ∀ h', q_U L W h0 π h' → (∀ a' k', vI h' a' k' = vI h a' k') → (∀ a' j, 0 ≤ j → vA h' a' j = if a' = a + 3 ∧ j = i then v else vA h a' j) → qk (f h') Q) : qk (z_b (uI h (a + 3) 0 i v) f) Q := by
  have c := (ha.2.1.2.2.2.1).2.1
  obtain ⟨h', e1, e2, e3⟩ := q_uI (n := 288) (t := 0) (i := i) (x := v) T.2.2 ((ha.2.1.2.2.2.1).1) (by decide) (by decide) w i0 i1 (by rw [c.1]; exact q_min v) (by rw [c.2]; exact q_max v)
  rw [e1]; exact H h' ⟨T.1, T.2.1, e2⟩ e3.1 e3.2
theorem r_Mo_e4 {β : Type} {f : Int32 → Option β} {Q : β → Prop} {i : Int32} (T : q_U L W h0 π h) (ha : q_M L π a) (i0 : 0 ≤ i) (i1 : i < 80) (H : ∀ x, x = vA h (a + 4) i → qk (f x) Q) : qk (z_b (aI h (a + 4) 0 i) f) Q := by
  rw [q_aI (n := 80) T.2.2 ((ha.2.1.2.2.2.1).2.2.1) (by decide) (by decide) i0 i1]
  exact H _ rfl
theorem w_Mo_e4 {β : Type} {f : z_H → Option β} {Q : β → Prop} {i v : Int32} (T : q_U L W h0 π h) (ha : q_M L π a) (w : W (a + 4)) (i0 : 0 ≤ i) (i1 : i < 80) (H : ∀ h', q_U L W h0 π h' → (∀ a' k', vI h' a' k' = vI h a' k') → (∀ a' j, 0 ≤ j → vA h' a' j = if a' = a + 4 ∧ j = i then v else vA h a' j) → qk (f h') Q) : qk (z_b (uI h (a + 4) 0 i v) f) Q := by
  have c := (ha.2.1.2.2.2.1).2.2.2.1
  obtain ⟨h', e1, e2, e3⟩ := q_uI (n := 80) (t := 0) (i := i) (x := v) T.2.2 ((ha.2.1.2.2.2.1).2.2.1) (by decide) (by decide) w i0 i1 (by rw [c.1]; exact q_min v) (by rw [c.2]; exact q_max v)
  rw [e1]; exact H h' ⟨T.1, T.2.1, e2⟩ e3.1 e3.2
theorem r_Mo_e5 {β : Type} {f : Int32 → Option β} {Q : β → Prop} {i : Int32} (T : q_U L W h0 π h) (ha : q_M L π a) (i0 : 0 ≤ i) (i1 : i < 80) (H : ∀ x, x = vA h (a + 5) i → 0 ≤ x → x ≤ 3 → qk (f x) Q) : qk (z_b (aI h (a + 5) 0 i) f) Q := by
  rw [q_aI (n := 80) T.2.2 ((ha.2.1.2.2.2.1).2.2.2.2.1) (by decide) (by decide) i0 i1]
  have c := (ha.2.1.2.2.2.1).2.2.2.2.2.1
  have t := T.2.2.2.2.1 (a + 5) i
  rw [c.1, c.2] at t
  exact H _ rfl t.1 t.2
theorem w_Mo_e5 {β : Type} {f : z_H → Option β} {Q : β → Prop} {i v : Int32} (T : q_U L W h0 π h) (ha : q_M L π a) (w : W (a + 5)) (i0 : 0 ≤ i) (i1 : i < 80) (r1 : 0 ≤ v) (r2 : v ≤ 3) (H : ∀ h', q_U L W h0 π h' → (∀ a' k', vI h' a' k' = vI h a' k') → (∀ a' j, 0 ≤ j → vA h' a' j = if a' = a + 5 ∧ j = i then v else vA h a' j) → qk (f h') Q) : qk (z_b (uI h (a + 5) 0 i v) f) Q := by
  have c := (ha.2.1.2.2.2.1).2.2.2.2.2.1
  obtain ⟨h', e1, e2, e3⟩ := q_uI (n := 80) (t := 0) (i := i) (x := v) T.2.2 ((ha.2.1.2.2.2.1).2.2.2.2.1) (by decide) (by decide) w i0 i1 (by rw [c.1]; exact r1) (by rw [c.2]; exact r2)
  rw [e1]; exact H h' ⟨T.1, T.2.1, e2⟩ e3.1 e3.2
theorem r_Mo_e6 {β : Type} {f : Int32 → Option β} {Q : β → Prop} {i : Int32} (T : q_U L W h0 π h) (ha : q_M L π a) (i0 : 0 ≤ i) (i1 : i < 80) (H : ∀ x, x = vA h (a + 6) i → 0 ≤ x → x ≤ 259 → qk (f x) Q) : qk (z_b (aI h (a + 6) 0 i) f) Q := by
  rw [q_aI (n := 80) T.2.2 ((ha.2.1.2.2.2.1).2.2.2.2.2.2.1) (by decide) (by decide) i0 i1]
  have c := (ha.2.1.2.2.2.1).2.2.2.2.2.2.2.1
  have t := T.2.2.2.2.1 (a + 6) i
  rw [c.1, c.2] at t
  exact H _ rfl t.1 t.2
theorem w_Mo_e6 {β : Type} {f : z_H → Option β} {Q : β → Prop} {i v : Int32} (T : q_U L W h0 π h) (ha : q_M L π a) (w : W (a + 6)) (i0 : 0 ≤ i) (i1 : i < 80) (r1 : 0 ≤ v) (r2 : v ≤ 259) (H : ∀ h', q_U L W h0 π h' → (∀ a' k', vI h' a' k' = vI h a' k') → (∀ a' j, 0 ≤ j → vA h' a' j = if a' = a + 6 ∧ j = i then v else vA h a' j) → qk (f h') Q) : qk (z_b (uI h (a + 6) 0 i v) f) Q := by
  have c := (ha.2.1.2.2.2.1).2.2.2.2.2.2.2.1
  obtain ⟨h', e1, e2, e3⟩ := q_uI (n := 80) (t := 0) (i := i) (x := v) T.2.2 ((ha.2.1.2.2.2.1).2.2.2.2.2.2.1) (by decide) (by decide) w i0 i1 (by rw [c.1]; exact r1) (by rw [c.2]; exact r2)
  rw [e1]; exact H h' ⟨T.1, T.2.1, e2⟩ e3.1 e3.2
theorem r_Mo_e7 {β : Type} {f : Int32 → Option β} {Q : β → Prop} {i : Int32} (T : q_U L W h0 π h) (ha : q_M L π a) (i0 : 0 ≤ i) (i1 : i < 80) (H : ∀ x, x = vA h (a + 7) i → 0 ≤ x → x ≤ 3 → qk (f x) Q) : qk (z_b (aI h (a + 7) 0 i) f) Q := by
  rw [q_aI (n := 80) T.2.2 ((ha.2.1.2.2.2.1).2.2.2.2.2.2.2.2.1) (by decide) (by decide) i0 i1]
  have c := (ha.2.1.2.2.2.1).2.2.2.2.2.2.2.2.2.1
  have t := T.2.2.2.2.1 (a + 7) i
  rw [c.1, c.2] at t
  exact H _ rfl t.1 t.2
theorem w_Mo_e7 {β : Type} {f : z_H → Option β} {Q : β → Prop} {i v : Int32} (T : q_U L W h0 π h) (ha : q_M L π a) (w : W (a + 7)) (i0 : 0 ≤ i) (i1 : i < 80) (r1 : 0 ≤ v) (r2 : v ≤ 3) (H : ∀ h', q_U L W h0 π h' → (∀ a' k', vI h' a' k' = vI h a' k') → (∀ a' j, 0 ≤ j → vA h' a' j = if a' = a + 7 ∧ j = i then v else vA h a' j) → qk (f h') Q) : qk (z_b (uI h (a + 7) 0 i v) f) Q := by
  have c := (ha.2.1.2.2.2.1).2.2.2.2.2.2.2.2.2.1
  obtain ⟨h', e1, e2, e3⟩ := q_uI (n := 80) (t := 0) (i := i) (x := v) T.2.2 ((ha.2.1.2.2.2.1).2.2.2.2.2.2.2.2.1) (by decide) (by decide) w i0 i1 (by rw [c.1]; exact r1) (by rw [c.2]; exact r2)
  rw [e1]; exact H h' ⟨T.1, T.2.1, e2⟩ e3.1 e3.2
theorem r_Mo_e8 {β : Type} {f : Int32 → Option β} {Q : β → Prop} {i : Int32} (T : q_U L W h0 π h) (ha : q_M L π a) (i0 : 0 ≤ i) (i1 : i < 80) (H : ∀ x, x = vA h (a + 8) i → 0 ≤ x → x ≤ 259 → qk (f x) Q) : qk (z_b (aI h (a + 8) 0 i) f) Q := by
  rw [q_aI (n := 80) T.2.2 ((ha.2.1.2.2.2.1).2.2.2.2.2.2.2.2.2.2.1) (by decide) (by decide) i0 i1]
  have c := (ha.2.1.2.2.2.1).2.2.2.2.2.2.2.2.2.2.2
  have t := T.2.2.2.2.1 (a + 8) i
  rw [c.1, c.2] at t
  exact H _ rfl t.1 t.2
theorem w_Mo_e8 {β : Type} {f : z_H → Option β} {Q : β → Prop} {i v : Int32} (T : q_U L W h0 π h) (ha : q_M L π a) (w : W (a + 8)) (i0 : 0 ≤ i) (i1 : i < 80) (r1 : 0 ≤ v) (r2 : v ≤ 259) (H : ∀ h', q_U L W h0 π h' → (∀ a' k', vI h' a' k' = vI h a' k') → (∀ a' j, 0 ≤ j → vA h' a' j = if a' = a + 8 ∧ j = i then v else vA h a' j) → qk (f h') Q) : qk (z_b (uI h (a + 8) 0 i v) f) Q := by
  have c := (ha.2.1.2.2.2.1).2.2.2.2.2.2.2.2.2.2.2
  obtain ⟨h', e1, e2, e3⟩ := q_uI (n := 80) (t := 0) (i := i) (x := v) T.2.2 ((ha.2.1.2.2.2.1).2.2.2.2.2.2.2.2.2.2.1) (by decide) (by decide) w i0 i1 (by rw [c.1]; exact r1) (by rw [c.2]; exact r2)
  rw [e1]; exact H h' ⟨T.1, T.2.1, e2⟩ e3.1 e3.2
theorem r_Mo_e9 {β : Type} {f : Int32 → Option β} {Q : β → Prop} {i : Int32} (T : q_U L W h0 π h) (ha : q_M L π a) (i0 : 0 ≤ i) (i1 : i < 80) (H : ∀ x, x = vA h (a + 9) i → 0 ≤ x → x ≤ 259 → qk (f x) Q) : qk (z_b (aI h (a + 9) 0 i) f) Q := by
  rw [q_aI (n := 80) T.2.2 ((ha.2.1.2.2.2.2.1).1) (by decide) (by decide) i0 i1]
  have c := (ha.2.1.2.2.2.2.1).2.1
  have t := T.2.2.2.2.1 (a + 9) i
  rw [c.1, c.2] at t
  exact H _ rfl t.1 t.2
theorem w_Mo_e9 {β : Type} {f : z_H → Option β} {Q : β → Prop} {i v : Int32} (T : q_U L W h0 π h) (ha : q_M L π a) (w : W (a + 9)) (i0 : 0 ≤ i) (i1 : i < 80) (r1 : 0 ≤ v) (r2 : v ≤ 259) (H : ∀ h', q_U L W h0 π h' → (∀ a' k', vI h' a' k' = vI h a' k') → (∀ a' j, 0 ≤ j → vA h' a' j = if a' = a + 9 ∧ j = i then v else vA h a' j) → qk (f h') Q) : qk (z_b (uI h (a + 9) 0 i v) f) Q := by
  have c := (ha.2.1.2.2.2.2.1).2.1
  obtain ⟨h', e1, e2, e3⟩ := q_uI (n := 80) (t := 0) (i := i) (x := v) T.2.2 ((ha.2.1.2.2.2.2.1).1) (by decide) (by decide) w i0 i1 (by rw [c.1]; exact r1) (by rw [c.2]; exact r2)
  rw [e1]; exact H h' ⟨T.1, T.2.1, e2⟩ e3.1 e3.2
theorem r_Mo_e10 {β : Type} {f : Int32 → Option β} {Q : β → Prop} {i : Int32} (T : q_U L W h0 π h) (ha : q_M L π a) (i0 : 0 ≤ i) (i1 : i < 80) (H : ∀ x, x = vA h (a + 10) i → 0 ≤ x → x ≤ 600 → qk (f x) Q) : qk (z_b (aI h (a + 10) 0 i) f) Q := by
  rw [q_aI (n := 80) T.2.2 ((ha.2.1.2.2.2.2.1).2.2.1) (by decide) (by decide) i0 i1]
  have c := (ha.2.1.2.2.2.2.1).2.2.2.1
  have t := T.2.2.2.2.1 (a + 10) i
  rw [c.1, c.2] at t
  exact H _ rfl t.1 t.2
theorem w_Mo_e10 {β : Type} {f : z_H → Option β} {Q : β → Prop} {i v : Int32} (T : q_U L W h0 π h) (ha : q_M L π a) (w : W (a + 10)) (i0 : 0 ≤ i) (i1 : i < 80) (r1 : 0 ≤ v) (r2 : v ≤ 600) (H : ∀ h', q_U L W h0 π h' → (∀ a' k', vI h' a' k' = vI h a' k') → (∀ a' j, 0 ≤ j → vA h' a' j = if a' = a + 10 ∧ j = i then v else vA h a' j) → qk (f h') Q) : qk (z_b (uI h (a + 10) 0 i v) f) Q := by
  have c := (ha.2.1.2.2.2.2.1).2.2.2.1
  obtain ⟨h', e1, e2, e3⟩ := q_uI (n := 80) (t := 0) (i := i) (x := v) T.2.2 ((ha.2.1.2.2.2.2.1).2.2.1) (by decide) (by decide) w i0 i1 (by rw [c.1]; exact r1) (by rw [c.2]; exact r2)
  rw [e1]; exact H h' ⟨T.1, T.2.1, e2⟩ e3.1 e3.2
theorem r_Mo_e11 {β : Type} {f : Int32 → Option β} {Q : β → Prop} {i : Int32} (T : q_U L W h0 π h) (ha : q_M L π a) (i0 : 0 ≤ i) (i1 : i < 80) (H : ∀ x, x = vA h (a + 11) i → 0 ≤ x → x ≤ 600 → qk (f x) Q) : qk (z_b (aI h (a + 11) 0 i) f) Q := by
  rw [q_aI (n := 80) T.2.2 ((ha.2.1.2.2.2.2.1).2.2.2.2.1) (by decide) (by decide) i0 i1]
  have c := (ha.2.1.2.2.2.2.1).2.2.2.2.2.1
  have t := T.2.2.2.2.1 (a + 11) i
  rw [c.1, c.2] at t
  exact H _ rfl t.1 t.2
theorem w_Mo_e11 {β : Type} {f : z_H → Option β} {Q : β → Prop} {i v : Int32} (T : q_U L W h0 π h) (ha : q_M L π a) (w : W (a + 11)) (i0 : 0 ≤ i) (i1 : i < 80) (r1 : 0 ≤ v) (r2 : v ≤ 600) (H : ∀ h', q_U L W h0 π h' → (∀ a' k', vI h' a' k' = vI h a' k') → (∀ a' j, 0 ≤ j → vA h' a' j = if a' = a + 11 ∧ j = i then v else vA h a' j) → qk (f h') Q) : qk (z_b (uI h (a + 11) 0 i v) f) Q := by
  have c := (ha.2.1.2.2.2.2.1).2.2.2.2.2.1
  obtain ⟨h', e1, e2, e3⟩ := q_uI (n := 80) (t := 0) (i := i) (x := v) T.2.2 ((ha.2.1.2.2.2.2.1).2.2.2.2.1) (by decide) (by decide) w i0 i1 (by rw [c.1]; exact r1) (by rw [c.2]; exact r2)
  rw [e1]; exact H h' ⟨T.1, T.2.1, e2⟩ e3.1 e3.2
theorem r_Mo_e12 {β : Type} {f : Int32 → Option β} {Q : β → Prop} {i : Int32} (T : q_U L W h0 π h) (ha : q_M L π a) (i0 : 0 ≤ i) (i1 : i < 80) (H : ∀ x, x = vA h (a + 12) i → 0 ≤ x → x ≤ 600 → qk (f x) Q) : qk (z_b (aI h (a + 12) 0 i) f) Q := by
  rw [q_aI (n := 80) T.2.2 ((ha.2.1.2.2.2.2.1).2.2.2.2.2.2.1) (by decide) (by decide) i0 i1]
  have c := (ha.2.1.2.2.2.2.1).2.2.2.2.2.2.2.1
  have t := T.2.2.2.2.1 (a + 12) i
  rw [c.1, c.2] at t
  exact H _ rfl t.1 t.2
theorem w_Mo_e12 {β : Type} {f : z_H → Option β} {Q : β → Prop} {i v : Int32} (T : q_U L W h0 π h) (ha : q_M L π a) (w : W (a + 12)) (i0 : 0 ≤ i) (i1 : i < 80) (r1 : 0 ≤ v) (r2 : v ≤ 600) (H : ∀ h', q_U L W h0 π h' → (∀ a' k', vI h' a' k' = vI h a' k') → (∀ a' j, 0 ≤ j → vA h' a' j = if a' = a + 12 ∧ j = i then v else vA h a' j) → qk (f h') Q) : qk (z_b (uI h (a + 12) 0 i v) f) Q := by
  have c := (ha.2.1.2.2.2.2.1).2.2.2.2.2.2.2.1
  obtain ⟨h', e1, e2, e3⟩ := q_uI (n := 80) (t := 0) (i := i) (x := v) T.2.2 ((ha.2.1.2.2.2.2.1).2.2.2.2.2.2.1) (by decide) (by decide) w i0 i1 (by rw [c.1]; exact r1) (by rw [c.2]; exact r2)
  rw [e1]; exact H h' ⟨T.1, T.2.1, e2⟩ e3.1 e3.2
theorem r_Mo_e13 {β : Type} {f : Int32 → Option β} {Q : β → Prop} {i : Int32} (T : q_U L W h0 π h) (ha : q_M L π a) (i0 : 0 ≤ i) (i1 : i < 80) (H : ∀ x, x = vA h (a + 13) i → (-1) ≤ x → x ≤ 40 → qk (f x) Q) : qk (z_b (aI h (a + 13) 0 i) f) Q := by
  rw [q_aI (n := 80) T.2.2 ((ha.2.1.2.2.2.2.1).2.2.2.2.2.2.2.2.1) (by decide) (by decide) i0 i1]
  have c := (ha.2.1.2.2.2.2.1).2.2.2.2.2.2.2.2.2.1
  have t := T.2.2.2.2.1 (a + 13) i
  rw [c.1, c.2] at t
  exact H _ rfl t.1 t.2
theorem w_Mo_e13 {β : Type} {f : z_H → Option β} {Q : β → Prop} {i v : Int32} (T : q_U L W h0 π h) (ha : q_M L π a) (w : W (a + 13)) (i0 : 0 ≤ i) (i1 : i < 80) (r1 : (-1) ≤ v) (r2 : v ≤ 40) (H : ∀ h', q_U L W h0 π h' → (∀ a' k', vI h' a' k' = vI h a' k') → (∀ a' j, 0 ≤ j → vA h' a' j = if a' = a + 13 ∧ j = i then v else vA h a' j) → qk (f h') Q) : qk (z_b (uI h (a + 13) 0 i v) f) Q := by
  have c := (ha.2.1.2.2.2.2.1).2.2.2.2.2.2.2.2.2.1
  obtain ⟨h', e1, e2, e3⟩ := q_uI (n := 80) (t := 0) (i := i) (x := v) T.2.2 ((ha.2.1.2.2.2.2.1).2.2.2.2.2.2.2.2.1) (by decide) (by decide) w i0 i1 (by rw [c.1]; exact r1) (by rw [c.2]; exact r2)
  rw [e1]; exact H h' ⟨T.1, T.2.1, e2⟩ e3.1 e3.2
theorem r_Mo_e14 {β : Type} {f : Int32 → Option β} {Q : β → Prop} {i : Int32} (T : q_U L W h0 π h) (ha : q_M L π a) (i0 : 0 ≤ i) (i1 : i < 80) (H : ∀ x, x = vA h (a + 14) i → qk (f x) Q) : qk (z_b (aI h (a + 14) 0 i) f) Q := by
  rw [q_aI (n := 80) T.2.2 ((ha.2.1.2.2.2.2.1).2.2.2.2.2.2.2.2.2.2.1) (by decide) (by decide) i0 i1]
  exact H _ rfl
theorem w_Mo_e14 {β : Type} {f : z_H → Option β} {Q : β → Prop} {i v : Int32} (T : q_U L W h0 π h) (ha : q_M L π a) (w : W (a + 14)) (i0 : 0 ≤ i) (i1 : i < 80) (H : ∀ h', q_U L W h0 π h' → (∀ a' k', vI h' a' k' = vI h a' k') → (∀ a' j, 0 ≤ j → vA h' a' j = if a' = a + 14 ∧ j = i then v else vA h a' j) → qk (f h') Q) : qk (z_b (uI h (a + 14) 0 i v) f) Q := by
  have c := (ha.2.1.2.2.2.2.1).2.2.2.2.2.2.2.2.2.2.2
  obtain ⟨h', e1, e2, e3⟩ := q_uI (n := 80) (t := 0) (i := i) (x := v) T.2.2 ((ha.2.1.2.2.2.2.1).2.2.2.2.2.2.2.2.2.2.1) (by decide) (by decide) w i0 i1 (by rw [c.1]; exact q_min v) (by rw [c.2]; exact q_max v)
  rw [e1]; exact H h' ⟨T.1, T.2.1, e2⟩ e3.1 e3.2
theorem r_Mo_e15 {β : Type} {f : Int32 → Option β} {Q : β → Prop} {i : Int32} (T : q_U L W h0 π h) (ha : q_M L π a) (i0 : 0 ≤ i) (i1 : i < 80) (H : ∀ x, x = vA h (a + 15) i → qk (f x) Q) : qk (z_b (aI h (a + 15) 0 i) f) Q := by
  rw [q_aI (n := 80) T.2.2 ((ha.2.1.2.2.2.2.2.1).1) (by decide) (by decide) i0 i1]
  exact H _ rfl
theorem w_Mo_e15 {β : Type} {f : z_H → Option β} {Q : β → Prop} {i v : Int32} (T : q_U L W h0 π h) (ha : q_M L π a) (w : W (a + 15)) (i0 : 0 ≤ i) (i1 : i < 80) (H : ∀ h', q_U L W h0 π h' → (∀ a' k', vI h' a' k' = vI h a' k') → (∀ a' j, 0 ≤ j → vA h' a' j = if a' = a + 15 ∧ j = i then v else vA h a' j) → qk (f h') Q) : qk (z_b (uI h (a + 15) 0 i v) f) Q := by
  have c := (ha.2.1.2.2.2.2.2.1).2.1
  obtain ⟨h', e1, e2, e3⟩ := q_uI (n := 80) (t := 0) (i := i) (x := v) T.2.2 ((ha.2.1.2.2.2.2.2.1).1) (by decide) (by decide) w i0 i1 (by rw [c.1]; exact q_min v) (by rw [c.2]; exact q_max v)
  rw [e1]; exact H h' ⟨T.1, T.2.1, e2⟩ e3.1 e3.2
theorem r_Mo_e16 {β : Type} {f : Int32 → Option β} {Q : β → Prop} {i : Int32} (T : q_U L W h0 π h) (ha : q_M L π a) (i0 : 0 ≤ i) (i1 : i < 80) (H : ∀ x, x = vA h (a + 16) i → qk (f x) Q) : qk (z_b (aI h (a + 16) 3 i) f) Q := by
  rw [q_aI (n := 80) T.2.2 ((ha.2.1.2.2.2.2.2.1).2.2.1) (by decide) (by decide) i0 i1]
  exact H _ rfl
theorem w_Mo_e16 {β : Type} {f : z_H → Option β} {Q : β → Prop} {i v : Int32} (T : q_U L W h0 π h) (ha : q_M L π a) (w : W (a + 16)) (i0 : 0 ≤ i) (i1 : i < 80) (H : ∀ h', q_U L W h0 π h' → (∀ a' k', vI h' a' k' = vI h a' k') → (∀ a' j, 0 ≤ j → vA h' a' j = if a' = a + 16 ∧ j = i then v else vA h a' j) → qk (f h') Q) : qk (z_b (uI h (a + 16) 3 i v) f) Q := by
  have c := (ha.2.1.2.2.2.2.2.1).2.2.2.1
  obtain ⟨h', e1, e2, e3⟩ := q_uI (n := 80) (t := 3) (i := i) (x := v) T.2.2 ((ha.2.1.2.2.2.2.2.1).2.2.1) (by decide) (by decide) w i0 i1 (by rw [c.1]; exact q_min v) (by rw [c.2]; exact q_max v)
  rw [e1]; exact H h' ⟨T.1, T.2.1, e2⟩ e3.1 e3.2
theorem r_Mo_e17 {β : Type} {f : Int32 → Option β} {Q : β → Prop} {i : Int32} (T : q_U L W h0 π h) (ha : q_M L π a) (i0 : 0 ≤ i) (i1 : i < 80) (H : ∀ x, x = vA h (a + 17) i → qk (f x) Q) : qk (z_b (aI h (a + 17) 3 i) f) Q := by
  rw [q_aI (n := 80) T.2.2 ((ha.2.1.2.2.2.2.2.1).2.2.2.2.1) (by decide) (by decide) i0 i1]
  exact H _ rfl
theorem w_Mo_e17 {β : Type} {f : z_H → Option β} {Q : β → Prop} {i v : Int32} (T : q_U L W h0 π h) (ha : q_M L π a) (w : W (a + 17)) (i0 : 0 ≤ i) (i1 : i < 80) (H : ∀ h', q_U L W h0 π h' → (∀ a' k', vI h' a' k' = vI h a' k') → (∀ a' j, 0 ≤ j → vA h' a' j = if a' = a + 17 ∧ j = i then v else vA h a' j) → qk (f h') Q) : qk (z_b (uI h (a + 17) 3 i v) f) Q := by
  have c := (ha.2.1.2.2.2.2.2.1).2.2.2.2.2.1
  obtain ⟨h', e1, e2, e3⟩ := q_uI (n := 80) (t := 3) (i := i) (x := v) T.2.2 ((ha.2.1.2.2.2.2.2.1).2.2.2.2.1) (by decide) (by decide) w i0 i1 (by rw [c.1]; exact q_min v) (by rw [c.2]; exact q_max v)
  rw [e1]; exact H h' ⟨T.1, T.2.1, e2⟩ e3.1 e3.2
theorem r_Mo_e18 {β : Type} {f : Int32 → Option β} {Q : β → Prop} {i : Int32} (T : q_U L W h0 π h) (ha : q_M L π a) (i0 : 0 ≤ i) (i1 : i < 80) (H : ∀ x, x = vA h (a + 18) i → qk (f x) Q) : qk (z_b (aI h (a + 18) 3 i) f) Q := by
  rw [q_aI (n := 80) T.2.2 ((ha.2.1.2.2.2.2.2.1).2.2.2.2.2.2.1) (by decide) (by decide) i0 i1]
  exact H _ rfl
theorem w_Mo_e18 {β : Type} {f : z_H → Option β} {Q : β → Prop} {i v : Int32} (T : q_U L W h0 π h) (ha : q_M L π a) (w : W (a + 18)) (i0 : 0 ≤ i) (i1 : i < 80) (H : ∀ h', q_U L W h0 π h' → (∀ a' k', vI h' a' k' = vI h a' k') → (∀ a' j, 0 ≤ j → vA h' a' j = if a' = a + 18 ∧ j = i then v else vA h a' j) → qk (f h') Q) : qk (z_b (uI h (a + 18) 3 i v) f) Q := by
  have c := (ha.2.1.2.2.2.2.2.1).2.2.2.2.2.2.2.1
  obtain ⟨h', e1, e2, e3⟩ := q_uI (n := 80) (t := 3) (i := i) (x := v) T.2.2 ((ha.2.1.2.2.2.2.2.1).2.2.2.2.2.2.1) (by decide) (by decide) w i0 i1 (by rw [c.1]; exact q_min v) (by rw [c.2]; exact q_max v)
  rw [e1]; exact H h' ⟨T.1, T.2.1, e2⟩ e3.1 e3.2
theorem r_Mo_e19 {β : Type} {f : Int32 → Option β} {Q : β → Prop} {i : Int32} (T : q_U L W h0 π h) (ha : q_M L π a) (i0 : 0 ≤ i) (i1 : i < 2) (H : ∀ x, x = vA h (a + 19) i → 0 ≤ x → x ≤ 40 → qk (f x) Q) : qk (z_b (aI h (a + 19) 0 i) f) Q := by
  rw [q_aI (n := 2) T.2.2 ((ha.2.1.2.2.2.2.2.1).2.2.2.2.2.2.2.2.1) (by decide) (by decide) i0 i1]
  have c := (ha.2.1.2.2.2.2.2.1).2.2.2.2.2.2.2.2.2.1
  have t := T.2.2.2.2.1 (a + 19) i
  rw [c.1, c.2] at t
  exact H _ rfl t.1 t.2
theorem w_Mo_e19 {β : Type} {f : z_H → Option β} {Q : β → Prop} {i v : Int32} (T : q_U L W h0 π h) (ha : q_M L π a) (w : W (a + 19)) (i0 : 0 ≤ i) (i1 : i < 2) (r1 : 0 ≤ v) (r2 : v ≤ 40) (H : ∀ h', q_U L W h0 π h' → (∀ a' k', vI h' a' k' = vI h a' k') → (∀ a' j, 0 ≤ j → vA h' a' j = if a' = a + 19 ∧ j = i then v else vA h a' j) → qk (f h') Q) : qk (z_b (uI h (a + 19) 0 i v) f) Q := by
  have c := (ha.2.1.2.2.2.2.2.1).2.2.2.2.2.2.2.2.2.1
  obtain ⟨h', e1, e2, e3⟩ := q_uI (n := 2) (t := 0) (i := i) (x := v) T.2.2 ((ha.2.1.2.2.2.2.2.1).2.2.2.2.2.2.2.2.1) (by decide) (by decide) w i0 i1 (by rw [c.1]; exact r1) (by rw [c.2]; exact r2)
  rw [e1]; exact H h' ⟨T.1, T.2.1, e2⟩ e3.1 e3.2
theorem r_Mo_e20 {β : Type} {f : Int32 → Option β} {Q : β → Prop} {i : Int32} (T : q_U L W h0 π h) (ha : q_M L π a) (i0 : 0 ≤ i) (i1 : i < 2) (H : ∀ x, x = vA h (a + 20) i → 0 ≤ x → x ≤ 130 → qk (f x) Q) : qk (z_b (aI h (a + 20) 0 i) f) Q := by
  rw [q_aI (n := 2) T.2.2 ((ha.2.1.2.2.2.2.2.1).2.2.2.2.2.2.2.2.2.2.1) (by decide) (by decide) i0 i1]
  have c := (ha.2.1.2.2.2.2.2.1).2.2.2.2.2.2.2.2.2.2.2
  have t := T.2.2.2.2.1 (a + 20) i
  rw [c.1, c.2] at t
  exact H _ rfl t.1 t.2
theorem w_Mo_e20 {β : Type} {f : z_H → Option β} {Q : β → Prop} {i v : Int32} (T : q_U L W h0 π h) (ha : q_M L π a) (w : W (a + 20)) (i0 : 0 ≤ i) (i1 : i < 2) (r1 : 0 ≤ v) (r2 : v ≤ 130) (H : ∀ h', q_U L W h0 π h' → (∀ a' k', vI h' a' k' = vI h a' k') → (∀ a' j, 0 ≤ j → vA h' a' j = if a' = a + 20 ∧ j = i then v else vA h a' j) → qk (f h') Q) : qk (z_b (uI h (a + 20) 0 i v) f) Q := by
  have c := (ha.2.1.2.2.2.2.2.1).2.2.2.2.2.2.2.2.2.2.2
  obtain ⟨h', e1, e2, e3⟩ := q_uI (n := 2) (t := 0) (i := i) (x := v) T.2.2 ((ha.2.1.2.2.2.2.2.1).2.2.2.2.2.2.2.2.2.2.1) (by decide) (by decide) w i0 i1 (by rw [c.1]; exact r1) (by rw [c.2]; exact r2)
  rw [e1]; exact H h' ⟨T.1, T.2.1, e2⟩ e3.1 e3.2
theorem r_Mo_e21 {β : Type} {f : Int32 → Option β} {Q : β → Prop} {i : Int32} (T : q_U L W h0 π h) (ha : q_M L π a) (i0 : 0 ≤ i) (i1 : i < 2) (H : ∀ x, x = vA h (a + 21) i → 0 ≤ x → x ≤ 259 → qk (f x) Q) : qk (z_b (aI h (a + 21) 0 i) f) Q := by
  rw [q_aI (n := 2) T.2.2 ((ha.2.1.2.2.2.2.2.2.1).1) (by decide) (by decide) i0 i1]
  have c := (ha.2.1.2.2.2.2.2.2.1).2.1
  have t := T.2.2.2.2.1 (a + 21) i
  rw [c.1, c.2] at t
  exact H _ rfl t.1 t.2
theorem w_Mo_e21 {β : Type} {f : z_H → Option β} {Q : β → Prop} {i v : Int32} (T : q_U L W h0 π h) (ha : q_M L π a) (w : W (a + 21)) (i0 : 0 ≤ i) (i1 : i < 2) (r1 : 0 ≤ v) (r2 : v ≤ 259) (H : ∀ h', q_U L W h0 π h' → (∀ a' k', vI h' a' k' = vI h a' k') → (∀ a' j, 0 ≤ j → vA h' a' j = if a' = a + 21 ∧ j = i then v else vA h a' j) → qk (f h') Q) : qk (z_b (uI h (a + 21) 0 i v) f) Q := by
  have c := (ha.2.1.2.2.2.2.2.2.1).2.1
  obtain ⟨h', e1, e2, e3⟩ := q_uI (n := 2) (t := 0) (i := i) (x := v) T.2.2 ((ha.2.1.2.2.2.2.2.2.1).1) (by decide) (by decide) w i0 i1 (by rw [c.1]; exact r1) (by rw [c.2]; exact r2)
  rw [e1]; exact H h' ⟨T.1, T.2.1, e2⟩ e3.1 e3.2
theorem r_Mo_e22 {β : Type} {f : Int32 → Option β} {Q : β → Prop} {i : Int32} (T : q_U L W h0 π h) (ha : q_M L π a) (i0 : 0 ≤ i) (i1 : i < 2) (H : ∀ x, x = vA h (a + 22) i → 0 ≤ x → x ≤ 299 → qk (f x) Q) : qk (z_b (aI h (a + 22) 0 i) f) Q := by
  rw [q_aI (n := 2) T.2.2 ((ha.2.1.2.2.2.2.2.2.1).2.2.1) (by decide) (by decide) i0 i1]
  have c := (ha.2.1.2.2.2.2.2.2.1).2.2.2.1
  have t := T.2.2.2.2.1 (a + 22) i
  rw [c.1, c.2] at t
  exact H _ rfl t.1 t.2
theorem w_Mo_e22 {β : Type} {f : z_H → Option β} {Q : β → Prop} {i v : Int32} (T : q_U L W h0 π h) (ha : q_M L π a) (w : W (a + 22)) (i0 : 0 ≤ i) (i1 : i < 2) (r1 : 0 ≤ v) (r2 : v ≤ 299) (H : ∀ h', q_U L W h0 π h' → (∀ a' k', vI h' a' k' = vI h a' k') → (∀ a' j, 0 ≤ j → vA h' a' j = if a' = a + 22 ∧ j = i then v else vA h a' j) → qk (f h') Q) : qk (z_b (uI h (a + 22) 0 i v) f) Q := by
  have c := (ha.2.1.2.2.2.2.2.2.1).2.2.2.1
  obtain ⟨h', e1, e2, e3⟩ := q_uI (n := 2) (t := 0) (i := i) (x := v) T.2.2 ((ha.2.1.2.2.2.2.2.2.1).2.2.1) (by decide) (by decide) w i0 i1 (by rw [c.1]; exact r1) (by rw [c.2]; exact r2)
  rw [e1]; exact H h' ⟨T.1, T.2.1, e2⟩ e3.1 e3.2
theorem r_Mo_e23 {β : Type} {f : Int32 → Option β} {Q : β → Prop} {i : Int32} (T : q_U L W h0 π h) (ha : q_M L π a) (i0 : 0 ≤ i) (i1 : i < 260) (H : ∀ x, x = vA h (a + 23) i → 0 ≤ x → x ≤ 520 → qk (f x) Q) : qk (z_b (aI h (a + 23) 0 i) f) Q := by
  rw [q_aI (n := 260) T.2.2 ((ha.2.1.2.2.2.2.2.2.1).2.2.2.2.1) (by decide) (by decide) i0 i1]
  have c := (ha.2.1.2.2.2.2.2.2.1).2.2.2.2.2.1
  have t := T.2.2.2.2.1 (a + 23) i
  rw [c.1, c.2] at t
  exact H _ rfl t.1 t.2
theorem w_Mo_e23 {β : Type} {f : z_H → Option β} {Q : β → Prop} {i v : Int32} (T : q_U L W h0 π h) (ha : q_M L π a) (w : W (a + 23)) (i0 : 0 ≤ i) (i1 : i < 260) (r1 : 0 ≤ v) (r2 : v ≤ 520) (H : ∀ h', q_U L W h0 π h' → (∀ a' k', vI h' a' k' = vI h a' k') → (∀ a' j, 0 ≤ j → vA h' a' j = if a' = a + 23 ∧ j = i then v else vA h a' j) → qk (f h') Q) : qk (z_b (uI h (a + 23) 0 i v) f) Q := by
  have c := (ha.2.1.2.2.2.2.2.2.1).2.2.2.2.2.1
  obtain ⟨h', e1, e2, e3⟩ := q_uI (n := 260) (t := 0) (i := i) (x := v) T.2.2 ((ha.2.1.2.2.2.2.2.2.1).2.2.2.2.1) (by decide) (by decide) w i0 i1 (by rw [c.1]; exact r1) (by rw [c.2]; exact r2)
  rw [e1]; exact H h' ⟨T.1, T.2.1, e2⟩ e3.1 e3.2
theorem r_Mo_e24 {β : Type} {f : Int32 → Option β} {Q : β → Prop} {i : Int32} (T : q_U L W h0 π h) (ha : q_M L π a) (i0 : 0 ≤ i) (i1 : i < 260) (H : ∀ x, x = vA h (a + 24) i → 0 ≤ x → x ≤ 520 → qk (f x) Q) : qk (z_b (aI h (a + 24) 0 i) f) Q := by
  rw [q_aI (n := 260) T.2.2 ((ha.2.1.2.2.2.2.2.2.1).2.2.2.2.2.2.1) (by decide) (by decide) i0 i1]
  have c := (ha.2.1.2.2.2.2.2.2.1).2.2.2.2.2.2.2.1
  have t := T.2.2.2.2.1 (a + 24) i
  rw [c.1, c.2] at t
  exact H _ rfl t.1 t.2
theorem w_Mo_e24 {β : Type} {f : z_H → Option β} {Q : β → Prop} {i v : Int32} (T : q_U L W h0 π h) (ha : q_M L π a) (w : W (a + 24)) (i0 : 0 ≤ i) (i1 : i < 260) (r1 : 0 ≤ v) (r2 : v ≤ 520) (H : ∀ h', q_U L W h0 π h' → (∀ a' k', vI h' a' k' = vI h a' k') → (∀ a' j, 0 ≤ j → vA h' a' j = if a' = a + 24 ∧ j = i then v else vA h a' j) → qk (f h') Q) : qk (z_b (uI h (a + 24) 0 i v) f) Q := by
  have c := (ha.2.1.2.2.2.2.2.2.1).2.2.2.2.2.2.2.1
  obtain ⟨h', e1, e2, e3⟩ := q_uI (n := 260) (t := 0) (i := i) (x := v) T.2.2 ((ha.2.1.2.2.2.2.2.2.1).2.2.2.2.2.2.1) (by decide) (by decide) w i0 i1 (by rw [c.1]; exact r1) (by rw [c.2]; exact r2)
  rw [e1]; exact H h' ⟨T.1, T.2.1, e2⟩ e3.1 e3.2
theorem r_Mo_e25 {β : Type} {f : Int32 → Option β} {Q : β → Prop} {i : Int32} (T : q_U L W h0 π h) (ha : q_M L π a) (i0 : 0 ≤ i) (i1 : i < 260) (H : ∀ x, x = vA h (a + 25) i → 0 ≤ x → x ≤ 3 → qk (f x) Q) : qk (z_b (aI h (a + 25) 0 i) f) Q := by
  rw [q_aI (n := 260) T.2.2 ((ha.2.1.2.2.2.2.2.2.1).2.2.2.2.2.2.2.2.1) (by decide) (by decide) i0 i1]
  have c := (ha.2.1.2.2.2.2.2.2.1).2.2.2.2.2.2.2.2.2.1
  have t := T.2.2.2.2.1 (a + 25) i
  rw [c.1, c.2] at t
  exact H _ rfl t.1 t.2
theorem w_Mo_e25 {β : Type} {f : z_H → Option β} {Q : β → Prop} {i v : Int32} (T : q_U L W h0 π h) (ha : q_M L π a) (w : W (a + 25)) (i0 : 0 ≤ i) (i1 : i < 260) (r1 : 0 ≤ v) (r2 : v ≤ 3) (H : ∀ h', q_U L W h0 π h' → (∀ a' k', vI h' a' k' = vI h a' k') → (∀ a' j, 0 ≤ j → vA h' a' j = if a' = a + 25 ∧ j = i then v else vA h a' j) → qk (f h') Q) : qk (z_b (uI h (a + 25) 0 i v) f) Q := by
  have c := (ha.2.1.2.2.2.2.2.2.1).2.2.2.2.2.2.2.2.2.1
  obtain ⟨h', e1, e2, e3⟩ := q_uI (n := 260) (t := 0) (i := i) (x := v) T.2.2 ((ha.2.1.2.2.2.2.2.2.1).2.2.2.2.2.2.2.2.1) (by decide) (by decide) w i0 i1 (by rw [c.1]; exact r1) (by rw [c.2]; exact r2)
  rw [e1]; exact H h' ⟨T.1, T.2.1, e2⟩ e3.1 e3.2
theorem r_Mo_e26 {β : Type} {f : Int32 → Option β} {Q : β → Prop} {i : Int32} (T : q_U L W h0 π h) (ha : q_M L π a) (i0 : 0 ≤ i) (i1 : i < 520) (H : ∀ x, x = vA h (a + 26) i → 0 ≤ x → x ≤ 5 → qk (f x) Q) : qk (z_b (aI h (a + 26) 0 i) f) Q := by
  rw [q_aI (n := 520) T.2.2 ((ha.2.1.2.2.2.2.2.2.1).2.2.2.2.2.2.2.2.2.2.1) (by decide) (by decide) i0 i1]
  have c := (ha.2.1.2.2.2.2.2.2.1).2.2.2.2.2.2.2.2.2.2.2
  have t := T.2.2.2.2.1 (a + 26) i
  rw [c.1, c.2] at t
  exact H _ rfl t.1 t.2
theorem w_Mo_e26 {β : Type} {f : z_H → Option β} {Q : β → Prop} {i v : Int32} (T : q_U L W h0 π h) (ha : q_M L π a) (w : W (a + 26)) (i0 : 0 ≤ i) (i1 : i < 520) (r1 : 0 ≤ v) (r2 : v ≤ 5) (H : ∀ h', q_U L W h0 π h' → (∀ a' k', vI h' a' k' = vI h a' k') → (∀ a' j, 0 ≤ j → vA h' a' j = if a' = a + 26 ∧ j = i then v else vA h a' j) → qk (f h') Q) : qk (z_b (uI h (a + 26) 0 i v) f) Q := by
  have c := (ha.2.1.2.2.2.2.2.2.1).2.2.2.2.2.2.2.2.2.2.2
  obtain ⟨h', e1, e2, e3⟩ := q_uI (n := 520) (t := 0) (i := i) (x := v) T.2.2 ((ha.2.1.2.2.2.2.2.2.1).2.2.2.2.2.2.2.2.2.2.1) (by decide) (by decide) w i0 i1 (by rw [c.1]; exact r1) (by rw [c.2]; exact r2)
  rw [e1]; exact H h' ⟨T.1, T.2.1, e2⟩ e3.1 e3.2
theorem r_Mo_e27 {β : Type} {f : Int32 → Option β} {Q : β → Prop} {i : Int32} (T : q_U L W h0 π h) (ha : q_M L π a) (i0 : 0 ≤ i) (i1 : i < 520) (H : ∀ x, x = vA h (a + 27) i → qk (f x) Q) : qk (z_b (aI h (a + 27) 0 i) f) Q := by
  rw [q_aI (n := 520) T.2.2 ((ha.2.1.2.2.2.2.2.2.2.1).1) (by decide) (by decide) i0 i1]
  exact H _ rfl
theorem w_Mo_e27 {β : Type} {f : z_H → Option β} {Q : β → Prop} {i v : Int32} (T : q_U L W h0 π h) (ha : q_M L π a) (w : W (a + 27)) (i0 : 0 ≤ i) (i1 : i < 520) (H : ∀ h', q_U L W h0 π h' → (∀ a' k', vI h' a' k' = vI h a' k') → (∀ a' j, 0 ≤ j → vA h' a' j = if a' = a + 27 ∧ j = i then v else vA h a' j) → qk (f h') Q) : qk (z_b (uI h (a + 27) 0 i v) f) Q := by
  have c := (ha.2.1.2.2.2.2.2.2.2.1).2.1
  obtain ⟨h', e1, e2, e3⟩ := q_uI (n := 520) (t := 0) (i := i) (x := v) T.2.2 ((ha.2.1.2.2.2.2.2.2.2.1).1) (by decide) (by decide) w i0 i1 (by rw [c.1]; exact q_min v) (by rw [c.2]; exact q_max v)
  rw [e1]; exact H h' ⟨T.1, T.2.1, e2⟩ e3.1 e3.2
theorem r_Mo_e28 {β : Type} {f : Int32 → Option β} {Q : β → Prop} {i : Int32} (T : q_U L W h0 π h) (ha : q_M L π a) (i0 : 0 ≤ i) (i1 : i < 600) (H : ∀ x, x = vA h (a + 28) i → (-1) ≤ x → x ≤ 203 → qk (f x) Q) : qk (z_b (aI h (a + 28) 0 i) f) Q := by
  rw [q_aI (n := 600) T.2.2 ((ha.2.1.2.2.2.2.2.2.2.1).2.2.1) (by decide) (by decide) i0 i1]
  have c := (ha.2.1.2.2.2.2.2.2.2.1).2.2.2.1
  have t := T.2.2.2.2.1 (a + 28) i
  rw [c.1, c.2] at t
  exact H _ rfl t.1 t.2
theorem w_Mo_e28 {β : Type} {f : z_H → Option β} {Q : β → Prop} {i v : Int32} (T : q_U L W h0 π h) (ha : q_M L π a) (w : W (a + 28)) (i0 : 0 ≤ i) (i1 : i < 600) (r1 : (-1) ≤ v) (r2 : v ≤ 203) (H : ∀ h', q_U L W h0 π h' → (∀ a' k', vI h' a' k' = vI h a' k') → (∀ a' j, 0 ≤ j → vA h' a' j = if a' = a + 28 ∧ j = i then v else vA h a' j) → qk (f h') Q) : qk (z_b (uI h (a + 28) 0 i v) f) Q := by
  have c := (ha.2.1.2.2.2.2.2.2.2.1).2.2.2.1
  obtain ⟨h', e1, e2, e3⟩ := q_uI (n := 600) (t := 0) (i := i) (x := v) T.2.2 ((ha.2.1.2.2.2.2.2.2.2.1).2.2.1) (by decide) (by decide) w i0 i1 (by rw [c.1]; exact r1) (by rw [c.2]; exact r2)
  rw [e1]; exact H h' ⟨T.1, T.2.1, e2⟩ e3.1 e3.2
theorem r_Mo_e29 {β : Type} {f : Int32 → Option β} {Q : β → Prop} {i : Int32} (T : q_U L W h0 π h) (ha : q_M L π a) (i0 : 0 ≤ i) (i1 : i < 520) (H : ∀ x, x = vA h (a + 29) i → qk (f x) Q) : qk (z_b (aI h (a + 29) 3 i) f) Q := by
  rw [q_aI (n := 520) T.2.2 ((ha.2.1.2.2.2.2.2.2.2.1).2.2.2.2.1) (by decide) (by decide) i0 i1]
  exact H _ rfl
theorem w_Mo_e29 {β : Type} {f : z_H → Option β} {Q : β → Prop} {i v : Int32} (T : q_U L W h0 π h) (ha : q_M L π a) (w : W (a + 29)) (i0 : 0 ≤ i) (i1 : i < 520) (H : ∀ h', q_U L W h0 π h' → (∀ a' k', vI h' a' k' = vI h a' k') → (∀ a' j, 0 ≤ j → vA h' a' j = if a' = a + 29 ∧ j = i then v else vA h a' j) → qk (f h') Q) : qk (z_b (uI h (a + 29) 3 i v) f) Q := by
  have c := (ha.2.1.2.2.2.2.2.2.2.1).2.2.2.2.2.1
  obtain ⟨h', e1, e2, e3⟩ := q_uI (n := 520) (t := 3) (i := i) (x := v) T.2.2 ((ha.2.1.2.2.2.2.2.2.2.1).2.2.2.2.1) (by decide) (by decide) w i0 i1 (by rw [c.1]; exact q_min v) (by rw [c.2]; exact q_max v)
  rw [e1]; exact H h' ⟨T.1, T.2.1, e2⟩ e3.1 e3.2
theorem r_Mo_e30 {β : Type} {f : Int32 → Option β} {Q : β → Prop} {i : Int32} (T : q_U L W h0 π h) (ha : q_M L π a) (i0 : 0 ≤ i) (i1 : i < 260) (H : ∀ x, x = vA h (a + 30) i → qk (f x) Q) : qk (z_b (aI h (a + 30) 3 i) f) Q := by
  rw [q_aI (n := 260) T.2.2 ((ha.2.1.2.2.2.2.2.2.2.1).2.2.2.2.2.2.1) (by decide) (by decide) i0 i1]
  exact H _ rfl
theorem w_Mo_e30 {β : Type} {f : z_H → Option β} {Q : β → Prop} {i v : Int32} (T : q_U L W h0 π h) (ha : q_M L π a) (w : W (a + 30)) (i0 : 0 ≤ i) (i1 : i < 260) (H : ∀ h', q_U L W h0 π h' → (∀ a' k', vI h' a' k' = vI h a' k') → (∀ a' j, 0 ≤ j → vA h' a' j = if a' = a + 30 ∧ j = i then v else vA h a' j) → qk (f h') Q) : qk (z_b (uI h (a + 30) 3 i v) f) Q := by
  have c := (ha.2.1.2.2.2.2.2.2.2.1).2.2.2.2.2.2.2.1
  obtain ⟨h', e1, e2, e3⟩ := q_uI (n := 260) (t := 3) (i := i) (x := v) T.2.2 ((ha.2.1.2.2.2.2.2.2.2.1).2.2.2.2.2.2.1) (by decide) (by decide) w i0 i1 (by rw [c.1]; exact q_min v) (by rw [c.2]; exact q_max v)
  rw [e1]; exact H h' ⟨T.1, T.2.1, e2⟩ e3.1 e3.2
theorem r_Mo_e31 {β : Type} {f : Int32 → Option β} {Q : β → Prop} {i : Int32} (T : q_U L W h0 π h) (ha : q_M L π a) (i0 : 0 ≤ i) (i1 : i < 260) (H : ∀ x, x = vA h (a + 31) i → qk (f x) Q) : qk (z_b (aI h (a + 31) 3 i) f) Q := by
  rw [q_aI (n := 260) T.2.2 ((ha.2.1.2.2.2.2.2.2.2.1).2.2.2.2.2.2.2.2.1) (by decide) (by decide) i0 i1]
  exact H _ rfl
theorem w_Mo_e31 {β : Type} {f : z_H → Option β} {Q : β → Prop} {i v : Int32} (T : q_U L W h0 π h) (ha : q_M L π a) (w : W (a + 31)) (i0 : 0 ≤ i) (i1 : i < 260) (H : ∀ h', q_U L W h0 π h' → (∀ a' k', vI h' a' k' = vI h a' k') → (∀ a' j, 0 ≤ j → vA h' a' j = if a' = a + 31 ∧ j = i then v else vA h a' j) → qk (f h') Q) : qk (z_b (uI h (a + 31) 3 i v) f) Q := by
  have c := (ha.2.1.2.2.2.2.2.2.2.1).2.2.2.2.2.2.2.2.2.1
  obtain ⟨h', e1, e2, e3⟩ := q_uI (n := 260) (t := 3) (i := i) (x := v) T.2.2 ((ha.2.1.2.2.2.2.2.2.2.1).2.2.2.2.2.2.2.2.1) (by decide) (by decide) w i0 i1 (by rw [c.1]; exact q_min v) (by rw [c.2]; exact q_max v)
  rw [e1]; exact H h' ⟨T.1, T.2.1, e2⟩ e3.1 e3.2
theorem r_Mo_e32 {β : Type} {f : Int64 → Option β} {Q : β → Prop} {i : Int32} (T : q_U L W h0 π h) (ha : q_M L π a) (i0 : 0 ≤ i) (i1 : i < 520) (H : ∀ x, qk (f x) Q) : qk (z_b (aL h (a + 32) i) f) Q := by
  obtain ⟨x, e⟩ := q_aL (n := 520) T.2.2 ((ha.2.1.2.2.2.2.2.2.2.1).2.2.2.2.2.2.2.2.2.2.1) (by decide) i0 i1
  rw [e]; exact H x
theorem w_Mo_e32 {β : Type} {f : z_H → Option β} {Q : β → Prop} {i : Int32} {v : Int64} (T : q_U L W h0 π h) (ha : q_M L π a) (w : W (a + 32)) (i0 : 0 ≤ i) (i1 : i < 520) (H : ∀ h', q_U L W h0 π h' → (∀ a' k', vI h' a' k' = vI h a' k') → (∀ a' j, vA h' a' j = vA h a' j) → qk (f h') Q) : qk (z_b (uL h (a + 32) i v) f) Q := by
  obtain ⟨h', e1, e2, e3⟩ := q_uL (n := 520) (i := i) (x := v) T.2.2 ((ha.2.1.2.2.2.2.2.2.2.1).2.2.2.2.2.2.2.2.2.2.1) (by decide) w i0 i1
  rw [e1]; exact H h' ⟨T.1, T.2.1, e2⟩ e3.1 e3.2
theorem r_Mo_e33 {β : Type} {f : Int64 → Option β} {Q : β → Prop} {i : Int32} (T : q_U L W h0 π h) (ha : q_M L π a) (i0 : 0 ≤ i) (i1 : i < 520) (H : ∀ x, qk (f x) Q) : qk (z_b (aL h (a + 33) i) f) Q := by
  obtain ⟨x, e⟩ := q_aL (n := 520) T.2.2 ((ha.2.1.2.2.2.2.2.2.2.1).2.2.2.2.2.2.2.2.2.2.2) (by decide) i0 i1
  rw [e]; exact H x
theorem w_Mo_e33 {β : Type} {f : z_H → Option β} {Q : β → Prop} {i : Int32} {v : Int64} (T : q_U L W h0 π h) (ha : q_M L π a) (w : W (a + 33)) (i0 : 0 ≤ i) (i1 : i < 520) (H : ∀ h', q_U L W h0 π h' → (∀ a' k', vI h' a' k' = vI h a' k') → (∀ a' j, vA h' a' j = vA h a' j) → qk (f h') Q) : qk (z_b (uL h (a + 33) i v) f) Q := by
  obtain ⟨h', e1, e2, e3⟩ := q_uL (n := 520) (i := i) (x := v) T.2.2 ((ha.2.1.2.2.2.2.2.2.2.1).2.2.2.2.2.2.2.2.2.2.2) (by decide) w i0 i1
  rw [e1]; exact H h' ⟨T.1, T.2.1, e2⟩ e3.1 e3.2
theorem r_Mo_e34 {β : Type} {f : Int32 → Option β} {Q : β → Prop} {i : Int32} (T : q_U L W h0 π h) (ha : q_M L π a) (i0 : 0 ≤ i) (i1 : i < 26) (H : ∀ x, x = vA h (a + 34) i → (-1) ≤ x → x ≤ 79 → qk (f x) Q) : qk (z_b (aI h (a + 34) 0 i) f) Q := by
  rw [q_aI (n := 26) T.2.2 ((ha.2.1.2.2.2.2.2.2.2.2.1).1) (by decide) (by decide) i0 i1]
  have c := (ha.2.1.2.2.2.2.2.2.2.2.1).2.1
  have t := T.2.2.2.2.1 (a + 34) i
  rw [c.1, c.2] at t
  exact H _ rfl t.1 t.2
theorem w_Mo_e34 {β : Type} {f : z_H → Option β} {Q : β → Prop} {i v : Int32} (T : q_U L W h0 π h) (ha : q_M L π a) (w : W (a + 34)) (i0 : 0 ≤ i) (i1 : i < 26) (r1 : (-1) ≤ v) (r2 : v ≤ 79) (H : ∀ h', q_U L W h0 π h' → (∀ a' k', vI h' a' k' = vI h a' k') → (∀ a' j, 0 ≤ j → vA h' a' j = if a' = a + 34 ∧ j = i then v else vA h a' j) → qk (f h') Q) : qk (z_b (uI h (a + 34) 0 i v) f) Q := by
  have c := (ha.2.1.2.2.2.2.2.2.2.2.1).2.1
  obtain ⟨h', e1, e2, e3⟩ := q_uI (n := 26) (t := 0) (i := i) (x := v) T.2.2 ((ha.2.1.2.2.2.2.2.2.2.2.1).1) (by decide) (by decide) w i0 i1 (by rw [c.1]; exact r1) (by rw [c.2]; exact r2)
  rw [e1]; exact H h' ⟨T.1, T.2.1, e2⟩ e3.1 e3.2
theorem r_Mo_e35 {β : Type} {f : Int32 → Option β} {Q : β → Prop} {i : Int32} (T : q_U L W h0 π h) (ha : q_M L π a) (i0 : 0 ≤ i) (i1 : i < 5) (H : ∀ x, x = vA h (a + 35) i → 0 ≤ x → x ≤ 79 → qk (f x) Q) : qk (z_b (aI h (a + 35) 0 i) f) Q := by
  rw [q_aI (n := 5) T.2.2 ((ha.2.1.2.2.2.2.2.2.2.2.1).2.2.1) (by decide) (by decide) i0 i1]
  have c := (ha.2.1.2.2.2.2.2.2.2.2.1).2.2.2.1
  have t := T.2.2.2.2.1 (a + 35) i
  rw [c.1, c.2] at t
  exact H _ rfl t.1 t.2
theorem w_Mo_e35 {β : Type} {f : z_H → Option β} {Q : β → Prop} {i v : Int32} (T : q_U L W h0 π h) (ha : q_M L π a) (w : W (a + 35)) (i0 : 0 ≤ i) (i1 : i < 5) (r1 : 0 ≤ v) (r2 : v ≤ 79) (H : ∀ h', q_U L W h0 π h' → (∀ a' k', vI h' a' k' = vI h a' k') → (∀ a' j, 0 ≤ j → vA h' a' j = if a' = a + 35 ∧ j = i then v else vA h a' j) → qk (f h') Q) : qk (z_b (uI h (a + 35) 0 i v) f) Q := by
  have c := (ha.2.1.2.2.2.2.2.2.2.2.1).2.2.2.1
  obtain ⟨h', e1, e2, e3⟩ := q_uI (n := 5) (t := 0) (i := i) (x := v) T.2.2 ((ha.2.1.2.2.2.2.2.2.2.2.1).2.2.1) (by decide) (by decide) w i0 i1 (by rw [c.1]; exact r1) (by rw [c.2]; exact r2)
  rw [e1]; exact H h' ⟨T.1, T.2.1, e2⟩ e3.1 e3.2
theorem r_Mo_e36 {β : Type} {f : Int32 → Option β} {Q : β → Prop} {i : Int32} (T : q_U L W h0 π h) (ha : q_M L π a) (i0 : 0 ≤ i) (i1 : i < 64) (H : ∀ x, x = vA h (a + 36) i → qk (f x) Q) : qk (z_b (aI h (a + 36) 0 i) f) Q := by
  rw [q_aI (n := 64) T.2.2 ((ha.2.1.2.2.2.2.2.2.2.2.1).2.2.2.2.1) (by decide) (by decide) i0 i1]
  exact H _ rfl
theorem w_Mo_e36 {β : Type} {f : z_H → Option β} {Q : β → Prop} {i v : Int32} (T : q_U L W h0 π h) (ha : q_M L π a) (w : W (a + 36)) (i0 : 0 ≤ i) (i1 : i < 64) (H : ∀ h', q_U L W h0 π h' → (∀ a' k', vI h' a' k' = vI h a' k') → (∀ a' j, 0 ≤ j → vA h' a' j = if a' = a + 36 ∧ j = i then v else vA h a' j) → qk (f h') Q) : qk (z_b (uI h (a + 36) 0 i v) f) Q := by
  have c := (ha.2.1.2.2.2.2.2.2.2.2.1).2.2.2.2.2.1
  obtain ⟨h', e1, e2, e3⟩ := q_uI (n := 64) (t := 0) (i := i) (x := v) T.2.2 ((ha.2.1.2.2.2.2.2.2.2.2.1).2.2.2.2.1) (by decide) (by decide) w i0 i1 (by rw [c.1]; exact q_min v) (by rw [c.2]; exact q_max v)
  rw [e1]; exact H h' ⟨T.1, T.2.1, e2⟩ e3.1 e3.2
theorem r_Mo_e37 {β : Type} {f : Int32 → Option β} {Q : β → Prop} {i : Int32} (T : q_U L W h0 π h) (ha : q_M L π a) (i0 : 0 ≤ i) (i1 : i < 4) (H : ∀ x, x = vA h (a + 37) i → (-1) ≤ x → x ≤ 60 → qk (f x) Q) : qk (z_b (aI h (a + 37) 0 i) f) Q := by
  rw [q_aI (n := 4) T.2.2 ((ha.2.1.2.2.2.2.2.2.2.2.1).2.2.2.2.2.2.1) (by decide) (by decide) i0 i1]
  have c := (ha.2.1.2.2.2.2.2.2.2.2.1).2.2.2.2.2.2.2.1
  have t := T.2.2.2.2.1 (a + 37) i
  rw [c.1, c.2] at t
  exact H _ rfl t.1 t.2
theorem w_Mo_e37 {β : Type} {f : z_H → Option β} {Q : β → Prop} {i v : Int32} (T : q_U L W h0 π h) (ha : q_M L π a) (w : W (a + 37)) (i0 : 1 ≤ i) (i1 : i < 4) (r1 : (-1) ≤ v) (r2 : v ≤ 60) (H : ∀ h', q_U L W h0 π h' → (∀ a' k', vI h' a' k' = vI h a' k') → (∀ a' j, 0 ≤ j → vA h' a' j = if a' = a + 37 ∧ j = i then v else vA h a' j) → q_rst a h' = q_rst a h → qk (f h') Q) : qk (z_b (uI h (a + 37) 0 i v) f) Q := by
  have c := (ha.2.1.2.2.2.2.2.2.2.2.1).2.2.2.2.2.2.2.1
  obtain ⟨h', e1, e2, e3⟩ := q_uI (n := 4) (t := 0) (i := i) (x := v) T.2.2 ((ha.2.1.2.2.2.2.2.2.2.2.1).2.2.2.2.2.2.1) (by decide) (by decide) w (Int32.le_trans (by decide) i0) i1 (by rw [c.1]; exact r1) (by rw [c.2]; exact r2)
  have ed := q_rst_37 T.2.2 ha.1 ((ha.2.1.2.2.2.2.2.2.2.2.1).2.2.2.2.2.2.1) ((ha.2.1.2.2.2.2.2.2.2.2.1).2.2.2.2.2.2.2.2.1) i0 i1 e1
  rw [e1]; exact H h' ⟨T.1, T.2.1, e2⟩ e3.1 e3.2 ed
theorem r_Mo_e38 {β : Type} {f : Int32 → Option β} {Q : β → Prop} {i : Int32} (T : q_U L W h0 π h) (ha : q_M L π a) (i0 : 0 ≤ i) (i1 : i < 4) (H : ∀ x, x = vA h (a + 38) i → (-1) ≤ x → x ≤ 60 → qk (f x) Q) : qk (z_b (aI h (a + 38) 0 i) f) Q := by
  rw [q_aI (n := 4) T.2.2 ((ha.2.1.2.2.2.2.2.2.2.2.1).2.2.2.2.2.2.2.2.1) (by decide) (by decide) i0 i1]
  have c := (ha.2.1.2.2.2.2.2.2.2.2.1).2.2.2.2.2.2.2.2.2.1
  have t := T.2.2.2.2.1 (a + 38) i
  rw [c.1, c.2] at t
  exact H _ rfl t.1 t.2
theorem w_Mo_e38 {β : Type} {f : z_H → Option β} {Q : β → Prop} {i v : Int32} (T : q_U L W h0 π h) (ha : q_M L π a) (w : W (a + 38)) (i0 : 1 ≤ i) (i1 : i < 4) (r1 : (-1) ≤ v) (r2 : v ≤ 60) (H : ∀ h', q_U L W h0 π h' → (∀ a' k', vI h' a' k' = vI h a' k') → (∀ a' j, 0 ≤ j → vA h' a' j = if a' = a + 38 ∧ j = i then v else vA h a' j) → q_rst a h' = q_rst a h → qk (f h') Q) : qk (z_b (uI h (a + 38) 0 i v) f) Q := by
  have c := (ha.2.1.2.2.2.2.2.2.2.2.1).2.2.2.2.2.2.2.2.2.1
  obtain ⟨h', e1, e2, e3⟩ := q_uI (n := 4) (t := 0) (i := i) (x := v) T.2.2 ((ha.2.1.2.2.2.2.2.2.2.2.1).2.2.2.2.2.2.2.2.1) (by decide) (by decide) w (Int32.le_trans (by decide) i0) i1 (by rw [c.1]; exact r1) (by rw [c.2]; exact r2)
  have ed := q_rst_38 T.2.2 ha.1 ((ha.2.1.2.2.2.2.2.2.2.2.1).2.2.2.2.2.2.1) ((ha.2.1.2.2.2.2.2.2.2.2.1).2.2.2.2.2.2.2.2.1) i0 i1 e1
  rw [e1]; exact H h' ⟨T.1, T.2.1, e2⟩ e3.1 e3.2 ed
theorem r_Mo_e39 {β : Type} {f : Int32 → Option β} {Q : β → Prop} {i : Int32} (T : q_U L W h0 π h) (ha : q_M L π a) (i0 : 0 ≤ i) (i1 : i < 64) (H : ∀ x, x = vA h (a + 39) i → qk (f x) Q) : qk (z_b (aI h (a + 39) 0 i) f) Q := by
  rw [q_aI (n := 64) T.2.2 ((ha.2.1.2.2.2.2.2.2.2.2.1).2.2.2.2.2.2.2.2.2.2.1) (by decide) (by decide) i0 i1]
  exact H _ rfl
theorem w_Mo_e39 {β : Type} {f : z_H → Option β} {Q : β → Prop} {i v : Int32} (T : q_U L W h0 π h) (ha : q_M L π a) (w : W (a + 39)) (i0 : 0 ≤ i) (i1 : i < 64) (H : ∀ h', q_U L W h0 π h' → (∀ a' k', vI h' a' k' = vI h a' k') → (∀ a' j, 0 ≤ j → vA h' a' j = if a' = a + 39 ∧ j = i then v else vA h a' j) → qk (f h') Q) : qk (z_b (uI h (a + 39) 0 i v) f) Q := by
  have c := (ha.2.1.2.2.2.2.2.2.2.2.1).2.2.2.2.2.2.2.2.2.2.2
  obtain ⟨h', e1, e2, e3⟩ := q_uI (n := 64) (t := 0) (i := i) (x := v) T.2.2 ((ha.2.1.2.2.2.2.2.2.2.2.1).2.2.2.2.2.2.2.2.2.2.1) (by decide) (by decide) w i0 i1 (by rw [c.1]; exact q_min v) (by rw [c.2]; exact q_max v)
  rw [e1]; exact H h' ⟨T.1, T.2.1, e2⟩ e3.1 e3.2
theorem r_Mo_e40 {β : Type} {f : Int32 → Option β} {Q : β → Prop} {i : Int32} (T : q_U L W h0 π h) (ha : q_M L π a) (i0 : 0 ≤ i) (i1 : i < 64) (H : ∀ x, x = vA h (a + 40) i → qk (f x) Q) : qk (z_b (aI h (a + 40) 0 i) f) Q := by
  rw [q_aI (n := 64) T.2.2 ((ha.2.1.2.2.2.2.2.2.2.2.2).1) (by decide) (by decide) i0 i1]
  exact H _ rfl
theorem w_Mo_e40 {β : Type} {f : z_H → Option β} {Q : β → Prop} {i v : Int32} (T : q_U L W h0 π h) (ha : q_M L π a) (w : W (a + 40)) (i0 : 0 ≤ i) (i1 : i < 64) (H : ∀ h', q_U L W h0 π h' → (∀ a' k', vI h' a' k' = vI h a' k') → (∀ a' j, 0 ≤ j → vA h' a' j = if a' = a + 40 ∧ j = i then v else vA h a' j) → qk (f h') Q) : qk (z_b (uI h (a + 40) 0 i v) f) Q := by
  have c := (ha.2.1.2.2.2.2.2.2.2.2.2).2.1
  obtain ⟨h', e1, e2, e3⟩ := q_uI (n := 64) (t := 0) (i := i) (x := v) T.2.2 ((ha.2.1.2.2.2.2.2.2.2.2.2).1) (by decide) (by decide) w i0 i1 (by rw [c.1]; exact q_min v) (by rw [c.2]; exact q_max v)
  rw [e1]; exact H h' ⟨T.1, T.2.1, e2⟩ e3.1 e3.2
theorem r_Mo_e41 {β : Type} {f : Int32 → Option β} {Q : β → Prop} {i : Int32} (T : q_U L W h0 π h) (ha : q_M L π a) (i0 : 0 ≤ i) (i1 : i < 400) (H : ∀ x, x = vA h (a + 41) i → qk (f x) Q) : qk (z_b (aI h (a + 41) 0 i) f) Q := by
  rw [q_aI (n := 400) T.2.2 ((ha.2.1.2.2.2.2.2.2.2.2.2).2.2.1) (by decide) (by decide) i0 i1]
  exact H _ rfl
theorem w_Mo_e41 {β : Type} {f : z_H → Option β} {Q : β → Prop} {i v : Int32} (T : q_U L W h0 π h) (ha : q_M L π a) (w : W (a + 41)) (i0 : 0 ≤ i) (i1 : i < 400) (H : ∀ h', q_U L W h0 π h' → (∀ a' k', vI h' a' k' = vI h a' k') → (∀ a' j, 0 ≤ j → vA h' a' j = if a' = a + 41 ∧ j = i then v else vA h a' j) → qk (f h') Q) : qk (z_b (uI h (a + 41) 0 i v) f) Q := by
  have c := (ha.2.1.2.2.2.2.2.2.2.2.2).2.2.2.1
  obtain ⟨h', e1, e2, e3⟩ := q_uI (n := 400) (t := 0) (i := i) (x := v) T.2.2 ((ha.2.1.2.2.2.2.2.2.2.2.2).2.2.1) (by decide) (by decide) w i0 i1 (by rw [c.1]; exact q_min v) (by rw [c.2]; exact q_max v)
  rw [e1]; exact H h' ⟨T.1, T.2.1, e2⟩ e3.1 e3.2
theorem r_Mo_e42 {β : Type} {f : Int32 → Option β} {Q : β → Prop} {i : Int32} (T : q_U L W h0 π h) (ha : q_M L π a) (i0 : 0 ≤ i) (i1 : i < 200) (H : ∀ x, x = vA h (a + 42) i → qk (f x) Q) : qk (z_b (aI h (a + 42) 0 i) f) Q := by
  rw [q_aI (n := 200) T.2.2 ((ha.2.1.2.2.2.2.2.2.2.2.2).2.2.2.2.1) (by decide) (by decide) i0 i1]
  exact H _ rfl
theorem w_Mo_e42 {β : Type} {f : z_H → Option β} {Q : β → Prop} {i v : Int32} (T : q_U L W h0 π h) (ha : q_M L π a) (w : W (a + 42)) (i0 : 0 ≤ i) (i1 : i < 200) (H : ∀ h', q_U L W h0 π h' → (∀ a' k', vI h' a' k' = vI h a' k') → (∀ a' j, 0 ≤ j → vA h' a' j = if a' = a + 42 ∧ j = i then v else vA h a' j) → qk (f h') Q) : qk (z_b (uI h (a + 42) 0 i v) f) Q := by
  have c := (ha.2.1.2.2.2.2.2.2.2.2.2).2.2.2.2.2.1
  obtain ⟨h', e1, e2, e3⟩ := q_uI (n := 200) (t := 0) (i := i) (x := v) T.2.2 ((ha.2.1.2.2.2.2.2.2.2.2.2).2.2.2.2.1) (by decide) (by decide) w i0 i1 (by rw [c.1]; exact q_min v) (by rw [c.2]; exact q_max v)
  rw [e1]; exact H h' ⟨T.1, T.2.1, e2⟩ e3.1 e3.2
theorem r_Mo_e43 {β : Type} {f : Int32 → Option β} {Q : β → Prop} {i : Int32} (T : q_U L W h0 π h) (ha : q_M L π a) (i0 : 0 ≤ i) (i1 : i < 600) (H : ∀ x, x = vA h (a + 43) i → qk (f x) Q) : qk (z_b (aI h (a + 43) 0 i) f) Q := by
  rw [q_aI (n := 600) T.2.2 ((ha.2.1.2.2.2.2.2.2.2.2.2).2.2.2.2.2.2.1) (by decide) (by decide) i0 i1]
  exact H _ rfl
theorem w_Mo_e43 {β : Type} {f : z_H → Option β} {Q : β → Prop} {i v : Int32} (T : q_U L W h0 π h) (ha : q_M L π a) (w : W (a + 43)) (i0 : 0 ≤ i) (i1 : i < 600) (H : ∀ h', q_U L W h0 π h' → (∀ a' k', vI h' a' k' = vI h a' k') → (∀ a' j, 0 ≤ j → vA h' a' j = if a' = a + 43 ∧ j = i then v else vA h a' j) → qk (f h') Q) : qk (z_b (uI h (a + 43) 0 i v) f) Q := by
  have c := (ha.2.1.2.2.2.2.2.2.2.2.2).2.2.2.2.2.2.2.1
  obtain ⟨h', e1, e2, e3⟩ := q_uI (n := 600) (t := 0) (i := i) (x := v) T.2.2 ((ha.2.1.2.2.2.2.2.2.2.2.2).2.2.2.2.2.2.1) (by decide) (by decide) w i0 i1 (by rw [c.1]; exact q_min v) (by rw [c.2]; exact q_max v)
  rw [e1]; exact H h' ⟨T.1, T.2.1, e2⟩ e3.1 e3.2
theorem r_Mo_e44 {β : Type} {f : Int32 → Option β} {Q : β → Prop} {i : Int32} (T : q_U L W h0 π h) (ha : q_M L π a) (i0 : 0 ≤ i) (i1 : i < 40) (H : ∀ x, x = vA h (a + 44) i → qk (f x) Q) : qk (z_b (aI h (a + 44) 0 i) f) Q := by
  rw [q_aI (n := 40) T.2.2 ((ha.2.1.2.2.2.2.2.2.2.2.2).2.2.2.2.2.2.2.2.1) (by decide) (by decide) i0 i1]
  exact H _ rfl
theorem w_Mo_e44 {β : Type} {f : z_H → Option β} {Q : β → Prop} {i v : Int32} (T : q_U L W h0 π h) (ha : q_M L π a) (w : W (a + 44)) (i0 : 0 ≤ i) (i1 : i < 40) (H : ∀ h', q_U L W h0 π h' → (∀ a' k', vI h' a' k' = vI h a' k') → (∀ a' j, 0 ≤ j → vA h' a' j = if a' = a + 44 ∧ j = i then v else vA h a' j) → qk (f h') Q) : qk (z_b (uI h (a + 44) 0 i v) f) Q := by
  have c := (ha.2.1.2.2.2.2.2.2.2.2.2).2.2.2.2.2.2.2.2.2.1
  obtain ⟨h', e1, e2, e3⟩ := q_uI (n := 40) (t := 0) (i := i) (x := v) T.2.2 ((ha.2.1.2.2.2.2.2.2.2.2.2).2.2.2.2.2.2.2.2.1) (by decide) (by decide) w i0 i1 (by rw [c.1]; exact q_min v) (by rw [c.2]; exact q_max v)
  rw [e1]; exact H h' ⟨T.1, T.2.1, e2⟩ e3.1 e3.2
theorem r_Mo_e45 {β : Type} {f : Int32 → Option β} {Q : β → Prop} {i : Int32} (T : q_U L W h0 π h) (ha : q_M L π a) (i0 : 0 ≤ i) (i1 : i < 40) (H : ∀ x, x = vA h (a + 45) i → qk (f x) Q) : qk (z_b (aI h (a + 45) 3 i) f) Q := by
  rw [q_aI (n := 40) T.2.2 ((ha.2.1.2.2.2.2.2.2.2.2.2).2.2.2.2.2.2.2.2.2.2.1) (by decide) (by decide) i0 i1]
  exact H _ rfl
theorem w_Mo_e45 {β : Type} {f : z_H → Option β} {Q : β → Prop} {i v : Int32} (T : q_U L W h0 π h) (ha : q_M L π a) (w : W (a + 45)) (i0 : 0 ≤ i) (i1 : i < 40) (H : ∀ h', q_U L W h0 π h' → (∀ a' k', vI h' a' k' = vI h a' k') → (∀ a' j, 0 ≤ j → vA h' a' j = if a' = a + 45 ∧ j = i then v else vA h a' j) → qk (f h') Q) : qk (z_b (uI h (a + 45) 3 i v) f) Q := by
  have c := (ha.2.1.2.2.2.2.2.2.2.2.2).2.2.2.2.2.2.2.2.2.2.2
  obtain ⟨h', e1, e2, e3⟩ := q_uI (n := 40) (t := 3) (i := i) (x := v) T.2.2 ((ha.2.1.2.2.2.2.2.2.2.2.2).2.2.2.2.2.2.2.2.2.2.1) (by decide) (by decide) w i0 i1 (by rw [c.1]; exact q_min v) (by rw [c.2]; exact q_max v)
  rw [e1]; exact H h' ⟨T.1, T.2.1, e2⟩ e3.1 e3.2
theorem g_Mo_3 (T : q_U L W h0 π h) (ha : q_M L π a) : 0 ≤ vI h a 3 ∧ vI h a 3 ≤ 240 := by
  have c := (ha.2.1.1).1
  have t := T.2.2.2.1 a 3
  rwa [c.1, c.2] at t
theorem g_Mo_4 (T : q_U L W h0 π h) (ha : q_M L π a) : 0 ≤ vI h a 4 ∧ vI h a 4 ≤ 12 := by
  have c := (ha.2.1.1).2.1
  have t := T.2.2.2.1 a 4
  rwa [c.1, c.2] at t
theorem g_Mo_7 (T : q_U L W h0 π h) (ha : q_M L π a) : 0 ≤ vI h a 7 ∧ vI h a 7 ≤ 1 := by
  have c := (ha.2.1.1).2.2.2.2.1
  have t := T.2.2.2.1 a 7
  rwa [c.1, c.2] at t
theorem g_Mo_41 (T : q_U L W h0 π h) (ha : q_M L π a) : 0 ≤ vI h a 41 ∧ vI h a 41 ≤ 250 := by
  have c := (ha.2.1.1).2.2.2.2.2.2.1
  have t := T.2.2.2.1 a 41
  rwa [c.1, c.2] at t
theorem g_Mo_42 (T : q_U L W h0 π h) (ha : q_M L π a) : 0 ≤ vI h a 42 ∧ vI h a 42 ≤ 1 := by
  have c := (ha.2.1.1).2.2.2.2.2.2.2.1
  have t := T.2.2.2.1 a 42
  rwa [c.1, c.2] at t
theorem g_Mo_43 (T : q_U L W h0 π h) (ha : q_M L π a) : 0 ≤ vI h a 43 ∧ vI h a 43 ≤ 4 := by
  have c := (ha.2.1.1).2.2.2.2.2.2.2.2.1
  have t := T.2.2.2.1 a 43
  rwa [c.1, c.2] at t
theorem g_Mo_44 (T : q_U L W h0 π h) (ha : q_M L π a) : 0 ≤ vI h a 44 ∧ vI h a 44 ≤ 3 := by
  have c := (ha.2.1.1).2.2.2.2.2.2.2.2.2.1
  have t := T.2.2.2.1 a 44
  rwa [c.1, c.2] at t
theorem g_Mo_47 (T : q_U L W h0 π h) (ha : q_M L π a) : 0 ≤ vI h a 47 ∧ vI h a 47 ≤ 259 := by
  have c := (ha.2.1.2.1).1
  have t := T.2.2.2.1 a 47
  rwa [c.1, c.2] at t
theorem g_Mo_54 (T : q_U L W h0 π h) (ha : q_M L π a) : 0 ≤ vI h a 54 ∧ vI h a 54 ≤ 60 := by
  have c := (ha.2.1.2.1).2.2.2.2.1
  have t := T.2.2.2.1 a 54
  rwa [c.1, c.2] at t
theorem g_Mo_56 (T : q_U L W h0 π h) (ha : q_M L π a) : 0 ≤ vI h a 56 ∧ vI h a 56 ≤ 60 := by
  have c := (ha.2.1.2.1).2.2.2.2.2.2.1
  have t := T.2.2.2.1 a 56
  rwa [c.1, c.2] at t
theorem g_Mo_57 (T : q_U L W h0 π h) (ha : q_M L π a) : (-1) ≤ vI h a 57 ∧ vI h a 57 ≤ 60 := by
  have c := (ha.2.1.2.1).2.2.2.2.2.2.2.1
  have t := T.2.2.2.1 a 57
  rwa [c.1, c.2] at t
theorem g_Mo_65 (T : q_U L W h0 π h) (ha : q_M L π a) : 0 ≤ vI h a 65 ∧ vI h a 65 ≤ 60 := by
  have c := (ha.2.1.2.1).2.2.2.2.2.2.2.2.1
  have t := T.2.2.2.1 a 65
  rwa [c.1, c.2] at t
theorem g_Mo_66 (T : q_U L W h0 π h) (ha : q_M L π a) : 0 ≤ vI h a 66 ∧ vI h a 66 ≤ 60 := by
  have c := (ha.2.1.2.1).2.2.2.2.2.2.2.2.2.1
  have t := T.2.2.2.1 a 66
  rwa [c.1, c.2] at t
theorem g_Mo_67 (T : q_U L W h0 π h) (ha : q_M L π a) : 0 ≤ vI h a 67 ∧ vI h a 67 ≤ 400 := by
  have c := (ha.2.1.2.1).2.2.2.2.2.2.2.2.2.2.1
  have t := T.2.2.2.1 a 67
  rwa [c.1, c.2] at t
theorem g_Mo_68 (T : q_U L W h0 π h) (ha : q_M L π a) : 0 ≤ vI h a 68 ∧ vI h a 68 ≤ 200 := by
  have c := (ha.2.1.2.1).2.2.2.2.2.2.2.2.2.2.2
  have t := T.2.2.2.1 a 68
  rwa [c.1, c.2] at t
theorem g_Mo_69 (T : q_U L W h0 π h) (ha : q_M L π a) : 0 ≤ vI h a 69 ∧ vI h a 69 ≤ 600 := by
  have c := (ha.2.1.2.2.1).1
  have t := T.2.2.2.1 a 69
  rwa [c.1, c.2] at t
theorem g_Mo_70 (T : q_U L W h0 π h) (ha : q_M L π a) : 0 ≤ vI h a 70 ∧ vI h a 70 ≤ 12 := by
  have c := (ha.2.1.2.2.1).2.1
  have t := T.2.2.2.1 a 70
  rwa [c.1, c.2] at t
theorem g_Mo_71 (T : q_U L W h0 π h) (ha : q_M L π a) : 0 ≤ vI h a 71 ∧ vI h a 71 ≤ 200 := by
  have c := (ha.2.1.2.2.1).2.2.1
  have t := T.2.2.2.1 a 71
  rwa [c.1, c.2] at t
theorem g_Mo_e1 (T : q_U L W h0 π h) (ha : q_M L π a) (i : Int32) : 0 ≤ vA h (a + 1) i ∧ vA h (a + 1) i ≤ 126 := by
  have c := (ha.2.1.2.2.1).2.2.2.2.2.2.2.2.2.1
  have t := T.2.2.2.2.1 (a + 1) i
  rwa [c.1, c.2] at t
theorem g_Mo_e2 (T : q_U L W h0 π h) (ha : q_M L π a) (i : Int32) : 0 ≤ vA h (a + 2) i ∧ vA h (a + 2) i ≤ 24 := by
  have c := (ha.2.1.2.2.1).2.2.2.2.2.2.2.2.2.2.2
  have t := T.2.2.2.2.1 (a + 2) i
  rwa [c.1, c.2] at t
theorem g_Mo_e5 (T : q_U L W h0 π h) (ha : q_M L π a) (i : Int32) : 0 ≤ vA h (a + 5) i ∧ vA h (a + 5) i ≤ 3 := by
  have c := (ha.2.1.2.2.2.1).2.2.2.2.2.1
  have t := T.2.2.2.2.1 (a + 5) i
  rwa [c.1, c.2] at t
theorem g_Mo_e6 (T : q_U L W h0 π h) (ha : q_M L π a) (i : Int32) : 0 ≤ vA h (a + 6) i ∧ vA h (a + 6) i ≤ 259 := by
  have c := (ha.2.1.2.2.2.1).2.2.2.2.2.2.2.1
  have t := T.2.2.2.2.1 (a + 6) i
  rwa [c.1, c.2] at t
theorem g_Mo_e7 (T : q_U L W h0 π h) (ha : q_M L π a) (i : Int32) : 0 ≤ vA h (a + 7) i ∧ vA h (a + 7) i ≤ 3 := by
  have c := (ha.2.1.2.2.2.1).2.2.2.2.2.2.2.2.2.1
  have t := T.2.2.2.2.1 (a + 7) i
  rwa [c.1, c.2] at t
theorem g_Mo_e8 (T : q_U L W h0 π h) (ha : q_M L π a) (i : Int32) : 0 ≤ vA h (a + 8) i ∧ vA h (a + 8) i ≤ 259 := by
  have c := (ha.2.1.2.2.2.1).2.2.2.2.2.2.2.2.2.2.2
  have t := T.2.2.2.2.1 (a + 8) i
  rwa [c.1, c.2] at t
theorem g_Mo_e9 (T : q_U L W h0 π h) (ha : q_M L π a) (i : Int32) : 0 ≤ vA h (a + 9) i ∧ vA h (a + 9) i ≤ 259 := by
  have c := (ha.2.1.2.2.2.2.1).2.1
  have t := T.2.2.2.2.1 (a + 9) i
  rwa [c.1, c.2] at t
theorem g_Mo_e10 (T : q_U L W h0 π h) (ha : q_M L π a) (i : Int32) : 0 ≤ vA h (a + 10) i ∧ vA h (a + 10) i ≤ 600 := by
  have c := (ha.2.1.2.2.2.2.1).2.2.2.1
  have t := T.2.2.2.2.1 (a + 10) i
  rwa [c.1, c.2] at t
theorem g_Mo_e11 (T : q_U L W h0 π h) (ha : q_M L π a) (i : Int32) : 0 ≤ vA h (a + 11) i ∧ vA h (a + 11) i ≤ 600 := by
  have c := (ha.2.1.2.2.2.2.1).2.2.2.2.2.1
  have t := T.2.2.2.2.1 (a + 11) i
  rwa [c.1, c.2] at t
theorem g_Mo_e12 (T : q_U L W h0 π h) (ha : q_M L π a) (i : Int32) : 0 ≤ vA h (a + 12) i ∧ vA h (a + 12) i ≤ 600 := by
  have c := (ha.2.1.2.2.2.2.1).2.2.2.2.2.2.2.1
  have t := T.2.2.2.2.1 (a + 12) i
  rwa [c.1, c.2] at t
theorem g_Mo_e13 (T : q_U L W h0 π h) (ha : q_M L π a) (i : Int32) : (-1) ≤ vA h (a + 13) i ∧ vA h (a + 13) i ≤ 40 := by
  have c := (ha.2.1.2.2.2.2.1).2.2.2.2.2.2.2.2.2.1
  have t := T.2.2.2.2.1 (a + 13) i
  rwa [c.1, c.2] at t
theorem g_Mo_e19 (T : q_U L W h0 π h) (ha : q_M L π a) (i : Int32) : 0 ≤ vA h (a + 19) i ∧ vA h (a + 19) i ≤ 40 := by
  have c := (ha.2.1.2.2.2.2.2.1).2.2.2.2.2.2.2.2.2.1
  have t := T.2.2.2.2.1 (a + 19) i
  rwa [c.1, c.2] at t
theorem g_Mo_e20 (T : q_U L W h0 π h) (ha : q_M L π a) (i : Int32) : 0 ≤ vA h (a + 20) i ∧ vA h (a + 20) i ≤ 130 := by
  have c := (ha.2.1.2.2.2.2.2.1).2.2.2.2.2.2.2.2.2.2.2
  have t := T.2.2.2.2.1 (a + 20) i
  rwa [c.1, c.2] at t
theorem g_Mo_e21 (T : q_U L W h0 π h) (ha : q_M L π a) (i : Int32) : 0 ≤ vA h (a + 21) i ∧ vA h (a + 21) i ≤ 259 := by
  have c := (ha.2.1.2.2.2.2.2.2.1).2.1
  have t := T.2.2.2.2.1 (a + 21) i
  rwa [c.1, c.2] at t
theorem g_Mo_e22 (T : q_U L W h0 π h) (ha : q_M L π a) (i : Int32) : 0 ≤ vA h (a + 22) i ∧ vA h (a + 22) i ≤ 299 := by
  have c := (ha.2.1.2.2.2.2.2.2.1).2.2.2.1
  have t := T.2.2.2.2.1 (a + 22) i
  rwa [c.1, c.2] at t
theorem g_Mo_e23 (T : q_U L W h0 π h) (ha : q_M L π a) (i : Int32) : 0 ≤ vA h (a + 23) i ∧ vA h (a + 23) i ≤ 520 := by
  have c := (ha.2.1.2.2.2.2.2.2.1).2.2.2.2.2.1
  have t := T.2.2.2.2.1 (a + 23) i
  rwa [c.1, c.2] at t
theorem g_Mo_e24 (T : q_U L W h0 π h) (ha : q_M L π a) (i : Int32) : 0 ≤ vA h (a + 24) i ∧ vA h (a + 24) i ≤ 520 := by
  have c := (ha.2.1.2.2.2.2.2.2.1).2.2.2.2.2.2.2.1
  have t := T.2.2.2.2.1 (a + 24) i
  rwa [c.1, c.2] at t
theorem g_Mo_e25 (T : q_U L W h0 π h) (ha : q_M L π a) (i : Int32) : 0 ≤ vA h (a + 25) i ∧ vA h (a + 25) i ≤ 3 := by
  have c := (ha.2.1.2.2.2.2.2.2.1).2.2.2.2.2.2.2.2.2.1
  have t := T.2.2.2.2.1 (a + 25) i
  rwa [c.1, c.2] at t
theorem g_Mo_e26 (T : q_U L W h0 π h) (ha : q_M L π a) (i : Int32) : 0 ≤ vA h (a + 26) i ∧ vA h (a + 26) i ≤ 5 := by
  have c := (ha.2.1.2.2.2.2.2.2.1).2.2.2.2.2.2.2.2.2.2.2
  have t := T.2.2.2.2.1 (a + 26) i
  rwa [c.1, c.2] at t
theorem g_Mo_e28 (T : q_U L W h0 π h) (ha : q_M L π a) (i : Int32) : (-1) ≤ vA h (a + 28) i ∧ vA h (a + 28) i ≤ 203 := by
  have c := (ha.2.1.2.2.2.2.2.2.2.1).2.2.2.1
  have t := T.2.2.2.2.1 (a + 28) i
  rwa [c.1, c.2] at t
theorem g_Mo_e34 (T : q_U L W h0 π h) (ha : q_M L π a) (i : Int32) : (-1) ≤ vA h (a + 34) i ∧ vA h (a + 34) i ≤ 79 := by
  have c := (ha.2.1.2.2.2.2.2.2.2.2.1).2.1
  have t := T.2.2.2.2.1 (a + 34) i
  rwa [c.1, c.2] at t
theorem g_Mo_e35 (T : q_U L W h0 π h) (ha : q_M L π a) (i : Int32) : 0 ≤ vA h (a + 35) i ∧ vA h (a + 35) i ≤ 79 := by
  have c := (ha.2.1.2.2.2.2.2.2.2.2.1).2.2.2.1
  have t := T.2.2.2.2.1 (a + 35) i
  rwa [c.1, c.2] at t
theorem g_Mo_e37 (T : q_U L W h0 π h) (ha : q_M L π a) (i : Int32) : (-1) ≤ vA h (a + 37) i ∧ vA h (a + 37) i ≤ 60 := by
  have c := (ha.2.1.2.2.2.2.2.2.2.2.1).2.2.2.2.2.2.2.1
  have t := T.2.2.2.2.1 (a + 37) i
  rwa [c.1, c.2] at t
theorem g_Mo_e38 (T : q_U L W h0 π h) (ha : q_M L π a) (i : Int32) : (-1) ≤ vA h (a + 38) i ∧ vA h (a + 38) i ≤ 60 := by
  have c := (ha.2.1.2.2.2.2.2.2.2.2.1).2.2.2.2.2.2.2.2.2.1
  have t := T.2.2.2.2.1 (a + 38) i
  rwa [c.1, c.2] at t
end QM
