/-! class and reference: the same replacement -/
theorem x_cd_n {tx : Int32 → Int32} {g i : Int32} {k : Nat} (h : ¬ tx i = 92) : x_cd tx g (k + 1) i = (x_cd tx g k (i + 1)).map (List.cons (if tx i = 38 then 200 else tx i)) := by
  cases k with
  | zero =>
    show x_cd tx g 1 i = _
    rw [show x_cd tx g 1 i = (if tx i = 92 then none else some [if tx i = 38 then 200 else tx i]) from by rw [x_cd], if_neg h, x_cd]
    rfl
  | succ k => rw [x_cd, if_neg h]
theorem x_cd_92 {tx : Int32 → Int32} {g i : Int32} {k : Nat} (h : tx i = 92) (c : (49 ≤ tx (i + 1) ∧ tx (i + 1) ≤ 48 + g) ∨ tx (i + 1) = 38 ∨ tx (i + 1) = 47 ∨ tx (i + 1) = 92 ∨ tx (i + 1) = 110) (g0 : 0 ≤ g) (g3 : g ≤ 3) : x_cd tx g (k + 2) i = (x_cd tx g k (i + 2)).map (List.cons (x_rcb (tx (i + 1)))) := by
  rw [x_cd, if_pos h, x_rcb]
  by_cases d : 49 ≤ tx (i + 1) ∧ tx (i + 1) ≤ 51
  · rw [if_pos d, if_pos d, if_pos]
    rcases c with ⟨c1, c2⟩ | e | e | e | e
    · lia
    all_goals
      rw [e] at d
      exact absurd d (by decide)
  · rw [if_neg d, if_neg d]
theorem x_kc126 {c : Int32} (k : x_kc c) : 0 ≤ c ∧ c ≤ 126 := by
  rcases k with z | ⟨z1, z2⟩
  · rw [z]; exact ⟨by decide, by decide⟩
  · exact ⟨Int32.le_trans (by decide) z1, z2⟩
theorem x_kcp {t : Int32 → Int32} (kt : ∀ j, x_kc (t j)) : ∀ j, t j ≠ -1 := fun j z => absurd (x_kc126 (kt j)).1 (by rw [z]; decide)
theorem x_ckc {g c : Int32} (k : x_kc c) : x_ck g c := Or.inl ⟨by have z := (x_kc126 k).2; lia, k⟩
theorem x_ckr {g b : Int32} (g0 : 0 ≤ g) (g3 : g ≤ 3) (c : (49 ≤ b ∧ b ≤ 48 + g) ∨ b = 38 ∨ b = 47 ∨ b = 92 ∨ b = 110) : x_ck g (x_rcb b) := by
  rcases c with ⟨c1, c2⟩ | e | e | e | e
  · rw [x_rcb, if_pos ⟨c1, by lia⟩]
    exact Or.inr (Or.inr ⟨by lia, by lia⟩)
  · rw [e]; exact x_ckc (Or.inr ⟨by decide, by decide⟩)
  · rw [e]; exact x_ckc (Or.inr ⟨by decide, by decide⟩)
  · rw [e]; exact x_ckc (Or.inr ⟨by decide, by decide⟩)
  · rw [e]; exact x_ckc (Or.inl (by decide))
theorem x_rWc {t tx : Int32 → Int32} {n g : Int32} (n2 : n ≤ 1000) (kt : ∀ j, x_kc (t j)) (ht : ∀ j, 0 ≤ j → j < n → tx j = t j) (g0 : 0 ≤ g) (g3 : g ≤ 3) : ∀ (k : Nat) (s : x_R3) (d : Int32), (n.toInt - s.1.toInt).toNat < k → 0 ≤ s.1 → 0 ≤ s.2.1 → s.2.1 ≤ s.1 → x_rep t n s.1 g = some d → (x_rW t n s).1 + 1 = d ∧ (s.2.1 ≤ (x_rW t n s).2.1 ∧ (x_rW t n s).2.1 ≤ d) ∧ (∀ j, 0 ≤ j → j < s.2.1 → (x_rW t n s).2.2 j = s.2.2 j) ∧ (∀ j, s.2.1 ≤ j → j < (x_rW t n s).2.1 → x_ck g ((x_rW t n s).2.2 j)) ∧ x_cd tx g (x_ct s.1 (d - 1)) s.1 = some (x_sl (x_rW t n s).2.2 s.2.1 (x_rW t n s).2.1) ∧ (s.1 < d ∧ d ≤ n) := by
  intro k
  induction k with
  | zero => intro s d hk; omega
  | succ k ih =>
    intro s d hk p0 m0 mp e
    have tp := x_kcp kt
    by_cases c1 : x_lk t n s.1 = -1
    · rw [x_re_out (x_lk_no tp c1)] at e
      cases e
    have pn := x_lkn c1
    have pl : s.1 < 1000 := Int32.lt_of_lt_of_le pn n2
    have tv := (x_lk_at c1).2
    have txv : tx s.1 = x_lk t n s.1 := (ht _ p0 pn).trans tv
    have kcl : x_kc (x_lk t n s.1) := tv ▸ kt s.1
    by_cases c47 : x_lk t n s.1 = 47
    · rw [x_re47 n2 c47] at e
      cases e
      rw [x_rW_t c47]
      refine ⟨rfl, ⟨Int32.le_refl _, by lia⟩, fun _ _ _ => rfl, fun j j0 j1 => absurd (Int32.lt_of_le_of_lt j0 j1) Int32.lt_irrefl, ?_, by lia, by lia⟩
      rw [show s.1 + 1 - 1 = s.1 by lia, x_ct0 (Int32.le_refl _) p0 p0, x_sl_0 (Int32.le_refl _) m0 m0]
      rfl
    by_cases c10 : x_lk t n s.1 = 10
    · rw [x_re10 n2 c10] at e
      cases e
    by_cases c92 : x_lk t n s.1 = 92
    · rw [x_re92 n2 c92] at e
      split at e
      · next cc =>
        have l1 : ¬ x_lk t n (s.1 + 1) = -1 := by
          intro z
          rw [z] at cc
          rcases cc with ⟨w, -⟩ | w | w | w | w <;> exact absurd w (by decide)
        have pn1 := x_lkn l1
        have tv1 := (x_lk_at l1).2
        have txv1 : tx (s.1 + 1) = x_lk t n (s.1 + 1) := (ht _ (by lia) pn1).trans tv1
        have dk : (n.toInt - (s.1 + 2).toInt).toNat < k := by
          have z := x_dec 2 ⟨pn, n2⟩ (by decide) (by decide)
          omega
        obtain ⟨I1, ⟨I2, I2'⟩, I3, I4, I5, I6, I7⟩ := ih (s.1 + 2, s.2.1 + 1, x_up s.2.2 s.2.1 (x_rcb (x_lk t n (s.1 + 1)))) d dk (show 0 ≤ s.1 + 2 by lia) (show 0 ≤ s.2.1 + 1 by lia) (show s.2.1 + 1 ≤ s.1 + 2 by lia) e
        rw [← x_rW_92 c92] at I1 I2 I2' I3 I4 I5
        have I2a : s.2.1 + 1 ≤ (x_rW t n s).2.1 := I2
        have I6a : s.1 + 2 < d := I6
        have rm : (x_rW t n s).2.2 s.2.1 = x_rcb (x_lk t n (s.1 + 1)) := (I3 s.2.1 m0 (show s.2.1 < s.2.1 + 1 by lia)).trans x_up_s
        refine ⟨I1, ⟨by lia, I2'⟩, fun j j0 j1 => (I3 j j0 (show j < s.2.1 + 1 by lia)).trans (x_up_n (fun z => absurd (z ▸ j1) Int32.lt_irrefl)), fun j j0 j1 => ?_, ?_, by lia, I7⟩
        · by_cases q : j = s.2.1
          · rw [q, rm]; exact x_ckr g0 g3 cc
          · exact I4 j (show s.2.1 + 1 ≤ j by lia) j1
        · have e1 : x_ct s.1 (d - 1) = x_ct (s.1 + 2) (d - 1) + 2 := by
            rw [x_ct1 (show s.1 < d - 1 by lia) p0, x_ct1 (show s.1 + 1 < d - 1 by lia) (by lia), x_s11]
          have I5a : x_cd tx g (x_ct (s.1 + 2) (d - 1)) (s.1 + 2) = some (x_sl (x_rW t n s).2.2 (s.2.1 + 1) (x_rW t n s).2.1) := I5
          rw [e1, x_cd_92 (txv.trans c92) (by rw [txv1]; exact cc) g0 g3, I5a, x_sl_1 (show s.2.1 < (x_rW t n s).2.1 by lia) m0, rm, txv1]
          rfl
      · cases e
    · rw [x_repl n2 c1 c47 c10 c92] at e
      have dk : (n.toInt - (s.1 + 1).toInt).toNat < k := by
        have z := x_dec 1 ⟨pn, n2⟩ (by decide) (by decide)
        omega
      obtain ⟨I1, ⟨I2, I2'⟩, I3, I4, I5, I6, I7⟩ := ih (s.1 + 1, s.2.1 + 1, x_up s.2.2 s.2.1 (if x_lk t n s.1 = 38 then 200 else x_lk t n s.1)) d dk (show 0 ≤ s.1 + 1 by lia) (show 0 ≤ s.2.1 + 1 by lia) (show s.2.1 + 1 ≤ s.1 + 1 by lia) e
      rw [← x_rW_n c47 c92] at I1 I2 I2' I3 I4 I5
      have I2a : s.2.1 + 1 ≤ (x_rW t n s).2.1 := I2
      have I6a : s.1 + 1 < d := I6
      have rm : (x_rW t n s).2.2 s.2.1 = (if x_lk t n s.1 = 38 then 200 else x_lk t n s.1) := (I3 s.2.1 m0 (show s.2.1 < s.2.1 + 1 by lia)).trans x_up_s
      refine ⟨I1, ⟨by lia, I2'⟩, fun j j0 j1 => (I3 j j0 (show j < s.2.1 + 1 by lia)).trans (x_up_n (fun z => absurd (z ▸ j1) Int32.lt_irrefl)), fun j j0 j1 => ?_, ?_, by lia, I7⟩
      · by_cases q : j = s.2.1
        · rw [q, rm]
          split
          · exact Or.inr (Or.inl rfl)
          · exact x_ckc kcl
        · exact I4 j (show s.2.1 + 1 ≤ j by lia) j1
      · have I5a : x_cd tx g (x_ct (s.1 + 1) (d - 1)) (s.1 + 1) = some (x_sl (x_rW t n s).2.2 (s.2.1 + 1) (x_rW t n s).2.1) := I5
        rw [x_ct1 (show s.1 < d - 1 by lia) p0, x_cd_n (by rw [txv]; exact c92), I5a, x_sl_1 (show s.2.1 < (x_rW t n s).2.1 by lia) m0, rm, txv]
        rfl
/-! y: its characters differ, its text lies in the script -/
theorem x_yf_p {t : Int32 → Int32} {n f : Int32} : ∀ (k : Nat) (a m : Int32), (n.toInt - a.toInt).toNat < k → x_yf t n f a = some m → (a ≤ m ∧ m < n) ∧ ∀ i, a ≤ i → i < m → ¬ x_seen t f i (t i) = 1 := by
  intro k
  induction k with
  | zero => intro a m hk; omega
  | succ k ih =>
    intro a m hk e
    rw [x_yf] at e
    split at e
    · next h =>
      split at e
      · cases e
        exact ⟨⟨Int32.le_refl _, h.1⟩, fun i i0 i1 => absurd (Int32.lt_of_le_of_lt i0 i1) Int32.lt_irrefl⟩
      · split at e
        · cases e
        · next c =>
          have z := x_dec 1 h (by decide) (by decide)
          obtain ⟨⟨l1, l2⟩, I⟩ := ih (a + 1) m (by omega) e
          have a9 : a < 1000 := Int32.lt_of_lt_of_le h.1 h.2
          refine ⟨⟨by lia, l2⟩, fun i i0 i1 => ?_⟩
          by_cases q : i = a
          · rw [q]; exact fun w => c (Or.inr (Or.inr w))
          · exact I i (by lia) i1
    · cases e
theorem x_yf_d {t : Int32 → Int32} {n f m : Int32} (n2 : n ≤ 1000) (f0 : 0 ≤ f) (e : x_yf t n f f = some m) : (f ≤ m ∧ m < n) ∧ ∀ i j, 0 ≤ i → i < j → j < m - f → ¬ t (f + i) = t (f + j) := by
  obtain ⟨⟨l1, l2⟩, I⟩ := x_yf_p _ f m (Nat.lt_succ_self _) e
  refine ⟨⟨l1, l2⟩, fun i j i0 ij jm z => ?_⟩
  exact I (f + j) (by lia) (by lia) (x_seen_of t (f + j) (t (f + j)) (f + i) (by lia) (by lia) z _ f (Nat.lt_succ_self _) (by lia))
theorem x_yr_kc {tx : Int32 → Int32} {cp tf c : Int32} (kc : x_kc c) : ∀ (k : Nat) (p : Int32), (∀ j : Nat, j < k → x_kc (tx (cp + (p + Int32.ofNat j) - tf))) → x_kc (x_yr tx cp tf k p c) := by
  intro k
  induction k with
  | zero => intro p _; rw [x_yr]; exact kc
  | succ k ih =>
    intro p H
    rw [x_yr]
    split
    · have z := H 0 (by omega)
      rw [show p + Int32.ofNat 0 = p from Int32.add_zero p] at z
      exact z
    · refine ih (p + 1) (fun j hj => ?_)
      have z := H (j + 1) (by omega)
      rw [x_io1] at z
      exact z
