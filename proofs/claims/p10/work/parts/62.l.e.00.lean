theorem x_lkb {t : Int32 → Int32} {n a c : Int32} (hn : n ≤ 1000) (e : x_lk t n a = c) (hc : c ≠ -1) : a < n ∧ n ≤ 1000 := ⟨Int32.lt_iff_toInt_lt.mpr (x_lk_lt e hc).1, hn⟩
theorem x_adr_lt {t : Int32 → Int32} {n a b : Int32} (hn : n ≤ 1000) (e : x_adr t n a = some b) : a.toInt < b.toInt ∧ b.toInt ≤ n.toInt := by
  unfold x_adr at e
  split at e
  · next q =>
    obtain ⟨b0, b9, b1, b2, b3, b4⟩ := x_b (x_lkb hn q (by decide))
    cases p : x_pattern t n (a + 1) with
    | none => rw [p] at e; cases e
    | some r =>
      rw [p] at e
      have z := x_pattern_lt (by omega) p
      cases e
      omega
  · split at e
    · next q => obtain ⟨b0, b9, b1, b2, b3, b4⟩ := x_b (x_lkb hn q (by decide)); cases e; omega
    · split at e
      · next q =>
        have q1 : x_lk t n a ≠ -1 := fun z => absurd q.1 (by rw [z]; decide)
        obtain ⟨b0, b9, b1, b2, b3, b4⟩ := x_b (x_lkb hn rfl q1)
        split at e
        · next w =>
          have w1 : x_lk t n (a + 1) ≠ -1 := fun z => absurd w.1 (by rw [z]; decide)
          have z := (x_lk_lt rfl w1).1
          cases e; omega
        · cases e; omega
      · cases e
theorem x_adrs_le {t : Int32 → Int32} {n a : Int32} {r : Int32 × Int32} (hn : n ≤ 1000) (ha : a.toInt ≤ n.toInt) (e : x_adrs t n a = some r) : a.toInt ≤ r.1.toInt ∧ r.1.toInt ≤ n.toInt := by
  unfold x_adrs at e
  split at e
  · cases p : x_adr t n a with
    | none => rw [p] at e; cases e
    | some b =>
      rw [p] at e
      have z := x_adr_lt hn p
      dsimp only at e
      split at e
      · next q =>
        obtain ⟨b0, b9, b1, b2, b3, b4⟩ := x_b (x_lkb hn q (by decide))
        cases p2 : x_adr t n (b + 1) with
        | none => rw [p2] at e; cases e
        | some d =>
          rw [p2] at e
          have z2 := x_adr_lt hn p2
          cases e
          show a.toInt ≤ d.toInt ∧ d.toInt ≤ n.toInt
          omega
      · cases e
        show a.toInt ≤ b.toInt ∧ b.toInt ≤ n.toInt
        omega
  · cases e
    exact ⟨Int.le_refl _, ha⟩
theorem x_neg_le {t : Int32 → Int32} {n a : Int32} (hn : n ≤ 1000) : a.toInt ≤ (x_neg t n a).1.toInt := by
  unfold x_neg
  have z := x_bl_le t n _ a (Nat.lt_succ_self _)
  split
  · next q =>
    obtain ⟨b0, b9, b1, b2, b3, b4⟩ := x_b (x_lkb hn q (by decide))
    have z2 := x_bl_le t n _ (x_bl t n a + 1) (Nat.lt_succ_self _)
    show a.toInt ≤ (x_bl t n (x_bl t n a + 1)).toInt
    omega
  · exact z
theorem x_fin_eq {t : Int32 → Int32} {n a k v : Int32} {r : Int32 × Int32 × Int32} (e : x_fin t n a k v = some r) : r.1 = a := by
  unfold x_fin at e
  split at e
  · cases e; rfl
  · cases e
theorem x_sub_lt {t : Int32 → Int32} {n a b : Int32} (hn : n ≤ 1000) (e : x_sub t n a = some b) : a.toInt < b.toInt := by
  unfold x_sub at e
  split at e
  · next q =>
    obtain ⟨b0, b9, b1, b2, b3, b4⟩ := x_b (x_lkb hn q (by decide))
    cases p : x_pattern t n (a + 1) with
    | none => rw [p] at e; cases e
    | some r =>
      rw [p] at e
      have z := x_pattern_lt (by omega) p
      dsimp only at e
      cases p2 : x_rep t n r.1 r.2 with
      | none => rw [p2] at e; cases e
      | some d =>
        rw [p2] at e
        have z2 := x_rep_lt t n r.2 _ r.1 d (Nat.lt_succ_self _) p2
        have z3 := x_fl_le t n _ d 0 0 0 (Nat.lt_succ_self _) (by omega)
        cases e
        omega
  · cases e
theorem x_exc_lt {t : Int32 → Int32} {n a b : Int32} (hn : n ≤ 1000) (e : x_exc t n a = some b) : a.toInt < b.toInt := by
  unfold x_exc at e
  split at e
  · next q =>
    obtain ⟨b0, b9, b1, b2, b3, b4⟩ := x_b (x_lkb hn q (by decide))
    cases p : x_yf t n (a + 1) (a + 1) with
    | none => rw [p] at e; cases e
    | some d =>
      rw [p] at e
      have z := x_yf_lt t n _ _ (a + 1) d (Nat.lt_succ_self _) p
      dsimp only at e
      have z2 := x_yt_lt t n _ _ (d + 1) b (Nat.lt_succ_self _) e
      have k1 : (1 : Int32).toInt = 1 := rfl
      rw [x_add (by omega) (by omega) (by omega)] at z2
      omega
  · cases e
theorem x_act_lt {t : Int32 → Int32} {n a ad : Int32} {r : Int32 × Int32 × Int32} (hn : n ≤ 1000) (e : x_act t n a ad = some r) : a.toInt < r.1.toInt := by
  have h : x_lk t n a ≠ -1 := fun z => by
    unfold x_act at e
    rw [z] at e
    dsimp only at e
    rw [if_neg (by decide), if_neg (by decide), if_neg (by decide), if_neg (by decide), if_neg (by decide), if_neg (by decide), if_neg (by decide)] at e
    cases e
  obtain ⟨b0, b9, b1, b2, b3, b4⟩ := x_b (x_lkb hn rfl h)
  have f1 : ∀ {k v : Int32}, x_fin t n (a + 1) k v = some r → a.toInt < r.1.toInt := fun z => by rw [x_fin_eq z]; omega
  have f2 : ∀ {k v : Int32}, x_fin t n (a + 2) k v = some r → a.toInt < r.1.toInt := fun z => by rw [x_fin_eq z]; omega
  unfold x_act at e
  dsimp only at e
  split at e
  · cases e; show a.toInt < (a + 1).toInt; omega
  · split at e
    · split at e
      · cases e
      · split at e
        · exact f2 e
        · cases e
    · split at e
      · split at e
        · exact f2 e
        · exact f1 e
      · split at e
        · split at e
          · cases e
          · next b p => have z := x_sub_lt hn p; rw [x_fin_eq e]; omega
        · split at e
          · split at e
            · cases e
            · next b p => have z := x_exc_lt hn p; rw [x_fin_eq e]; omega
          · split at e
            · split at e
              · cases e
                have z := x_nl_le t n _ (a + 2) (Nat.lt_succ_self _)
                show a.toInt < (x_nl t n (a + 2)).toInt
                omega
              · cases e
            · split at e
              · exact f1 e
              · cases e
theorem x_cmd_lt {t : Int32 → Int32} {n a : Int32} {r : Int32 × Int32 × Int32} (hn : n ≤ 1000) (ha : a < n) (e : x_cmd t n a = some r) : a < r.1 := by
  have a0 := Int32.lt_iff_toInt_lt.mp ha
  unfold x_cmd at e
  cases p : x_adrs t n a with
  | none => rw [p] at e; cases e
  | some b =>
    rw [p] at e
    have z := x_adrs_le hn (by omega) p
    have z2 := x_neg_le (t := t) (a := b.1) hn
    have z3 := x_act_lt hn e
    exact Int32.lt_iff_toInt_lt.mpr (by omega)
