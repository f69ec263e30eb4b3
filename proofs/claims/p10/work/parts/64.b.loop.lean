/-! the law's loop -/
def x_INV8 (L : q_L) (sf mo : Nat) (h : z_H) : Prop := q_INV L sf mo h ∧ x_K8 sf mo h ∧ x_K4 L sf mo h
theorem q_oI {i : Nat} (h : i < 100000) : (Int32.ofNat i).toInt = i := by
  rw [Int32.toInt_ofNat_of_lt]; omega
theorem q_oadd {i k : Nat} (h : i + k < 100000) : Int32.ofNat i + Int32.ofNat k = Int32.ofNat (i + k) := by
  apply Int32.toInt_inj.mp
  rw [q_tA (n := (k : Int)) (q_oI (by omega)) (by rw [q_oI (by omega)]; omega) (by rw [q_oI (by omega)]; omega), q_oI (by omega), q_oI (by omega)]
  omega
theorem q_sX {X i k : Nat} {xs : Nat → Int32} (hX : X ≤ 2560) (h5 : 5 * i + 5 ≤ X) (hk : k ≤ 4) : sX X xs (Int32.ofNat (5 * i) + Int32.ofNat k) = some (xs (5 * i + k)) := by
  rw [q_oadd (by omega)]
  have e : (Int32.ofNat (5 * i + k)).toNatClampNeg = 5 * i + k := by
    show (Int32.ofNat (5 * i + k)).toInt.toNat = _
    rw [q_oI (by omega)]; omega
  unfold sX
  rw [if_neg, e]
  rintro (z | z)
  · have e0 : (0 : Int32).toInt = 0 := rfl
    have := Int32.lt_iff_toInt_lt.mp z
    rw [q_oI (by omega), e0] at this
    omega
  · rw [e] at z; omega
theorem q_ex {X i : Nat} (hX : X ≤ 2560) (hi : 5 * i ≤ X) (c : ¬ (Int32.ofNat X - 5) < Int32.ofNat (5 * i)) : 5 * i + 5 ≤ X := by
  rw [Int32.lt_iff_toInt_lt, q_tS (n := 5) (by decide) (by rw [q_oI (by omega)]; omega) (by rw [q_oI (by omega)]; omega), q_oI (by omega), q_oI (by omega)] at c
  omega
theorem q_lg (x : Int64) : lg_cmp x x = 0 := (lg_cmp_eq x x).mpr rfl
set_option maxRecDepth 20000 in
set_option maxHeartbeats 8000000 in
theorem q_loop {L : q_L} {sf mo ou N X : Nat} {xs : Nat → Int32} (hN : 100000 ≤ N) (ks : qκ L sf = 12) (ko : qκ L ou = 1 * 1000 + 200) (d1 : sf + 552 ≤ mo) (d2 : mo + 46 ≤ ou) (ly : y_L L (sf + 9)) (hX : X ≤ 2560) : ∀ (n i : Nat) (h : z_H), 5 * i ≤ X → X < 5 * (i + n) → x_INV8 L sf mo h → f_law_23 N X xs n sf mo ou (Int32.ofNat (5 * i)) h = some 1 := by
  intro n
  induction n with
  | zero => intro i h a b; omega
  | succ n ih =>
    intro i h a b V
    rw [f_law_23]
    by_cases c : (Int32.ofNat X - 5) < Int32.ofNat (5 * i)
    · rw [if_pos c]
    · rw [if_neg c]
      have h5 := q_ex hX a c
      have x0 : sX X xs (Int32.ofNat (5 * i)) = some (xs (5 * i)) := by
        have q := q_sX (xs := xs) hX h5 (k := 0) (by omega)
        rwa [show Int32.ofNat (5 * i) + Int32.ofNat 0 = Int32.ofNat (5 * i) from Int32.add_zero _] at q
      have x1 : sX X xs (Int32.ofNat (5 * i) + 1) = some (xs (5 * i + 1)) := q_sX hX h5 (k := 1) (by omega)
      have x2 : sX X xs (Int32.ofNat (5 * i) + 2) = some (xs (5 * i + 2)) := q_sX hX h5 (k := 2) (by omega)
      have x3 : sX X xs (Int32.ofNat (5 * i) + 3) = some (xs (5 * i + 3)) := q_sX hX h5 (k := 3) (by omega)
      have x4 : sX X xs (Int32.ofNat (5 * i) + 4) = some (xs (5 * i + 4)) := q_sX hX h5 (k := 4) (by omega)
      have n5 : Int32.ofNat (5 * i) + 5 = Int32.ofNat (5 * (i + 1)) := (q_oadd (k := 5) (by omega)).trans (congrArg Int32.ofNat (by omega))
      have go : ∀ h', x_INV8 L sf mo h' → f_law_23 N X xs n sf mo ou (Int32.ofNat (5 * i) + 5) h' = some 1 := fun h' V' => by rw [n5]; exact ih (i + 1) h' (by omega) (by omega) V'
      rw [x0, z_b_some]
      by_cases c0 : (xs (5 * i) &&& 15) = 0
      · rw [if_pos c0]
        obtain ⟨y, h1, b, h2, r1, r2, r3, V2, V3, V4⟩ := l8_script (w := (((Int32.toInt64 (xs (5 * i + 1))) <<< (Int32.toInt64 32 &&& 63)) ||| ((Int32.toInt64 (xs (5 * i + 2))) &&& 4294967295))) hN ks ko d1 d2 V.1 V.2.1 V.2.2
        simp only [x1, x2, z_b_some, r1, r2, r3]
        exact go h2 ⟨V2, V3, V4⟩
      rw [if_neg c0]
      by_cases c1 : (xs (5 * i) &&& 15) = 1
      · rw [if_pos c1]
        obtain ⟨y, h1, b, h2, r1, r2, r3, V2, V3, V4⟩ := l8_clear (w := xs (5 * i + 1)) hN ks ko d1 d2 V.1 V.2.1 V.2.2
        simp only [x1, z_b_some, r1, r2, r3]
        exact go h2 ⟨V2, V3, V4⟩
      rw [if_neg c1]
      by_cases c2 : (xs (5 * i) &&& 15) = 2
      · rw [if_pos c2]
        obtain ⟨y, h1, b, h2, r1, r2, r3, V2, V3, V4⟩ := l8_parse  hN ks ko d1 d2 V.1 V.2.1 V.2.2
        simp only [z_b_some, r1, r2, r3]
        exact go h2 ⟨V2, V3, V4⟩
      rw [if_neg c2]
      by_cases c3 : (xs (5 * i) &&& 15) = 3
      · rw [if_pos c3]
        obtain ⟨y, h1, b, h2, r0, r1, r2, r3, V2, V3, V4⟩ := l8_where hN ks ko d1 d2 V.1 V.2.1 V.2.2
        simp only [z_b_some, r0, r1, r2, r3]
        exact go h2 ⟨V2, V3, V4⟩
      rw [if_neg c3]
      by_cases c4 : (xs (5 * i) &&& 15) = 4
      · rw [if_pos c4]
        obtain ⟨y, h1, b, h2, r1, r2, r3, V2, V3, V4⟩ := l8_line (w := (((Int32.toInt64 (xs (5 * i + 1))) <<< (Int32.toInt64 32 &&& 63)) ||| ((Int32.toInt64 (xs (5 * i + 2))) &&& 4294967295))) (u := (((Int32.toInt64 (xs (5 * i + 3))) <<< (Int32.toInt64 32 &&& 63)) ||| ((Int32.toInt64 (xs (5 * i + 4))) &&& 4294967295))) hN ks ko d1 d2 V.1 V.2.1 V.2.2
        simp only [x1, x2, x3, x4, z_b_some, r1, r2, r3]
        exact go h2 ⟨V2, V3, V4⟩
      rw [if_neg c4]
      by_cases c5 : (xs (5 * i) &&& 15) = 5
      · rw [if_pos c5]
        obtain ⟨y, h1, b, h2, r1, r2, r3, V2, V3, V4⟩ := l8_more (w := (((Int32.toInt64 (xs (5 * i + 1))) <<< (Int32.toInt64 32 &&& 63)) ||| ((Int32.toInt64 (xs (5 * i + 2))) &&& 4294967295))) hN ks ko d1 d2 V.1 V.2.1 V.2.2
        simp only [x1, x2, z_b_some, r1, r2, r3]
        exact go h2 ⟨V2, V3, V4⟩
      rw [if_neg c5]
      by_cases c6 : (xs (5 * i) &&& 15) = 6
      · rw [if_pos c6]
        obtain ⟨y, h1, b, h2, r1, r2, r3, V2, V3, V4, r4, r5, r6⟩ := l8_run  hN ks ko d1 d2 ly V.1 V.2.1 V.2.2
        simp only [z_b_some, r1, r2, r3]
        exact go h2 ⟨V2, V3, V4⟩
      rw [if_neg c6]
      by_cases c7 : (xs (5 * i) &&& 15) = 7
      · rw [if_pos c7]
        obtain ⟨y, h1, b, h2, r1, r2, r3, V2, V3, V4⟩ := l8_out (w := xs (5 * i + 1)) hN ks ko d1 d2 V.1 V.2.1 V.2.2
        simp only [x1, z_b_some, r1, r2, r3]
        exact go h2 ⟨V2, V3, V4⟩
      rw [if_neg c7]
      by_cases c8 : (xs (5 * i) &&& 15) = 8
      · rw [if_pos c8]
        obtain ⟨y, h1, b, h2, r1, r2, r3, V2, V3, V4, r4, r5, r6⟩ := l9_ran (w := xs (5 * i + 1)) hN ks ko d1 d2 ly V.1 V.2.1 V.2.2
        simp only [x1, z_b_some, r1, r2, r3, r4, r5]
        by_cases y0 : y = 0
        · simp only [if_pos y0, r6 y0, z_b_some, q_lg, if_true]
          exact go h2 ⟨V2, V3, V4⟩
        · simp only [if_neg y0, z_b_some, if_true]
          exact go h2 ⟨V2, V3, V4⟩
      rw [if_neg c8]
      by_cases c9 : (xs (5 * i) &&& 15) = 9
      · rw [if_pos c9]
        obtain ⟨y, h1, b, h2, r1, r2, r3, V2, V3, V4⟩ := l8_match (w := xs (5 * i + 1)) (u := xs (5 * i + 2)) (v := xs (5 * i + 3)) hN ks ko d1 d2 V.1 V.2.1 V.2.2
        simp only [x1, x2, x3, z_b_some, r1, r2, r3]
        exact go h2 ⟨V2, V3, V4⟩
      rw [if_neg c9]
      by_cases c10 : (xs (5 * i) &&& 15) = 10
      · rw [if_pos c10]
        obtain ⟨y, h1, b, h2, r1, r2, r3, V2, V3, V4⟩ := l8_count (w := xs (5 * i + 1)) hN ks ko d1 d2 V.1 V.2.1 V.2.2
        simp only [x1, z_b_some, r1, r2, r3]
        exact go h2 ⟨V2, V3, V4⟩
      rw [if_neg c10]
      rw [z_b_some]
      exact go h V
