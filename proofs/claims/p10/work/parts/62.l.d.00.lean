theorem x_lk_lt {t : Int32 → Int32} {n a c : Int32} (e : x_lk t n a = c) (hc : c ≠ -1) : a.toInt < n.toInt ∧ t a = c := by
  unfold x_lk at e
  split at e
  · next h => exact ⟨Int32.lt_iff_toInt_lt.mp h, e⟩
  · exact absurd e.symm hc
theorem x_b {n a : Int32} (h : a < n ∧ n ≤ 1000) : a.toInt < n.toInt ∧ n.toInt ≤ 1000 ∧ (a + 1).toInt = a.toInt + 1 ∧ (a + 2).toInt = a.toInt + 2 ∧ (a + 3).toInt = a.toInt + 3 ∧ (a + 4).toInt = a.toInt + 4 := by
  have e1 := Int32.lt_iff_toInt_lt.mp h.1
  have e2 := Int32.le_iff_toInt_le.mp h.2
  have c1 : (1000 : Int32).toInt = 1000 := rfl
  have k1 : (1 : Int32).toInt = 1 := rfl
  have k2 : (2 : Int32).toInt = 2 := rfl
  have k3 : (3 : Int32).toInt = 3 := rfl
  have k4 : (4 : Int32).toInt = 4 := rfl
  refine ⟨e1, by omega, ?_, ?_, ?_, ?_⟩
  · rw [x_add (by omega) (by omega) (by omega)]; rfl
  · rw [x_add (by omega) (by omega) (by omega)]; rfl
  · rw [x_add (by omega) (by omega) (by omega)]; rfl
  · rw [x_add (by omega) (by omega) (by omega)]; rfl
theorem x_set_lt (t : Int32 → Int32) (n : Int32) : ∀ (m : Nat) (a b : Int32), (n.toInt - a.toInt).toNat < m → x_set t n a = some b → a.toInt < b.toInt ∧ b.toInt ≤ n.toInt := by
  intro m
  induction m with
  | zero => intro a b h; omega
  | succ m ih =>
    intro a b hm e
    rw [x_set] at e
    split at e
    · next h =>
      obtain ⟨b0, b9, b1, b2, b3, b4⟩ := x_b h
      split at e
      · cases e
      · split at e
        · split at e
          · cases e
          · split at e
            · next q => cases e; have z := x_lk_lt q (by decide); omega
            · have z := ih (a + 3) b (by omega) e; omega
        · split at e
          · next q => cases e; have z := x_lk_lt q (by decide); omega
          · have z := ih (a + 1) b (by omega) e; omega
    · cases e
theorem x_pat_lt (t : Int32 → Int32) (n : Int32) : ∀ (m : Nat) (a ic sc gr go rp : Int32) (r : Int32 × Int32), (n.toInt - a.toInt).toNat < m → x_pat t n a ic sc gr go rp = some r → a.toInt < r.1.toInt ∧ r.1.toInt ≤ n.toInt := by
  intro m
  induction m with
  | zero => intro a _ _ _ _ _ r h; omega
  | succ m ih =>
    intro a ic sc gr go rp r hm e
    rw [x_pat] at e
    split at e
    · next h =>
      obtain ⟨b0, b9, b1, b2, b3, b4⟩ := x_b h
      have go1 : ∀ {ic sc gr go rp : Int32}, x_pat t n (a + 1) ic sc gr go rp = some r → a.toInt < r.1.toInt ∧ r.1.toInt ≤ n.toInt := fun e => by have z := ih (a + 1) _ _ _ _ _ r (by omega) e; omega
      have go2 : ∀ {ic sc gr go rp : Int32}, x_pat t n (a + 2) ic sc gr go rp = some r → a.toInt < r.1.toInt ∧ r.1.toInt ≤ n.toInt := fun e => by have z := ih (a + 2) _ _ _ _ _ r (by omega) e; omega
      split at e
      · split at e
        · cases e; show a.toInt < (a + 1).toInt ∧ (a + 1).toInt ≤ n.toInt; omega
        · cases e
      · split at e
        · split at e
          · cases e
          · exact go1 e
        · split at e
          · split at e
            · split at e
              · exact go2 e
              · cases e
            · split at e
              · split at e
                · cases e
                · exact go2 e
              · split at e
                · split at e
                  · cases e
                  · exact go2 e
                · split at e
                  · split at e
                    · cases e
                    · exact go2 e
                  · cases e
          · split at e
            · split at e
              · cases e
              · split at e
                · cases e
                · split at e
                  · next hb =>
                    have e1 := Int32.lt_iff_toInt_lt.mp hb
                    have z := ih _ _ _ _ _ _ r (by omega) e; omega
                  · cases e
            · split at e
              · next q => cases e; have z := x_lk_lt q.2.2 (by decide); show a.toInt < (a + 2).toInt ∧ (a + 2).toInt ≤ n.toInt; omega
              · split at e
                · cases e
                · split at e
                  · cases e
                  · exact go1 e
    · cases e
theorem x_pattern_lt {t : Int32 → Int32} {n a : Int32} {r : Int32 × Int32} (ha : a.toInt ≤ 1000) (e : x_pattern t n a = some r) : a.toInt < r.1.toInt ∧ r.1.toInt ≤ n.toInt := by
  unfold x_pattern at e
  split at e
  · have z := x_pat_lt t n _ _ _ _ _ _ _ r (Nat.lt_succ_self _) e
    have k1 : (1 : Int32).toInt = 1 := rfl
    rw [x_add ha (by omega) (by omega)] at z
    omega
  · exact x_pat_lt t n _ _ _ _ _ _ _ r (Nat.lt_succ_self _) e
theorem x_rep_lt (t : Int32 → Int32) (n g : Int32) : ∀ (m : Nat) (a b : Int32), (n.toInt - a.toInt).toNat < m → x_rep t n a g = some b → a.toInt < b.toInt ∧ b.toInt ≤ n.toInt := by
  intro m
  induction m with
  | zero => intro a b h; omega
  | succ m ih =>
    intro a b hm e
    rw [x_rep] at e
    split at e
    · next h =>
      obtain ⟨b0, b9, b1, b2, b3, b4⟩ := x_b h
      split at e
      · cases e; omega
      · split at e
        · cases e
        · split at e
          · split at e
            · have z := ih (a + 2) b (by omega) e; omega
            · cases e
          · have z := ih (a + 1) b (by omega) e; omega
    · cases e
theorem x_fl_le (t : Int32 → Int32) (n : Int32) : ∀ (m : Nat) (a g p d : Int32), (n.toInt - a.toInt).toNat < m → a.toInt ≤ n.toInt → a.toInt ≤ (x_fl t n a g p d).toInt ∧ (x_fl t n a g p d).toInt ≤ n.toInt := by
  intro m
  induction m with
  | zero => intro a _ _ _ h; omega
  | succ m ih =>
    intro a g p d hm ha
    rw [x_fl]
    split
    · next h =>
      obtain ⟨b0, b9, b1, b2, b3, b4⟩ := x_b h
      split
      · have z := ih (a + 1) 1 p d (by omega) (by omega); omega
      · split
        · have z := ih (a + 1) g 1 d (by omega) (by omega); omega
        · split
          · have z := ih (a + 1) g p (t a - 48) (by omega) (by omega); omega
          · omega
    · omega
theorem x_yf_lt (t : Int32 → Int32) (n f : Int32) : ∀ (m : Nat) (a b : Int32), (n.toInt - a.toInt).toNat < m → x_yf t n f a = some b → a.toInt ≤ b.toInt ∧ b.toInt < n.toInt := by
  intro m
  induction m with
  | zero => intro a b h; omega
  | succ m ih =>
    intro a b hm e
    rw [x_yf] at e
    split at e
    · next h =>
      obtain ⟨b0, b9, b1, b2, b3, b4⟩ := x_b h
      split at e
      · cases e; omega
      · split at e
        · cases e
        · have z := ih (a + 1) b (by omega) e; omega
    · cases e
theorem x_yt_lt (t : Int32 → Int32) (n : Int32) : ∀ (m : Nat) (k a b : Int32), (n.toInt - a.toInt).toNat < m → x_yt t n k a = some b → a.toInt < b.toInt ∧ b.toInt ≤ n.toInt := by
  intro m
  induction m with
  | zero => intro k a b h; omega
  | succ m ih =>
    intro k a b hm e
    rw [x_yt] at e
    split at e
    · next h =>
      obtain ⟨b0, b9, b1, b2, b3, b4⟩ := x_b h
      split at e
      · split at e
        · cases e; omega
        · cases e
      · split at e
        · cases e
        · have z := ih (k - 1) (a + 1) b (by omega) e; omega
    · cases e
theorem x_nl_le (t : Int32 → Int32) (n : Int32) : ∀ (m : Nat) (a : Int32), (n.toInt - a.toInt).toNat < m → a.toInt ≤ (x_nl t n a).toInt := by
  intro m
  induction m with
  | zero => intro a h; omega
  | succ m ih =>
    intro a hm
    rw [x_nl]
    split
    · next h =>
      obtain ⟨b0, b9, b1, b2, b3, b4⟩ := x_b h
      split
      · omega
      · have z := ih (a + 1) (by omega); omega
    · omega
theorem x_bl_le (t : Int32 → Int32) (n : Int32) : ∀ (m : Nat) (a : Int32), (n.toInt - a.toInt).toNat < m → a.toInt ≤ (x_bl t n a).toInt := by
  intro m
  induction m with
  | zero => intro a h; omega
  | succ m ih =>
    intro a hm
    rw [x_bl]
    split
    · next h =>
      obtain ⟨b0, b9, b1, b2, b3, b4⟩ := x_b h
      split
      · have z := ih (a + 1) (by omega); omega
      · omega
    · omega
