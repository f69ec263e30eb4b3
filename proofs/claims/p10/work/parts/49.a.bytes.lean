/-- the k-th byte of a long, from the left -/
def q_by (w : Int64) (k : Int32) : Int32 := (Int64.toInt32 (w >>> (Int32.toInt64 (56 - 8 * k) &&& 63))) &&& 255
def q_byc (w : Int64) (k : Int32) : Int32 := (Int64.toInt32 ((Int64.toUInt64 w >>> (Int64.toUInt64 (Int32.toInt64 (56 - (8 * k))) &&& Int64.toUInt64 63)).toInt64)) &&& 255
theorem q_bits (x : BitVec 64) (s : Nat) (hs : s ≤ 56) : ((x.sshiftRight s).setWidth 32) &&& 255#32 = ((x >>> s).setWidth 32) &&& 255#32 := by
  ext i hi
  by_cases h8 : i < 8
  · simp only [BitVec.getElem_and, BitVec.getElem_setWidth, BitVec.getLsbD_sshiftRight, BitVec.getLsbD_ushiftRight]
    have e1 : ¬ 64 ≤ i := by omega
    have e2 : s + i < 64 := by omega
    simp [e1, e2]
  · have e : (255#32)[i] = false := by
      have h9 : i = 8 ∨ i = 9 ∨ i = 10 ∨ i = 11 ∨ i = 12 ∨ i = 13 ∨ i = 14 ∨ i = 15 ∨ i = 16 ∨ i = 17 ∨ i = 18 ∨ i = 19 ∨ i = 20 ∨ i = 21 ∨ i = 22 ∨ i = 23 ∨ i = 24 ∨ i = 25 ∨ i = 26 ∨ i = 27 ∨ i = 28 ∨ i = 29 ∨ i = 30 ∨ i = 31 := by omega
      rcases h9 with h | h | h | h | h | h | h | h | h | h | h | h | h | h | h | h | h | h | h | h | h | h | h | h <;> subst h <;> first | rfl | decide | simp
    simp [BitVec.getElem_and, e]
theorem q_by0 (w : Int64) : q_byc w 0 = q_by w 0 := by
  refine Int32.toBitVec_inj.mp ?_
  have h := q_bits w.toBitVec 56 (by decide)
  have e1 : (q_by w 0).toBitVec = (BitVec.signExtend 32 (w.toBitVec.sshiftRight 56)) &&& 255#32 := rfl
  have e2 : (q_byc w 0).toBitVec = (BitVec.signExtend 32 (w.toBitVec >>> 56)) &&& 255#32 := rfl
  rw [e1, e2, BitVec.signExtend_eq_setWidth_of_le _ (by decide), BitVec.signExtend_eq_setWidth_of_le _ (by decide)]
  exact h.symm
theorem q_by1 (w : Int64) : q_byc w 1 = q_by w 1 := by
  refine Int32.toBitVec_inj.mp ?_
  have h := q_bits w.toBitVec 48 (by decide)
  have e1 : (q_by w 1).toBitVec = (BitVec.signExtend 32 (w.toBitVec.sshiftRight 48)) &&& 255#32 := rfl
  have e2 : (q_byc w 1).toBitVec = (BitVec.signExtend 32 (w.toBitVec >>> 48)) &&& 255#32 := rfl
  rw [e1, e2, BitVec.signExtend_eq_setWidth_of_le _ (by decide), BitVec.signExtend_eq_setWidth_of_le _ (by decide)]
  exact h.symm
theorem q_by2 (w : Int64) : q_byc w 2 = q_by w 2 := by
  refine Int32.toBitVec_inj.mp ?_
  have h := q_bits w.toBitVec 40 (by decide)
  have e1 : (q_by w 2).toBitVec = (BitVec.signExtend 32 (w.toBitVec.sshiftRight 40)) &&& 255#32 := rfl
  have e2 : (q_byc w 2).toBitVec = (BitVec.signExtend 32 (w.toBitVec >>> 40)) &&& 255#32 := rfl
  rw [e1, e2, BitVec.signExtend_eq_setWidth_of_le _ (by decide), BitVec.signExtend_eq_setWidth_of_le _ (by decide)]
  exact h.symm
theorem q_by3 (w : Int64) : q_byc w 3 = q_by w 3 := by
  refine Int32.toBitVec_inj.mp ?_
  have h := q_bits w.toBitVec 32 (by decide)
  have e1 : (q_by w 3).toBitVec = (BitVec.signExtend 32 (w.toBitVec.sshiftRight 32)) &&& 255#32 := rfl
  have e2 : (q_byc w 3).toBitVec = (BitVec.signExtend 32 (w.toBitVec >>> 32)) &&& 255#32 := rfl
  rw [e1, e2, BitVec.signExtend_eq_setWidth_of_le _ (by decide), BitVec.signExtend_eq_setWidth_of_le _ (by decide)]
  exact h.symm
theorem q_by4 (w : Int64) : q_byc w 4 = q_by w 4 := by
  refine Int32.toBitVec_inj.mp ?_
  have h := q_bits w.toBitVec 24 (by decide)
  have e1 : (q_by w 4).toBitVec = (BitVec.signExtend 32 (w.toBitVec.sshiftRight 24)) &&& 255#32 := rfl
  have e2 : (q_byc w 4).toBitVec = (BitVec.signExtend 32 (w.toBitVec >>> 24)) &&& 255#32 := rfl
  rw [e1, e2, BitVec.signExtend_eq_setWidth_of_le _ (by decide), BitVec.signExtend_eq_setWidth_of_le _ (by decide)]
  exact h.symm
theorem q_by5 (w : Int64) : q_byc w 5 = q_by w 5 := by
  refine Int32.toBitVec_inj.mp ?_
  have h := q_bits w.toBitVec 16 (by decide)
  have e1 : (q_by w 5).toBitVec = (BitVec.signExtend 32 (w.toBitVec.sshiftRight 16)) &&& 255#32 := rfl
  have e2 : (q_byc w 5).toBitVec = (BitVec.signExtend 32 (w.toBitVec >>> 16)) &&& 255#32 := rfl
  rw [e1, e2, BitVec.signExtend_eq_setWidth_of_le _ (by decide), BitVec.signExtend_eq_setWidth_of_le _ (by decide)]
  exact h.symm
theorem q_by6 (w : Int64) : q_byc w 6 = q_by w 6 := by
  refine Int32.toBitVec_inj.mp ?_
  have h := q_bits w.toBitVec 8 (by decide)
  have e1 : (q_by w 6).toBitVec = (BitVec.signExtend 32 (w.toBitVec.sshiftRight 8)) &&& 255#32 := rfl
  have e2 : (q_byc w 6).toBitVec = (BitVec.signExtend 32 (w.toBitVec >>> 8)) &&& 255#32 := rfl
  rw [e1, e2, BitVec.signExtend_eq_setWidth_of_le _ (by decide), BitVec.signExtend_eq_setWidth_of_le _ (by decide)]
  exact h.symm
theorem q_by7 (w : Int64) : q_byc w 7 = q_by w 7 := by
  refine Int32.toBitVec_inj.mp ?_
  have h := q_bits w.toBitVec 0 (by decide)
  have e1 : (q_by w 7).toBitVec = (BitVec.signExtend 32 (w.toBitVec.sshiftRight 0)) &&& 255#32 := rfl
  have e2 : (q_byc w 7).toBitVec = (BitVec.signExtend 32 (w.toBitVec >>> 0)) &&& 255#32 := rfl
  rw [e1, e2, BitVec.signExtend_eq_setWidth_of_le _ (by decide), BitVec.signExtend_eq_setWidth_of_le _ (by decide)]
  exact h.symm
/-- what the last r bytes are: text, and how many are there -/
def q_okc (w : Int64) (nl : Int32) : Nat → Int32
  | 0 => 1
  | r + 1 => if q_by w (7 - Int32.ofNat r) = 0 ∨ (32 ≤ q_by w (7 - Int32.ofNat r) ∧ q_by w (7 - Int32.ofNat r) ≤ 126) ∨ (nl ≠ 0 ∧ q_by w (7 - Int32.ofNat r) = 10) then q_okc w nl r else 0
def q_cn (w : Int64) : Nat → Int32
  | 0 => 0
  | r + 1 => if q_by w (7 - Int32.ofNat r) = 0 then q_cn w r else q_cn w r + 1
theorem q_cn_0 (w : Int64) : q_cn w 0 = 0 := rfl
theorem q_okc_0 (w : Int64) (nl : Int32) : q_okc w nl 0 = 1 := rfl
theorem q_cn_1 (w : Int64) : q_cn w 1 = if q_by w 7 = 0 then q_cn w 0 else q_cn w 0 + 1 := rfl
theorem q_okc_1 (w : Int64) (nl : Int32) : q_okc w nl 1 = if q_by w 7 = 0 ∨ (32 ≤ q_by w 7 ∧ q_by w 7 ≤ 126) ∨ (nl ≠ 0 ∧ q_by w 7 = 10) then q_okc w nl 0 else 0 := rfl
theorem q_cn_2 (w : Int64) : q_cn w 2 = if q_by w 6 = 0 then q_cn w 1 else q_cn w 1 + 1 := rfl
theorem q_okc_2 (w : Int64) (nl : Int32) : q_okc w nl 2 = if q_by w 6 = 0 ∨ (32 ≤ q_by w 6 ∧ q_by w 6 ≤ 126) ∨ (nl ≠ 0 ∧ q_by w 6 = 10) then q_okc w nl 1 else 0 := rfl
theorem q_cn_3 (w : Int64) : q_cn w 3 = if q_by w 5 = 0 then q_cn w 2 else q_cn w 2 + 1 := rfl
theorem q_okc_3 (w : Int64) (nl : Int32) : q_okc w nl 3 = if q_by w 5 = 0 ∨ (32 ≤ q_by w 5 ∧ q_by w 5 ≤ 126) ∨ (nl ≠ 0 ∧ q_by w 5 = 10) then q_okc w nl 2 else 0 := rfl
theorem q_cn_4 (w : Int64) : q_cn w 4 = if q_by w 4 = 0 then q_cn w 3 else q_cn w 3 + 1 := rfl
theorem q_okc_4 (w : Int64) (nl : Int32) : q_okc w nl 4 = if q_by w 4 = 0 ∨ (32 ≤ q_by w 4 ∧ q_by w 4 ≤ 126) ∨ (nl ≠ 0 ∧ q_by w 4 = 10) then q_okc w nl 3 else 0 := rfl
theorem q_cn_5 (w : Int64) : q_cn w 5 = if q_by w 3 = 0 then q_cn w 4 else q_cn w 4 + 1 := rfl
theorem q_okc_5 (w : Int64) (nl : Int32) : q_okc w nl 5 = if q_by w 3 = 0 ∨ (32 ≤ q_by w 3 ∧ q_by w 3 ≤ 126) ∨ (nl ≠ 0 ∧ q_by w 3 = 10) then q_okc w nl 4 else 0 := rfl
theorem q_cn_6 (w : Int64) : q_cn w 6 = if q_by w 2 = 0 then q_cn w 5 else q_cn w 5 + 1 := rfl
theorem q_okc_6 (w : Int64) (nl : Int32) : q_okc w nl 6 = if q_by w 2 = 0 ∨ (32 ≤ q_by w 2 ∧ q_by w 2 ≤ 126) ∨ (nl ≠ 0 ∧ q_by w 2 = 10) then q_okc w nl 5 else 0 := rfl
theorem q_cn_7 (w : Int64) : q_cn w 7 = if q_by w 1 = 0 then q_cn w 6 else q_cn w 6 + 1 := rfl
theorem q_okc_7 (w : Int64) (nl : Int32) : q_okc w nl 7 = if q_by w 1 = 0 ∨ (32 ≤ q_by w 1 ∧ q_by w 1 ≤ 126) ∨ (nl ≠ 0 ∧ q_by w 1 = 10) then q_okc w nl 6 else 0 := rfl
theorem q_cn_8 (w : Int64) : q_cn w 8 = if q_by w 0 = 0 then q_cn w 7 else q_cn w 7 + 1 := rfl
theorem q_okc_8 (w : Int64) (nl : Int32) : q_okc w nl 8 = if q_by w 0 = 0 ∨ (32 ≤ q_by w 0 ∧ q_by w 0 ≤ 126) ∨ (nl ≠ 0 ∧ q_by w 0 = 10) then q_okc w nl 7 else 0 := rfl
theorem q_cnr_0 (w : Int64) : 0 ≤ q_cn w 0 ∧ q_cn w 0 ≤ 0 := ⟨by rw [q_cn_0]; decide, by rw [q_cn_0]; decide⟩
theorem q_ok01_0 (w : Int64) (nl : Int32) : q_okc w nl 0 = 0 ∨ q_okc w nl 0 = 1 := Or.inr rfl
theorem q_cnr_1 (w : Int64) : 0 ≤ q_cn w 1 ∧ q_cn w 1 ≤ 1 := by
  have h := q_cnr_0 w; rw [q_cn_1]; split <;> constructor <;> lia
theorem q_ok01_1 (w : Int64) (nl : Int32) : q_okc w nl 1 = 0 ∨ q_okc w nl 1 = 1 := by
  rw [q_okc_1]; split
  · exact q_ok01_0 w nl
  · exact Or.inl rfl
theorem q_cnr_2 (w : Int64) : 0 ≤ q_cn w 2 ∧ q_cn w 2 ≤ 2 := by
  have h := q_cnr_1 w; rw [q_cn_2]; split <;> constructor <;> lia
theorem q_ok01_2 (w : Int64) (nl : Int32) : q_okc w nl 2 = 0 ∨ q_okc w nl 2 = 1 := by
  rw [q_okc_2]; split
  · exact q_ok01_1 w nl
  · exact Or.inl rfl
theorem q_cnr_3 (w : Int64) : 0 ≤ q_cn w 3 ∧ q_cn w 3 ≤ 3 := by
  have h := q_cnr_2 w; rw [q_cn_3]; split <;> constructor <;> lia
theorem q_ok01_3 (w : Int64) (nl : Int32) : q_okc w nl 3 = 0 ∨ q_okc w nl 3 = 1 := by
  rw [q_okc_3]; split
  · exact q_ok01_2 w nl
  · exact Or.inl rfl
theorem q_cnr_4 (w : Int64) : 0 ≤ q_cn w 4 ∧ q_cn w 4 ≤ 4 := by
  have h := q_cnr_3 w; rw [q_cn_4]; split <;> constructor <;> lia
theorem q_ok01_4 (w : Int64) (nl : Int32) : q_okc w nl 4 = 0 ∨ q_okc w nl 4 = 1 := by
  rw [q_okc_4]; split
  · exact q_ok01_3 w nl
  · exact Or.inl rfl
theorem q_cnr_5 (w : Int64) : 0 ≤ q_cn w 5 ∧ q_cn w 5 ≤ 5 := by
  have h := q_cnr_4 w; rw [q_cn_5]; split <;> constructor <;> lia
theorem q_ok01_5 (w : Int64) (nl : Int32) : q_okc w nl 5 = 0 ∨ q_okc w nl 5 = 1 := by
  rw [q_okc_5]; split
  · exact q_ok01_4 w nl
  · exact Or.inl rfl
theorem q_cnr_6 (w : Int64) : 0 ≤ q_cn w 6 ∧ q_cn w 6 ≤ 6 := by
  have h := q_cnr_5 w; rw [q_cn_6]; split <;> constructor <;> lia
theorem q_ok01_6 (w : Int64) (nl : Int32) : q_okc w nl 6 = 0 ∨ q_okc w nl 6 = 1 := by
  rw [q_okc_6]; split
  · exact q_ok01_5 w nl
  · exact Or.inl rfl
theorem q_cnr_7 (w : Int64) : 0 ≤ q_cn w 7 ∧ q_cn w 7 ≤ 7 := by
  have h := q_cnr_6 w; rw [q_cn_7]; split <;> constructor <;> lia
theorem q_ok01_7 (w : Int64) (nl : Int32) : q_okc w nl 7 = 0 ∨ q_okc w nl 7 = 1 := by
  rw [q_okc_7]; split
  · exact q_ok01_6 w nl
  · exact Or.inl rfl
theorem q_cnr_8 (w : Int64) : 0 ≤ q_cn w 8 ∧ q_cn w 8 ≤ 8 := by
  have h := q_cnr_7 w; rw [q_cn_8]; split <;> constructor <;> lia
theorem q_ok01_8 (w : Int64) (nl : Int32) : q_okc w nl 8 = 0 ∨ q_okc w nl 8 = 1 := by
  rw [q_okc_8]; split
  · exact q_ok01_7 w nl
  · exact Or.inl rfl
theorem q_isT_0 (N n : Nat) (w : Int64) (nl : Int32) (h : z_H) : f_SF_isText_2 N (n + 1) w nl 8 h = some (q_okc w nl 0, h) := by
  rw [f_SF_isText_2, if_pos (by decide)]; rfl
theorem q_isT_1 (N n : Nat) (w : Int64) (nl : Int32) (h : z_H) : f_SF_isText_2 N (n + 2) w nl 7 h = some (q_okc w nl 1, h) := by
  have ih := q_isT_0 N n w nl h
  have e : f_SF_byteOf N w 7 h = some (q_by w 7, h) := by rw [← q_by7]; rfl
  rw [f_SF_isText_2, if_neg (by decide), e]
  rw [q_okc_1]
  generalize q_by w 7 = x at *
  show (if x < 32 then _ else if 126 < x then _ else _) = _
  have d : (7 : Int32) + 1 = 8 := by decide
  by_cases c0 : x = 0
  · subst c0
    rw [if_pos (by decide), if_pos (Or.inl rfl)]
    show f_SF_isText_2 N (n + 1) w nl (7 + 1) h = _
    rw [d]; exact ih
  · by_cases c1 : x < 32
    · rw [if_pos c1]
      show (if x = 0 then _ else if (0 : Int32) = 0 then (if nl = 0 then _ else if x = 10 then _ else _) else _) = _
      rw [if_neg c0, if_pos rfl]
      by_cases c2 : nl = 0
      · rw [if_pos c2, if_neg (by rintro (z | z | z); exact c0 z; exact absurd z.1 (by lia); exact z.1 c2)]
      · rw [if_neg c2]
        by_cases c3 : x = 10
        · rw [if_pos c3, if_pos (Or.inr (Or.inr ⟨c2, c3⟩))]
          show f_SF_isText_2 N (n + 1) w nl (7 + 1) h = _
          rw [d]; exact ih
        · rw [if_neg c3, if_neg (by rintro (z | z | z); exact c0 z; exact absurd z.1 (by lia); exact c3 z.2)]
    · rw [if_neg c1]
      by_cases c4 : 126 < x
      · rw [if_pos c4]
        show (if x = 0 then _ else if (0 : Int32) = 0 then (if nl = 0 then _ else if x = 10 then _ else _) else _) = _
        rw [if_neg c0, if_pos rfl, if_neg (show ¬ x = 10 by lia), ite_self, if_neg (by rintro (z | z | z); exact c0 z; exact absurd z.2 (by lia); exact absurd z.2 (by lia))]
      · rw [if_neg c4]
        show (if x = 0 then _ else if (1 : Int32) = 0 then _ else f_SF_isText_2 N (n + 1) w nl (7 + 1) h) = _
        rw [if_neg c0, if_neg (by decide), d, if_pos (Or.inr (Or.inl ⟨by lia, by lia⟩))]; exact ih
theorem q_isT_2 (N n : Nat) (w : Int64) (nl : Int32) (h : z_H) : f_SF_isText_2 N (n + 3) w nl 6 h = some (q_okc w nl 2, h) := by
  have ih := q_isT_1 N n w nl h
  have e : f_SF_byteOf N w 6 h = some (q_by w 6, h) := by rw [← q_by6]; rfl
  rw [f_SF_isText_2, if_neg (by decide), e]
  rw [q_okc_2]
  generalize q_by w 6 = x at *
  show (if x < 32 then _ else if 126 < x then _ else _) = _
  have d : (6 : Int32) + 1 = 7 := by decide
  by_cases c0 : x = 0
  · subst c0
    rw [if_pos (by decide), if_pos (Or.inl rfl)]
    show f_SF_isText_2 N (n + 2) w nl (6 + 1) h = _
    rw [d]; exact ih
  · by_cases c1 : x < 32
    · rw [if_pos c1]
      show (if x = 0 then _ else if (0 : Int32) = 0 then (if nl = 0 then _ else if x = 10 then _ else _) else _) = _
      rw [if_neg c0, if_pos rfl]
      by_cases c2 : nl = 0
      · rw [if_pos c2, if_neg (by rintro (z | z | z); exact c0 z; exact absurd z.1 (by lia); exact z.1 c2)]
      · rw [if_neg c2]
        by_cases c3 : x = 10
        · rw [if_pos c3, if_pos (Or.inr (Or.inr ⟨c2, c3⟩))]
          show f_SF_isText_2 N (n + 2) w nl (6 + 1) h = _
          rw [d]; exact ih
        · rw [if_neg c3, if_neg (by rintro (z | z | z); exact c0 z; exact absurd z.1 (by lia); exact c3 z.2)]
    · rw [if_neg c1]
      by_cases c4 : 126 < x
      · rw [if_pos c4]
        show (if x = 0 then _ else if (0 : Int32) = 0 then (if nl = 0 then _ else if x = 10 then _ else _) else _) = _
        rw [if_neg c0, if_pos rfl, if_neg (show ¬ x = 10 by lia), ite_self, if_neg (by rintro (z | z | z); exact c0 z; exact absurd z.2 (by lia); exact absurd z.2 (by lia))]
      · rw [if_neg c4]
        show (if x = 0 then _ else if (1 : Int32) = 0 then _ else f_SF_isText_2 N (n + 2) w nl (6 + 1) h) = _
        rw [if_neg c0, if_neg (by decide), d, if_pos (Or.inr (Or.inl ⟨by lia, by lia⟩))]; exact ih
theorem q_isT_3 (N n : Nat) (w : Int64) (nl : Int32) (h : z_H) : f_SF_isText_2 N (n + 4) w nl 5 h = some (q_okc w nl 3, h) := by
  have ih := q_isT_2 N n w nl h
  have e : f_SF_byteOf N w 5 h = some (q_by w 5, h) := by rw [← q_by5]; rfl
  rw [f_SF_isText_2, if_neg (by decide), e]
  rw [q_okc_3]
  generalize q_by w 5 = x at *
  show (if x < 32 then _ else if 126 < x then _ else _) = _
  have d : (5 : Int32) + 1 = 6 := by decide
  by_cases c0 : x = 0
  · subst c0
    rw [if_pos (by decide), if_pos (Or.inl rfl)]
    show f_SF_isText_2 N (n + 3) w nl (5 + 1) h = _
    rw [d]; exact ih
  · by_cases c1 : x < 32
    · rw [if_pos c1]
      show (if x = 0 then _ else if (0 : Int32) = 0 then (if nl = 0 then _ else if x = 10 then _ else _) else _) = _
      rw [if_neg c0, if_pos rfl]
      by_cases c2 : nl = 0
      · rw [if_pos c2, if_neg (by rintro (z | z | z); exact c0 z; exact absurd z.1 (by lia); exact z.1 c2)]
      · rw [if_neg c2]
        by_cases c3 : x = 10
        · rw [if_pos c3, if_pos (Or.inr (Or.inr ⟨c2, c3⟩))]
          show f_SF_isText_2 N (n + 3) w nl (5 + 1) h = _
          rw [d]; exact ih
        · rw [if_neg c3, if_neg (by rintro (z | z | z); exact c0 z; exact absurd z.1 (by lia); exact c3 z.2)]
    · rw [if_neg c1]
      by_cases c4 : 126 < x
      · rw [if_pos c4]
        show (if x = 0 then _ else if (0 : Int32) = 0 then (if nl = 0 then _ else if x = 10 then _ else _) else _) = _
        rw [if_neg c0, if_pos rfl, if_neg (show ¬ x = 10 by lia), ite_self, if_neg (by rintro (z | z | z); exact c0 z; exact absurd z.2 (by lia); exact absurd z.2 (by lia))]
      · rw [if_neg c4]
        show (if x = 0 then _ else if (1 : Int32) = 0 then _ else f_SF_isText_2 N (n + 3) w nl (5 + 1) h) = _
        rw [if_neg c0, if_neg (by decide), d, if_pos (Or.inr (Or.inl ⟨by lia, by lia⟩))]; exact ih
theorem q_isT_4 (N n : Nat) (w : Int64) (nl : Int32) (h : z_H) : f_SF_isText_2 N (n + 5) w nl 4 h = some (q_okc w nl 4, h) := by
  have ih := q_isT_3 N n w nl h
  have e : f_SF_byteOf N w 4 h = some (q_by w 4, h) := by rw [← q_by4]; rfl
  rw [f_SF_isText_2, if_neg (by decide), e]
  rw [q_okc_4]
  generalize q_by w 4 = x at *
  show (if x < 32 then _ else if 126 < x then _ else _) = _
  have d : (4 : Int32) + 1 = 5 := by decide
  by_cases c0 : x = 0
  · subst c0
    rw [if_pos (by decide), if_pos (Or.inl rfl)]
    show f_SF_isText_2 N (n + 4) w nl (4 + 1) h = _
    rw [d]; exact ih
  · by_cases c1 : x < 32
    · rw [if_pos c1]
      show (if x = 0 then _ else if (0 : Int32) = 0 then (if nl = 0 then _ else if x = 10 then _ else _) else _) = _
      rw [if_neg c0, if_pos rfl]
      by_cases c2 : nl = 0
      · rw [if_pos c2, if_neg (by rintro (z | z | z); exact c0 z; exact absurd z.1 (by lia); exact z.1 c2)]
      · rw [if_neg c2]
        by_cases c3 : x = 10
        · rw [if_pos c3, if_pos (Or.inr (Or.inr ⟨c2, c3⟩))]
          show f_SF_isText_2 N (n + 4) w nl (4 + 1) h = _
          rw [d]; exact ih
        · rw [if_neg c3, if_neg (by rintro (z | z | z); exact c0 z; exact absurd z.1 (by lia); exact c3 z.2)]
    · rw [if_neg c1]
      by_cases c4 : 126 < x
      · rw [if_pos c4]
        show (if x = 0 then _ else if (0 : Int32) = 0 then (if nl = 0 then _ else if x = 10 then _ else _) else _) = _
        rw [if_neg c0, if_pos rfl, if_neg (show ¬ x = 10 by lia), ite_self, if_neg (by rintro (z | z | z); exact c0 z; exact absurd z.2 (by lia); exact absurd z.2 (by lia))]
      · rw [if_neg c4]
        show (if x = 0 then _ else if (1 : Int32) = 0 then _ else f_SF_isText_2 N (n + 4) w nl (4 + 1) h) = _
        rw [if_neg c0, if_neg (by decide), d, if_pos (Or.inr (Or.inl ⟨by lia, by lia⟩))]; exact ih
theorem q_isT_5 (N n : Nat) (w : Int64) (nl : Int32) (h : z_H) : f_SF_isText_2 N (n + 6) w nl 3 h = some (q_okc w nl 5, h) := by
  have ih := q_isT_4 N n w nl h
  have e : f_SF_byteOf N w 3 h = some (q_by w 3, h) := by rw [← q_by3]; rfl
  rw [f_SF_isText_2, if_neg (by decide), e]
  rw [q_okc_5]
  generalize q_by w 3 = x at *
  show (if x < 32 then _ else if 126 < x then _ else _) = _
  have d : (3 : Int32) + 1 = 4 := by decide
  by_cases c0 : x = 0
  · subst c0
    rw [if_pos (by decide), if_pos (Or.inl rfl)]
    show f_SF_isText_2 N (n + 5) w nl (3 + 1) h = _
    rw [d]; exact ih
  · by_cases c1 : x < 32
    · rw [if_pos c1]
      show (if x = 0 then _ else if (0 : Int32) = 0 then (if nl = 0 then _ else if x = 10 then _ else _) else _) = _
      rw [if_neg c0, if_pos rfl]
      by_cases c2 : nl = 0
      · rw [if_pos c2, if_neg (by rintro (z | z | z); exact c0 z; exact absurd z.1 (by lia); exact z.1 c2)]
      · rw [if_neg c2]
        by_cases c3 : x = 10
        · rw [if_pos c3, if_pos (Or.inr (Or.inr ⟨c2, c3⟩))]
          show f_SF_isText_2 N (n + 5) w nl (3 + 1) h = _
          rw [d]; exact ih
        · rw [if_neg c3, if_neg (by rintro (z | z | z); exact c0 z; exact absurd z.1 (by lia); exact c3 z.2)]
    · rw [if_neg c1]
      by_cases c4 : 126 < x
      · rw [if_pos c4]
        show (if x = 0 then _ else if (0 : Int32) = 0 then (if nl = 0 then _ else if x = 10 then _ else _) else _) = _
        rw [if_neg c0, if_pos rfl, if_neg (show ¬ x = 10 by lia), ite_self, if_neg (by rintro (z | z | z); exact c0 z; exact absurd z.2 (by lia); exact absurd z.2 (by lia))]
      · rw [if_neg c4]
        show (if x = 0 then _ else if (1 : Int32) = 0 then _ else f_SF_isText_2 N (n + 5) w nl (3 + 1) h) = _
        rw [if_neg c0, if_neg (by decide), d, if_pos (Or.inr (Or.inl ⟨by lia, by lia⟩))]; exact ih
theorem q_isT_6 (N n : Nat) (w : Int64) (nl : Int32) (h : z_H) : f_SF_isText_2 N (n + 7) w nl 2 h = some (q_okc w nl 6, h) := by
  have ih := q_isT_5 N n w nl h
  have e : f_SF_byteOf N w 2 h = some (q_by w 2, h) := by rw [← q_by2]; rfl
  rw [f_SF_isText_2, if_neg (by decide), e]
  rw [q_okc_6]
  generalize q_by w 2 = x at *
  show (if x < 32 then _ else if 126 < x then _ else _) = _
  have d : (2 : Int32) + 1 = 3 := by decide
  by_cases c0 : x = 0
  · subst c0
    rw [if_pos (by decide), if_pos (Or.inl rfl)]
    show f_SF_isText_2 N (n + 6) w nl (2 + 1) h = _
    rw [d]; exact ih
  · by_cases c1 : x < 32
    · rw [if_pos c1]
      show (if x = 0 then _ else if (0 : Int32) = 0 then (if nl = 0 then _ else if x = 10 then _ else _) else _) = _
      rw [if_neg c0, if_pos rfl]
      by_cases c2 : nl = 0
      · rw [if_pos c2, if_neg (by rintro (z | z | z); exact c0 z; exact absurd z.1 (by lia); exact z.1 c2)]
      · rw [if_neg c2]
        by_cases c3 : x = 10
        · rw [if_pos c3, if_pos (Or.inr (Or.inr ⟨c2, c3⟩))]
          show f_SF_isText_2 N (n + 6) w nl (2 + 1) h = _
          rw [d]; exact ih
        · rw [if_neg c3, if_neg (by rintro (z | z | z); exact c0 z; exact absurd z.1 (by lia); exact c3 z.2)]
    · rw [if_neg c1]
      by_cases c4 : 126 < x
      · rw [if_pos c4]
        show (if x = 0 then _ else if (0 : Int32) = 0 then (if nl = 0 then _ else if x = 10 then _ else _) else _) = _
        rw [if_neg c0, if_pos rfl, if_neg (show ¬ x = 10 by lia), ite_self, if_neg (by rintro (z | z | z); exact c0 z; exact absurd z.2 (by lia); exact absurd z.2 (by lia))]
      · rw [if_neg c4]
        show (if x = 0 then _ else if (1 : Int32) = 0 then _ else f_SF_isText_2 N (n + 6) w nl (2 + 1) h) = _
        rw [if_neg c0, if_neg (by decide), d, if_pos (Or.inr (Or.inl ⟨by lia, by lia⟩))]; exact ih
theorem q_isT_7 (N n : Nat) (w : Int64) (nl : Int32) (h : z_H) : f_SF_isText_2 N (n + 8) w nl 1 h = some (q_okc w nl 7, h) := by
  have ih := q_isT_6 N n w nl h
  have e : f_SF_byteOf N w 1 h = some (q_by w 1, h) := by rw [← q_by1]; rfl
  rw [f_SF_isText_2, if_neg (by decide), e]
  rw [q_okc_7]
  generalize q_by w 1 = x at *
  show (if x < 32 then _ else if 126 < x then _ else _) = _
  have d : (1 : Int32) + 1 = 2 := by decide
  by_cases c0 : x = 0
  · subst c0
    rw [if_pos (by decide), if_pos (Or.inl rfl)]
    show f_SF_isText_2 N (n + 7) w nl (1 + 1) h = _
    rw [d]; exact ih
  · by_cases c1 : x < 32
    · rw [if_pos c1]
      show (if x = 0 then _ else if (0 : Int32) = 0 then (if nl = 0 then _ else if x = 10 then _ else _) else _) = _
      rw [if_neg c0, if_pos rfl]
      by_cases c2 : nl = 0
      · rw [if_pos c2, if_neg (by rintro (z | z | z); exact c0 z; exact absurd z.1 (by lia); exact z.1 c2)]
      · rw [if_neg c2]
        by_cases c3 : x = 10
        · rw [if_pos c3, if_pos (Or.inr (Or.inr ⟨c2, c3⟩))]
          show f_SF_isText_2 N (n + 7) w nl (1 + 1) h = _
          rw [d]; exact ih
        · rw [if_neg c3, if_neg (by rintro (z | z | z); exact c0 z; exact absurd z.1 (by lia); exact c3 z.2)]
    · rw [if_neg c1]
      by_cases c4 : 126 < x
      · rw [if_pos c4]
        show (if x = 0 then _ else if (0 : Int32) = 0 then (if nl = 0 then _ else if x = 10 then _ else _) else _) = _
        rw [if_neg c0, if_pos rfl, if_neg (show ¬ x = 10 by lia), ite_self, if_neg (by rintro (z | z | z); exact c0 z; exact absurd z.2 (by lia); exact absurd z.2 (by lia))]
      · rw [if_neg c4]
        show (if x = 0 then _ else if (1 : Int32) = 0 then _ else f_SF_isText_2 N (n + 7) w nl (1 + 1) h) = _
        rw [if_neg c0, if_neg (by decide), d, if_pos (Or.inr (Or.inl ⟨by lia, by lia⟩))]; exact ih
theorem q_isT_8 (N n : Nat) (w : Int64) (nl : Int32) (h : z_H) : f_SF_isText_2 N (n + 9) w nl 0 h = some (q_okc w nl 8, h) := by
  have ih := q_isT_7 N n w nl h
  have e : f_SF_byteOf N w 0 h = some (q_by w 0, h) := by rw [← q_by0]; rfl
  rw [f_SF_isText_2, if_neg (by decide), e]
  rw [q_okc_8]
  generalize q_by w 0 = x at *
  show (if x < 32 then _ else if 126 < x then _ else _) = _
  have d : (0 : Int32) + 1 = 1 := by decide
  by_cases c0 : x = 0
  · subst c0
    rw [if_pos (by decide), if_pos (Or.inl rfl)]
    show f_SF_isText_2 N (n + 8) w nl (0 + 1) h = _
    rw [d]; exact ih
  · by_cases c1 : x < 32
    · rw [if_pos c1]
      show (if x = 0 then _ else if (0 : Int32) = 0 then (if nl = 0 then _ else if x = 10 then _ else _) else _) = _
      rw [if_neg c0, if_pos rfl]
      by_cases c2 : nl = 0
      · rw [if_pos c2, if_neg (by rintro (z | z | z); exact c0 z; exact absurd z.1 (by lia); exact z.1 c2)]
      · rw [if_neg c2]
        by_cases c3 : x = 10
        · rw [if_pos c3, if_pos (Or.inr (Or.inr ⟨c2, c3⟩))]
          show f_SF_isText_2 N (n + 8) w nl (0 + 1) h = _
          rw [d]; exact ih
        · rw [if_neg c3, if_neg (by rintro (z | z | z); exact c0 z; exact absurd z.1 (by lia); exact c3 z.2)]
    · rw [if_neg c1]
      by_cases c4 : 126 < x
      · rw [if_pos c4]
        show (if x = 0 then _ else if (0 : Int32) = 0 then (if nl = 0 then _ else if x = 10 then _ else _) else _) = _
        rw [if_neg c0, if_pos rfl, if_neg (show ¬ x = 10 by lia), ite_self, if_neg (by rintro (z | z | z); exact c0 z; exact absurd z.2 (by lia); exact absurd z.2 (by lia))]
      · rw [if_neg c4]
        show (if x = 0 then _ else if (1 : Int32) = 0 then _ else f_SF_isText_2 N (n + 8) w nl (0 + 1) h) = _
        rw [if_neg c0, if_neg (by decide), d, if_pos (Or.inr (Or.inl ⟨by lia, by lia⟩))]; exact ih
theorem q_tlF {F : Int64 → Int32 → Int32 → z_H → Option (Int32 × z_H)} {w : Int64} {c x k k1 y : Int32} {h : z_H} (d : k + 1 = k1) (e1 : ∀ c, F w c k1 h = some (c + y, h)) : (z_b (some (x, h)) fun r2 => if (r2.1) = 0 then (z_b (some (k + 1)) fun x4 => F w c x4 r2.2) else (z_b (some (c + 1)) fun x5 => z_b (some (k + 1)) fun x6 => F w x5 x6 r2.2)) = some (c + if x = 0 then y else y + 1, h) := by
  show (if x = 0 then F w c (k + 1) h else F w (c + 1) (k + 1) h) = _
  rw [d, e1, e1]
  by_cases z : x = 0
  · rw [if_pos z, if_pos z]
  · rw [if_neg z, if_neg z, show c + 1 + y = c + (y + 1) from by rw [Int32.add_assoc, Int32.add_comm 1]]
theorem q_tl_0 (N n : Nat) (w : Int64) (c : Int32) (h : z_H) : f_SF_textLength_4 N (n + 1) w c 8 h = some (c + q_cn w 0, h) := by
  rw [f_SF_textLength_4, if_pos (by decide), q_cn_0, Int32.add_zero]
theorem q_tl_1 (N n : Nat) (w : Int64) (c : Int32) (h : z_H) : f_SF_textLength_4 N (n + 2) w c 7 h = some (c + q_cn w 1, h) := by
  have e : f_SF_byteOf N w 7 h = some (q_by w 7, h) := by rw [← q_by7]; rfl
  rw [f_SF_textLength_4, if_neg (by decide), e, q_cn_1]
  exact q_tlF (F := f_SF_textLength_4 N (n + 1)) (k := 7) (k1 := 8) (by decide) (fun c => q_tl_0 N n w c h)
theorem q_tl_2 (N n : Nat) (w : Int64) (c : Int32) (h : z_H) : f_SF_textLength_4 N (n + 3) w c 6 h = some (c + q_cn w 2, h) := by
  have e : f_SF_byteOf N w 6 h = some (q_by w 6, h) := by rw [← q_by6]; rfl
  rw [f_SF_textLength_4, if_neg (by decide), e, q_cn_2]
  exact q_tlF (F := f_SF_textLength_4 N (n + 2)) (k := 6) (k1 := 7) (by decide) (fun c => q_tl_1 N n w c h)
theorem q_tl_3 (N n : Nat) (w : Int64) (c : Int32) (h : z_H) : f_SF_textLength_4 N (n + 4) w c 5 h = some (c + q_cn w 3, h) := by
  have e : f_SF_byteOf N w 5 h = some (q_by w 5, h) := by rw [← q_by5]; rfl
  rw [f_SF_textLength_4, if_neg (by decide), e, q_cn_3]
  exact q_tlF (F := f_SF_textLength_4 N (n + 3)) (k := 5) (k1 := 6) (by decide) (fun c => q_tl_2 N n w c h)
theorem q_tl_4 (N n : Nat) (w : Int64) (c : Int32) (h : z_H) : f_SF_textLength_4 N (n + 5) w c 4 h = some (c + q_cn w 4, h) := by
  have e : f_SF_byteOf N w 4 h = some (q_by w 4, h) := by rw [← q_by4]; rfl
  rw [f_SF_textLength_4, if_neg (by decide), e, q_cn_4]
  exact q_tlF (F := f_SF_textLength_4 N (n + 4)) (k := 4) (k1 := 5) (by decide) (fun c => q_tl_3 N n w c h)
theorem q_tl_5 (N n : Nat) (w : Int64) (c : Int32) (h : z_H) : f_SF_textLength_4 N (n + 6) w c 3 h = some (c + q_cn w 5, h) := by
  have e : f_SF_byteOf N w 3 h = some (q_by w 3, h) := by rw [← q_by3]; rfl
  rw [f_SF_textLength_4, if_neg (by decide), e, q_cn_5]
  exact q_tlF (F := f_SF_textLength_4 N (n + 5)) (k := 3) (k1 := 4) (by decide) (fun c => q_tl_4 N n w c h)
theorem q_tl_6 (N n : Nat) (w : Int64) (c : Int32) (h : z_H) : f_SF_textLength_4 N (n + 7) w c 2 h = some (c + q_cn w 6, h) := by
  have e : f_SF_byteOf N w 2 h = some (q_by w 2, h) := by rw [← q_by2]; rfl
  rw [f_SF_textLength_4, if_neg (by decide), e, q_cn_6]
  exact q_tlF (F := f_SF_textLength_4 N (n + 6)) (k := 2) (k1 := 3) (by decide) (fun c => q_tl_5 N n w c h)
theorem q_tl_7 (N n : Nat) (w : Int64) (c : Int32) (h : z_H) : f_SF_textLength_4 N (n + 8) w c 1 h = some (c + q_cn w 7, h) := by
  have e : f_SF_byteOf N w 1 h = some (q_by w 1, h) := by rw [← q_by1]; rfl
  rw [f_SF_textLength_4, if_neg (by decide), e, q_cn_7]
  exact q_tlF (F := f_SF_textLength_4 N (n + 7)) (k := 1) (k1 := 2) (by decide) (fun c => q_tl_6 N n w c h)
theorem q_tl_8 (N n : Nat) (w : Int64) (c : Int32) (h : z_H) : f_SF_textLength_4 N (n + 9) w c 0 h = some (c + q_cn w 8, h) := by
  have e : f_SF_byteOf N w 0 h = some (q_by w 0, h) := by rw [← q_by0]; rfl
  rw [f_SF_textLength_4, if_neg (by decide), e, q_cn_8]
  exact q_tlF (F := f_SF_textLength_4 N (n + 8)) (k := 0) (k1 := 1) (by decide) (fun c => q_tl_7 N n w c h)
theorem q_isText {N : Nat} (hN : 100000 ≤ N) (w : Int64) (nl : Int32) (h : z_H) : f_SF_isText N w nl h = some (q_okc w nl 8, h) := by
  obtain ⟨n, rfl⟩ : ∃ n, N = n + 9 := ⟨N - 9, by omega⟩
  exact q_isT_8 _ n w nl h
theorem q_textLength {N : Nat} (hN : 100000 ≤ N) (w : Int64) (h : z_H) : f_SF_textLength N w h = some (q_cn w 8, h) := by
  obtain ⟨n, rfl⟩ : ∃ n, N = n + 9 := ⟨N - 9, by omega⟩
  have e := q_tl_8 (n + 9) n w 0 h
  rw [Int32.zero_add] at e; exact e
theorem q_aT_0 {L : q_L} {W : Nat → Prop} {h0 : z_H} {π : Nat → Nat → Option Nat} {N n v0 : Nat} {w : Int64} {h : z_H} (T : q_U L W h0 π h) (kv0 : qκ L v0 = 11) (w0 : W v0) (w1 : W (v0 + 1)) : qk (f_SF_addText_2 N (n + 1) v0 w 8 h) (fun h' => q_U L W h0 π h' ∧ (∀ a k, ¬ (a = v0 ∧ k = 1) → vI h' a k = vI h a k) ∧ (∀ a j, 0 ≤ j → a ≠ v0 + 1 → vA h' a j = vA h a j) ∧ (vI h v0 1 + q_cn w 0 ≤ qhi L v0 1 → vI h' v0 1 = vI h v0 1 + q_cn w 0)) := by
  rw [f_SF_addText_2, if_pos (by decide)]
  refine qk_some ⟨T, fun _ _ _ => rfl, fun _ _ _ _ => rfl, fun _ => ?_⟩
  rw [q_cn_0, Int32.add_zero]
theorem q_aT_1 {L : q_L} {W : Nat → Prop} {h0 : z_H} {π : Nat → Nat → Option Nat} {N n v0 : Nat} {w : Int64} {h : z_H} (T : q_U L W h0 π h) (kv0 : qκ L v0 = 11) (w0 : W v0) (w1 : W (v0 + 1)) : qk (f_SF_addText_2 N (n + 2) v0 w 7 h) (fun h' => q_U L W h0 π h' ∧ (∀ a k, ¬ (a = v0 ∧ k = 1) → vI h' a k = vI h a k) ∧ (∀ a j, 0 ≤ j → a ≠ v0 + 1 → vA h' a j = vA h a j) ∧ (vI h v0 1 + q_cn w 1 ≤ qhi L v0 1 → vI h' v0 1 = vI h v0 1 + q_cn w 1)) := by
  have e : f_SF_byteOf N w 7 h = some (q_by w 7, h) := by rw [← q_by7]; rfl
  have d : (7 : Int32) + 1 = 8 := by decide
  have hc := q_cnr_0 w
  have hr := q_rowhi T kv0
  rw [f_SF_addText_2, if_neg (by decide), e, q_cn_1]
  refine qk_bs ?_
  refine qk_bs ?_
  dsimp only
  refine qk_if (fun c => ?_) (fun c => ?_)
  · rw [if_pos c]; refine qk_bs ?_; rw [d]; exact q_aT_0 T kv0 w0 w1
  · rw [if_neg c]
    refine r_Row_o T kv0 ?_
    refine c_Row_add T kv0 w0 w1 ?_
    intro h1 T1 g0 g1
    refine qk_bs ?_
    rw [d]
    refine qk_mono (q_aT_0 T1 kv0 w0 w1) ?_
    rintro h' ⟨T2, a1, a2, a3⟩
    refine ⟨T2, fun a k z => ?_, fun a j j0 z => ?_, fun z => ?_⟩
    · rw [a1 a k z, g0, if_neg z]
    · rw [a2 a j j0 z, g1 a j j0 z]
    · have b := g0 v0 1
      rw [if_pos ⟨rfl, rfl⟩] at b
      generalize q_cn w 0 = y at *
      have nf : ¬ qhi L v0 1 ≤ vI h v0 1 := by lia
      rw [if_neg nf] at b
      rw [b] at a3
      rw [a3 (by lia)]
      grind
theorem q_aT_2 {L : q_L} {W : Nat → Prop} {h0 : z_H} {π : Nat → Nat → Option Nat} {N n v0 : Nat} {w : Int64} {h : z_H} (T : q_U L W h0 π h) (kv0 : qκ L v0 = 11) (w0 : W v0) (w1 : W (v0 + 1)) : qk (f_SF_addText_2 N (n + 3) v0 w 6 h) (fun h' => q_U L W h0 π h' ∧ (∀ a k, ¬ (a = v0 ∧ k = 1) → vI h' a k = vI h a k) ∧ (∀ a j, 0 ≤ j → a ≠ v0 + 1 → vA h' a j = vA h a j) ∧ (vI h v0 1 + q_cn w 2 ≤ qhi L v0 1 → vI h' v0 1 = vI h v0 1 + q_cn w 2)) := by
  have e : f_SF_byteOf N w 6 h = some (q_by w 6, h) := by rw [← q_by6]; rfl
  have d : (6 : Int32) + 1 = 7 := by decide
  have hc := q_cnr_1 w
  have hr := q_rowhi T kv0
  rw [f_SF_addText_2, if_neg (by decide), e, q_cn_2]
  refine qk_bs ?_
  refine qk_bs ?_
  dsimp only
  refine qk_if (fun c => ?_) (fun c => ?_)
  · rw [if_pos c]; refine qk_bs ?_; rw [d]; exact q_aT_1 T kv0 w0 w1
  · rw [if_neg c]
    refine r_Row_o T kv0 ?_
    refine c_Row_add T kv0 w0 w1 ?_
    intro h1 T1 g0 g1
    refine qk_bs ?_
    rw [d]
    refine qk_mono (q_aT_1 T1 kv0 w0 w1) ?_
    rintro h' ⟨T2, a1, a2, a3⟩
    refine ⟨T2, fun a k z => ?_, fun a j j0 z => ?_, fun z => ?_⟩
    · rw [a1 a k z, g0, if_neg z]
    · rw [a2 a j j0 z, g1 a j j0 z]
    · have b := g0 v0 1
      rw [if_pos ⟨rfl, rfl⟩] at b
      generalize q_cn w 1 = y at *
      have nf : ¬ qhi L v0 1 ≤ vI h v0 1 := by lia
      rw [if_neg nf] at b
      rw [b] at a3
      rw [a3 (by lia)]
      grind
theorem q_aT_3 {L : q_L} {W : Nat → Prop} {h0 : z_H} {π : Nat → Nat → Option Nat} {N n v0 : Nat} {w : Int64} {h : z_H} (T : q_U L W h0 π h) (kv0 : qκ L v0 = 11) (w0 : W v0) (w1 : W (v0 + 1)) : qk (f_SF_addText_2 N (n + 4) v0 w 5 h) (fun h' => q_U L W h0 π h' ∧ (∀ a k, ¬ (a = v0 ∧ k = 1) → vI h' a k = vI h a k) ∧ (∀ a j, 0 ≤ j → a ≠ v0 + 1 → vA h' a j = vA h a j) ∧ (vI h v0 1 + q_cn w 3 ≤ qhi L v0 1 → vI h' v0 1 = vI h v0 1 + q_cn w 3)) := by
  have e : f_SF_byteOf N w 5 h = some (q_by w 5, h) := by rw [← q_by5]; rfl
  have d : (5 : Int32) + 1 = 6 := by decide
  have hc := q_cnr_2 w
  have hr := q_rowhi T kv0
  rw [f_SF_addText_2, if_neg (by decide), e, q_cn_3]
  refine qk_bs ?_
  refine qk_bs ?_
  dsimp only
  refine qk_if (fun c => ?_) (fun c => ?_)
  · rw [if_pos c]; refine qk_bs ?_; rw [d]; exact q_aT_2 T kv0 w0 w1
  · rw [if_neg c]
    refine r_Row_o T kv0 ?_
    refine c_Row_add T kv0 w0 w1 ?_
    intro h1 T1 g0 g1
    refine qk_bs ?_
    rw [d]
    refine qk_mono (q_aT_2 T1 kv0 w0 w1) ?_
    rintro h' ⟨T2, a1, a2, a3⟩
    refine ⟨T2, fun a k z => ?_, fun a j j0 z => ?_, fun z => ?_⟩
    · rw [a1 a k z, g0, if_neg z]
    · rw [a2 a j j0 z, g1 a j j0 z]
    · have b := g0 v0 1
      rw [if_pos ⟨rfl, rfl⟩] at b
      generalize q_cn w 2 = y at *
      have nf : ¬ qhi L v0 1 ≤ vI h v0 1 := by lia
      rw [if_neg nf] at b
      rw [b] at a3
      rw [a3 (by lia)]
      grind
theorem q_aT_4 {L : q_L} {W : Nat → Prop} {h0 : z_H} {π : Nat → Nat → Option Nat} {N n v0 : Nat} {w : Int64} {h : z_H} (T : q_U L W h0 π h) (kv0 : qκ L v0 = 11) (w0 : W v0) (w1 : W (v0 + 1)) : qk (f_SF_addText_2 N (n + 5) v0 w 4 h) (fun h' => q_U L W h0 π h' ∧ (∀ a k, ¬ (a = v0 ∧ k = 1) → vI h' a k = vI h a k) ∧ (∀ a j, 0 ≤ j → a ≠ v0 + 1 → vA h' a j = vA h a j) ∧ (vI h v0 1 + q_cn w 4 ≤ qhi L v0 1 → vI h' v0 1 = vI h v0 1 + q_cn w 4)) := by
  have e : f_SF_byteOf N w 4 h = some (q_by w 4, h) := by rw [← q_by4]; rfl
  have d : (4 : Int32) + 1 = 5 := by decide
  have hc := q_cnr_3 w
  have hr := q_rowhi T kv0
  rw [f_SF_addText_2, if_neg (by decide), e, q_cn_4]
  refine qk_bs ?_
  refine qk_bs ?_
  dsimp only
  refine qk_if (fun c => ?_) (fun c => ?_)
  · rw [if_pos c]; refine qk_bs ?_; rw [d]; exact q_aT_3 T kv0 w0 w1
  · rw [if_neg c]
    refine r_Row_o T kv0 ?_
    refine c_Row_add T kv0 w0 w1 ?_
    intro h1 T1 g0 g1
    refine qk_bs ?_
    rw [d]
    refine qk_mono (q_aT_3 T1 kv0 w0 w1) ?_
    rintro h' ⟨T2, a1, a2, a3⟩
    refine ⟨T2, fun a k z => ?_, fun a j j0 z => ?_, fun z => ?_⟩
    · rw [a1 a k z, g0, if_neg z]
    · rw [a2 a j j0 z, g1 a j j0 z]
    · have b := g0 v0 1
      rw [if_pos ⟨rfl, rfl⟩] at b
      generalize q_cn w 3 = y at *
      have nf : ¬ qhi L v0 1 ≤ vI h v0 1 := by lia
      rw [if_neg nf] at b
      rw [b] at a3
      rw [a3 (by lia)]
      grind
theorem q_aT_5 {L : q_L} {W : Nat → Prop} {h0 : z_H} {π : Nat → Nat → Option Nat} {N n v0 : Nat} {w : Int64} {h : z_H} (T : q_U L W h0 π h) (kv0 : qκ L v0 = 11) (w0 : W v0) (w1 : W (v0 + 1)) : qk (f_SF_addText_2 N (n + 6) v0 w 3 h) (fun h' => q_U L W h0 π h' ∧ (∀ a k, ¬ (a = v0 ∧ k = 1) → vI h' a k = vI h a k) ∧ (∀ a j, 0 ≤ j → a ≠ v0 + 1 → vA h' a j = vA h a j) ∧ (vI h v0 1 + q_cn w 5 ≤ qhi L v0 1 → vI h' v0 1 = vI h v0 1 + q_cn w 5)) := by
  have e : f_SF_byteOf N w 3 h = some (q_by w 3, h) := by rw [← q_by3]; rfl
  have d : (3 : Int32) + 1 = 4 := by decide
  have hc := q_cnr_4 w
  have hr := q_rowhi T kv0
  rw [f_SF_addText_2, if_neg (by decide), e, q_cn_5]
  refine qk_bs ?_
  refine qk_bs ?_
  dsimp only
  refine qk_if (fun c => ?_) (fun c => ?_)
  · rw [if_pos c]; refine qk_bs ?_; rw [d]; exact q_aT_4 T kv0 w0 w1
  · rw [if_neg c]
    refine r_Row_o T kv0 ?_
    refine c_Row_add T kv0 w0 w1 ?_
    intro h1 T1 g0 g1
    refine qk_bs ?_
    rw [d]
    refine qk_mono (q_aT_4 T1 kv0 w0 w1) ?_
    rintro h' ⟨T2, a1, a2, a3⟩
    refine ⟨T2, fun a k z => ?_, fun a j j0 z => ?_, fun z => ?_⟩
    · rw [a1 a k z, g0, if_neg z]
    · rw [a2 a j j0 z, g1 a j j0 z]
    · have b := g0 v0 1
      rw [if_pos ⟨rfl, rfl⟩] at b
      generalize q_cn w 4 = y at *
      have nf : ¬ qhi L v0 1 ≤ vI h v0 1 := by lia
      rw [if_neg nf] at b
      rw [b] at a3
      rw [a3 (by lia)]
      grind
theorem q_aT_6 {L : q_L} {W : Nat → Prop} {h0 : z_H} {π : Nat → Nat → Option Nat} {N n v0 : Nat} {w : Int64} {h : z_H} (T : q_U L W h0 π h) (kv0 : qκ L v0 = 11) (w0 : W v0) (w1 : W (v0 + 1)) : qk (f_SF_addText_2 N (n + 7) v0 w 2 h) (fun h' => q_U L W h0 π h' ∧ (∀ a k, ¬ (a = v0 ∧ k = 1) → vI h' a k = vI h a k) ∧ (∀ a j, 0 ≤ j → a ≠ v0 + 1 → vA h' a j = vA h a j) ∧ (vI h v0 1 + q_cn w 6 ≤ qhi L v0 1 → vI h' v0 1 = vI h v0 1 + q_cn w 6)) := by
  have e : f_SF_byteOf N w 2 h = some (q_by w 2, h) := by rw [← q_by2]; rfl
  have d : (2 : Int32) + 1 = 3 := by decide
  have hc := q_cnr_5 w
  have hr := q_rowhi T kv0
  rw [f_SF_addText_2, if_neg (by decide), e, q_cn_6]
  refine qk_bs ?_
  refine qk_bs ?_
  dsimp only
  refine qk_if (fun c => ?_) (fun c => ?_)
  · rw [if_pos c]; refine qk_bs ?_; rw [d]; exact q_aT_5 T kv0 w0 w1
  · rw [if_neg c]
    refine r_Row_o T kv0 ?_
    refine c_Row_add T kv0 w0 w1 ?_
    intro h1 T1 g0 g1
    refine qk_bs ?_
    rw [d]
    refine qk_mono (q_aT_5 T1 kv0 w0 w1) ?_
    rintro h' ⟨T2, a1, a2, a3⟩
    refine ⟨T2, fun a k z => ?_, fun a j j0 z => ?_, fun z => ?_⟩
    · rw [a1 a k z, g0, if_neg z]
    · rw [a2 a j j0 z, g1 a j j0 z]
    · have b := g0 v0 1
      rw [if_pos ⟨rfl, rfl⟩] at b
      generalize q_cn w 5 = y at *
      have nf : ¬ qhi L v0 1 ≤ vI h v0 1 := by lia
      rw [if_neg nf] at b
      rw [b] at a3
      rw [a3 (by lia)]
      grind
theorem q_aT_7 {L : q_L} {W : Nat → Prop} {h0 : z_H} {π : Nat → Nat → Option Nat} {N n v0 : Nat} {w : Int64} {h : z_H} (T : q_U L W h0 π h) (kv0 : qκ L v0 = 11) (w0 : W v0) (w1 : W (v0 + 1)) : qk (f_SF_addText_2 N (n + 8) v0 w 1 h) (fun h' => q_U L W h0 π h' ∧ (∀ a k, ¬ (a = v0 ∧ k = 1) → vI h' a k = vI h a k) ∧ (∀ a j, 0 ≤ j → a ≠ v0 + 1 → vA h' a j = vA h a j) ∧ (vI h v0 1 + q_cn w 7 ≤ qhi L v0 1 → vI h' v0 1 = vI h v0 1 + q_cn w 7)) := by
  have e : f_SF_byteOf N w 1 h = some (q_by w 1, h) := by rw [← q_by1]; rfl
  have d : (1 : Int32) + 1 = 2 := by decide
  have hc := q_cnr_6 w
  have hr := q_rowhi T kv0
  rw [f_SF_addText_2, if_neg (by decide), e, q_cn_7]
  refine qk_bs ?_
  refine qk_bs ?_
  dsimp only
  refine qk_if (fun c => ?_) (fun c => ?_)
  · rw [if_pos c]; refine qk_bs ?_; rw [d]; exact q_aT_6 T kv0 w0 w1
  · rw [if_neg c]
    refine r_Row_o T kv0 ?_
    refine c_Row_add T kv0 w0 w1 ?_
    intro h1 T1 g0 g1
    refine qk_bs ?_
    rw [d]
    refine qk_mono (q_aT_6 T1 kv0 w0 w1) ?_
    rintro h' ⟨T2, a1, a2, a3⟩
    refine ⟨T2, fun a k z => ?_, fun a j j0 z => ?_, fun z => ?_⟩
    · rw [a1 a k z, g0, if_neg z]
    · rw [a2 a j j0 z, g1 a j j0 z]
    · have b := g0 v0 1
      rw [if_pos ⟨rfl, rfl⟩] at b
      generalize q_cn w 6 = y at *
      have nf : ¬ qhi L v0 1 ≤ vI h v0 1 := by lia
      rw [if_neg nf] at b
      rw [b] at a3
      rw [a3 (by lia)]
      grind
theorem q_aT_8 {L : q_L} {W : Nat → Prop} {h0 : z_H} {π : Nat → Nat → Option Nat} {N n v0 : Nat} {w : Int64} {h : z_H} (T : q_U L W h0 π h) (kv0 : qκ L v0 = 11) (w0 : W v0) (w1 : W (v0 + 1)) : qk (f_SF_addText_2 N (n + 9) v0 w 0 h) (fun h' => q_U L W h0 π h' ∧ (∀ a k, ¬ (a = v0 ∧ k = 1) → vI h' a k = vI h a k) ∧ (∀ a j, 0 ≤ j → a ≠ v0 + 1 → vA h' a j = vA h a j) ∧ (vI h v0 1 + q_cn w 8 ≤ qhi L v0 1 → vI h' v0 1 = vI h v0 1 + q_cn w 8)) := by
  have e : f_SF_byteOf N w 0 h = some (q_by w 0, h) := by rw [← q_by0]; rfl
  have d : (0 : Int32) + 1 = 1 := by decide
  have hc := q_cnr_7 w
  have hr := q_rowhi T kv0
  rw [f_SF_addText_2, if_neg (by decide), e, q_cn_8]
  refine qk_bs ?_
  refine qk_bs ?_
  dsimp only
  refine qk_if (fun c => ?_) (fun c => ?_)
  · rw [if_pos c]; refine qk_bs ?_; rw [d]; exact q_aT_7 T kv0 w0 w1
  · rw [if_neg c]
    refine r_Row_o T kv0 ?_
    refine c_Row_add T kv0 w0 w1 ?_
    intro h1 T1 g0 g1
    refine qk_bs ?_
    rw [d]
    refine qk_mono (q_aT_7 T1 kv0 w0 w1) ?_
    rintro h' ⟨T2, a1, a2, a3⟩
    refine ⟨T2, fun a k z => ?_, fun a j j0 z => ?_, fun z => ?_⟩
    · rw [a1 a k z, g0, if_neg z]
    · rw [a2 a j j0 z, g1 a j j0 z]
    · have b := g0 v0 1
      rw [if_pos ⟨rfl, rfl⟩] at b
      generalize q_cn w 7 = y at *
      have nf : ¬ qhi L v0 1 ≤ vI h v0 1 := by lia
      rw [if_neg nf] at b
      rw [b] at a3
      rw [a3 (by lia)]
      grind
theorem p_SF_isText {L : q_L} {W : Nat → Prop} {h0 : z_H} {π : Nat → Nat → Option Nat} {N : Nat} {h : z_H} {v0 : Int64} {v2 : Int32} (T : q_U L W h0 π h) (hN : 100000 ≤ N) : qk (f_SF_isText N v0 v2 h) (fun r => r.2 = h ∧ (r.1 = q_okc v0 v2 8)) := ⟨_, q_isText hN v0 v2 h, rfl, rfl⟩
theorem p_SF_textLength {L : q_L} {W : Nat → Prop} {h0 : z_H} {π : Nat → Nat → Option Nat} {N : Nat} {h : z_H} {v0 : Int64} (T : q_U L W h0 π h) (hN : 100000 ≤ N) : qk (f_SF_textLength N v0 h) (fun r => r.2 = h ∧ (r.1 = q_cn v0 8)) := ⟨_, q_textLength hN v0 h, rfl, rfl⟩
theorem p_SF_addText {L : q_L} {W : Nat → Prop} {h0 : z_H} {π : Nat → Nat → Option Nat} {N : Nat} {h : z_H} {v0 : Nat} {v1 : Int64} (T : q_U L W h0 π h) (kv0 : qκ L v0 = 11) (w0 : W v0) (w1 : W (v0 + 1)) (hN : 100000 ≤ N) : qk (f_SF_addText N v0 v1 h) (fun r => q_U L W h0 π r ∧ (∀ a k, ¬ (a = v0 ∧ k = 1) → vI r a k = vI h a k) ∧ (∀ a j, 0 ≤ j → a ≠ v0 + 1 → vA r a j = vA h a j) ∧ (vI h v0 1 + q_cn v1 8 ≤ qhi L v0 1 → vI r v0 1 = vI h v0 1 + q_cn v1 8)) := by
  obtain ⟨n, rfl⟩ : ∃ n, N = n + 9 := ⟨N - 9, by omega⟩
  exact q_aT_8 T kv0 w0 w1
