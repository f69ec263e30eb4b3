/-! what a script is: the text is a function t, its length n; a place is an Int32 -/
def x_lk (t : Int32 → Int32) (n a : Int32) : Int32 := if a < n then t a else -1
theorem x_add {a k : Int32} (h : a.toInt ≤ 1000) (h1 : 0 ≤ k.toInt) (h4 : k.toInt ≤ 1000) : (a + k).toInt = a.toInt + k.toInt := by
  have l := a.le_toInt
  rw [Int32.toInt_add]
  exact Int.bmod_eq_of_le_mul_two (by omega) (by omega)
theorem x_dec {n a : Int32} (k : Int32) (h : a < n ∧ n ≤ 1000) (h1 : 1 ≤ k.toInt) (h4 : k.toInt ≤ 4) : (n.toInt - (a + k).toInt).toNat < (n.toInt - a.toInt).toNat := by
  have e1 := Int32.lt_iff_toInt_lt.mp h.1
  have e2 := Int32.le_iff_toInt_le.mp h.2
  have c1 : (1000 : Int32).toInt = 1000 := rfl
  rw [x_add (by omega) (by omega) (by omega)]
  omega
/-- a set, from behind its [ (and its ^): behind its ], or none -/
def x_set (t : Int32 → Int32) (n a : Int32) : Option Int32 :=
  if h : a < n ∧ n ≤ 1000 then
    if t a = 10 ∨ t a = 47 ∨ t a = 93 then none
    else if x_lk t n (a + 1) = 45 ∧ x_lk t n (a + 2) ≠ 93 then
      (if x_lk t n (a + 2) = -1 ∨ x_lk t n (a + 2) = 10 ∨ x_lk t n (a + 2) = 47 ∨ x_lk t n (a + 2) = 93 ∨ x_lk t n (a + 2) < t a then none
      else if x_lk t n (a + 3) = 93 then some (a + 4) else x_set t n (a + 3))
    else if x_lk t n (a + 1) = 93 then some (a + 2) else x_set t n (a + 1)
  else none
termination_by (n.toInt - a.toInt).toNat
decreasing_by
  · exact x_dec 3 h (by decide) (by decide)
  · exact x_dec 1 h (by decide) (by decide)
/-- a pattern from a place on: ic items, sc stars, gr groups, go ≠ 0 in a group, rp = 1 where a star may stand: behind its /, and how many groups -/
def x_pat (t : Int32 → Int32) (n a ic sc gr go rp : Int32) : Option (Int32 × Int32) :=
  if h : a < n ∧ n ≤ 1000 then
    if t a = 47 then (if go = 0 then some (a + 1, gr) else none)
    else if t a = 42 then (if rp = 0 ∨ sc = 2 then none else x_pat t n (a + 1) ic (sc + 1) gr go 0)
    else if t a = 92 then
      (if x_lk t n (a + 1) = 40 then (if go = 0 ∧ gr ≠ 3 then x_pat t n (a + 2) ic sc (gr + 1) 1 0 else none)
      else if x_lk t n (a + 1) = 41 then (if go = 0 then none else x_pat t n (a + 2) ic sc gr 0 0)
      else if 49 ≤ x_lk t n (a + 1) ∧ x_lk t n (a + 1) ≤ 51 then (if (gr < x_lk t n (a + 1) - 48 ∨ (x_lk t n (a + 1) - 48 = gr ∧ go ≠ 0)) ∨ ic = 14 then none else x_pat t n (a + 2) (ic + 1) sc gr go 0)
      else if x_lk t n (a + 1) = 47 ∨ x_lk t n (a + 1) = 92 ∨ x_lk t n (a + 1) = 91 ∨ x_lk t n (a + 1) = 42 ∨ x_lk t n (a + 1) = 46 ∨ x_lk t n (a + 1) = 94 ∨ x_lk t n (a + 1) = 36 then (if ic = 14 then none else x_pat t n (a + 2) (ic + 1) sc gr go 1)
      else none)
    else if t a = 91 then
      (if ic = 14 then none else
      match x_set t n (if x_lk t n (a + 1) = 94 then a + 2 else a + 1) with
      | none => none
      | some b => if hb : a < b then x_pat t n b (ic + 1) sc gr go 1 else none)
    else if t a = 36 ∧ go = 0 ∧ x_lk t n (a + 1) = 47 then some (a + 2, gr)
    else if t a = 10 then none
    else if ic = 14 then none else x_pat t n (a + 1) (ic + 1) sc gr go 1
  else none
termination_by (n.toInt - a.toInt).toNat
decreasing_by
  · exact x_dec 1 h (by decide) (by decide)
  · exact x_dec 2 h (by decide) (by decide)
  · exact x_dec 2 h (by decide) (by decide)
  · exact x_dec 2 h (by decide) (by decide)
  · exact x_dec 2 h (by decide) (by decide)
  · have e1 := Int32.lt_iff_toInt_lt.mp h.1
    have e2 := Int32.lt_iff_toInt_lt.mp hb
    omega
  · exact x_dec 1 h (by decide) (by decide)
def x_pattern (t : Int32 → Int32) (n a : Int32) : Option (Int32 × Int32) := if x_lk t n a = 94 then x_pat t n (a + 1) 0 0 0 0 0 else x_pat t n a 0 0 0 0 0
/-! the rest of a script -/
def x_bl (t : Int32 → Int32) (n a : Int32) : Int32 :=
  if h : a < n ∧ n ≤ 1000 then (if t a = 32 then x_bl t n (a + 1) else a) else a
termination_by (n.toInt - a.toInt).toNat
decreasing_by exact x_dec 1 h (by decide) (by decide)
def x_nl (t : Int32 → Int32) (n a : Int32) : Int32 :=
  if h : a < n ∧ n ≤ 1000 then (if t a = 10 then a else x_nl t n (a + 1)) else a
termination_by (n.toInt - a.toInt).toNat
decreasing_by exact x_dec 1 h (by decide) (by decide)
def x_st (c : Int32) : Prop := c = 36 ∨ c = 47 ∨ (49 ≤ c ∧ c ≤ 57)
def x_adr (t : Int32 → Int32) (n a : Int32) : Option Int32 :=
  if x_lk t n a = 47 then (x_pattern t n (a + 1)).map Prod.fst
  else if x_lk t n a = 36 then some (a + 1)
  else if 49 ≤ x_lk t n a ∧ x_lk t n a ≤ 57 then (if 48 ≤ x_lk t n (a + 1) ∧ x_lk t n (a + 1) ≤ 57 then some (a + 2) else some (a + 1))
  else none
/-- the addresses: the place behind them, and whether there is one -/
def x_adrs (t : Int32 → Int32) (n a : Int32) : Option (Int32 × Int32) :=
  if x_lk t n a = 36 ∨ x_lk t n a = 47 ∨ (49 ≤ x_lk t n a ∧ x_lk t n a ≤ 57) then
    (match x_adr t n a with
    | none => none
    | some b => if x_lk t n b = 44 then (match x_adr t n (b + 1) with
      | none => none
      | some d => some (d, 1)) else some (b, 1))
  else some (a, 0)
def x_neg (t : Int32 → Int32) (n a : Int32) : Int32 × Int32 := if x_lk t n (x_bl t n a) = 33 then (x_bl t n (x_bl t n a + 1), 1) else (x_bl t n a, 0)
def x_rep (t : Int32 → Int32) (n a g : Int32) : Option Int32 :=
  if h : a < n ∧ n ≤ 1000 then
    if t a = 47 then some (a + 1)
    else if t a = 10 then none
    else if t a = 92 then (if (49 ≤ x_lk t n (a + 1) ∧ x_lk t n (a + 1) ≤ 48 + g) ∨ x_lk t n (a + 1) = 38 ∨ x_lk t n (a + 1) = 47 ∨ x_lk t n (a + 1) = 92 ∨ x_lk t n (a + 1) = 110 then x_rep t n (a + 2) g else none)
    else x_rep t n (a + 1) g
  else none
termination_by (n.toInt - a.toInt).toNat
decreasing_by
  · exact x_dec 2 h (by decide) (by decide)
  · exact x_dec 1 h (by decide) (by decide)
def x_fl (t : Int32 → Int32) (n a g p d : Int32) : Int32 :=
  if h : a < n ∧ n ≤ 1000 then
    if t a = 103 ∧ g = 0 then x_fl t n (a + 1) 1 p d
    else if t a = 112 ∧ p = 0 then x_fl t n (a + 1) g 1 d
    else if 49 ≤ t a ∧ t a ≤ 57 ∧ d = 0 then x_fl t n (a + 1) g p (t a - 48)
    else a
  else a
termination_by (n.toInt - a.toInt).toNat
decreasing_by
  · exact x_dec 1 h (by decide) (by decide)
  · exact x_dec 1 h (by decide) (by decide)
  · exact x_dec 1 h (by decide) (by decide)
def x_end (c : Int32) : Bool := c == -1 || c == 32 || c == 10 || c == 59 || c == 125
def x_seen (t : Int32 → Int32) (f a c : Int32) : Int32 :=
  if h : f < a ∧ a ≤ 1000 then (if t f = c then 1 else x_seen t (f + 1) a c) else 0
termination_by (a.toInt - f.toInt).toNat
decreasing_by exact x_dec 1 h (by decide) (by decide)
def x_yf (t : Int32 → Int32) (n f a : Int32) : Option Int32 :=
  if h : a < n ∧ n ≤ 1000 then
    if t a = 47 then some a
    else if t a = 10 ∨ t a = 92 ∨ x_seen t f a (t a) = 1 then none else x_yf t n f (a + 1)
  else none
termination_by (n.toInt - a.toInt).toNat
decreasing_by exact x_dec 1 h (by decide) (by decide)
def x_yt (t : Int32 → Int32) (n k a : Int32) : Option Int32 :=
  if h : a < n ∧ n ≤ 1000 then
    if k = 0 then (if t a = 47 then some (a + 1) else none)
    else if t a = 10 ∨ t a = 92 ∨ t a = 47 then none else x_yt t n (k - 1) (a + 1)
  else none
termination_by (n.toInt - a.toInt).toNat
decreasing_by exact x_dec 1 h (by decide) (by decide)
def x_fin (t : Int32 → Int32) (n a k v : Int32) : Option (Int32 × Int32 × Int32) := if x_end (x_lk t n a) then some (a, k, v) else none
def x_sub (t : Int32 → Int32) (n a : Int32) : Option Int32 :=
  if x_lk t n a = 47 then (match x_pattern t n (a + 1) with
    | none => none
    | some b => (match x_rep t n b.1 b.2 with
      | none => none
      | some d => some (x_fl t n d 0 0 0))) else none
def x_exc (t : Int32 → Int32) (n a : Int32) : Option Int32 :=
  if x_lk t n a = 47 then (match x_yf t n (a + 1) (a + 1) with
    | none => none
    | some b => x_yt t n (b - (a + 1)) (b + 1)) else none
/-- what a command is from its letter on: behind it; 1: a block, 2: a label, 3: a branch (label or -1), 0: another -/
def x_act (t : Int32 → Int32) (n a ad : Int32) : Option (Int32 × Int32 × Int32) :=
  let c := x_lk t n a
  if c = 123 then some (a + 1, 1, 0)
  else if c = 58 then (if ad = 1 then none else if 97 ≤ x_lk t n (a + 1) ∧ x_lk t n (a + 1) ≤ 122 then x_fin t n (a + 2) 2 (x_lk t n (a + 1) - 97) else none)
  else if c = 98 ∨ c = 116 then (if 97 ≤ x_lk t n (a + 1) ∧ x_lk t n (a + 1) ≤ 122 then x_fin t n (a + 2) 3 (x_lk t n (a + 1) - 97) else x_fin t n (a + 1) 3 (-1))
  else if c = 115 then (match x_sub t n (a + 1) with
    | none => none
    | some b => x_fin t n b 0 0)
  else if c = 121 then (match x_exc t n (a + 1) with
    | none => none
    | some b => x_fin t n b 0 0)
  else if c = 97 ∨ c = 105 ∨ c = 99 then (if x_lk t n (a + 1) = 32 then some (x_nl t n (a + 2), 0, 0) else none)
  else if c = 100 ∨ c = 68 ∨ c = 112 ∨ c = 80 ∨ c = 110 ∨ c = 78 ∨ c = 104 ∨ c = 72 ∨ c = 103 ∨ c = 71 ∨ c = 120 ∨ c = 61 ∨ c = 113 then x_fin t n (a + 1) 0 0
  else none
def x_cmd (t : Int32 → Int32) (n a : Int32) : Option (Int32 × Int32 × Int32) := match x_adrs t n a with
  | none => none
  | some b => x_act t n (x_neg t n b.1).1 (if b.2 = 1 ∨ (x_neg t n b.1).2 = 1 then 1 else 0)
def x_up (f : Int32 → Int32) (i x : Int32) : Int32 → Int32 := fun j => if j = i then x else f j
/-- the script: how many commands, which labels, which label a command wants (-1: none) -/
def x_scr (t : Int32 → Int32) (n a dep size : Int32) (lab use : Int32 → Int32) : Option (Int32 × (Int32 → Int32) × (Int32 → Int32)) :=
  if h : a < n ∧ n ≤ 1000 then
    if t a = 32 ∨ t a = 10 ∨ t a = 59 then x_scr t n (a + 1) dep size lab use
    else if t a = 125 then (if dep = 0 then none else x_scr t n (a + 1) (dep - 1) size lab use)
    else if size = 40 then none
    else match x_cmd t n a with
      | none => none
      | some (b, k, v) => if hb : a < b then
          (if k = 1 then (if dep = 4 then none else x_scr t n b (dep + 1) (size + 1) lab (x_up use size (-1)))
          else if k = 2 then (if lab v = 1 then none else x_scr t n b dep (size + 1) (x_up lab v 1) (x_up use size (-1)))
          else if k = 3 then x_scr t n b dep (size + 1) lab (x_up use size v)
          else x_scr t n b dep (size + 1) lab (x_up use size (-1)))
        else none
  else if dep = 0 then some (size, lab, use) else none
termination_by (n.toInt - a.toInt).toNat
decreasing_by
  · exact x_dec 1 h (by decide) (by decide)
  · exact x_dec 1 h (by decide) (by decide)
  all_goals (have e1 := Int32.lt_iff_toInt_lt.mp h.1; have e2 := Int32.lt_iff_toInt_lt.mp hb; omega)
def x_ok (lab use : Int32 → Int32) (k s : Int32) : Bool :=
  if h : k < s ∧ s ≤ 1000 then (if use k = -1 ∨ lab (use k) = 1 then x_ok lab use (k + 1) s else false) else true
termination_by (s.toInt - k.toInt).toNat
decreasing_by exact x_dec 1 h (by decide) (by decide)
/-- how many commands the text has, if it is a script -/
def x_parse (t : Int32 → Int32) (n : Int32) : Option Int32 := match x_scr t n 0 0 0 (fun _ => 0) (fun _ => -1) with
  | none => none
  | some r => if x_ok r.2.1 r.2.2 0 r.1 then some r.1 else none
