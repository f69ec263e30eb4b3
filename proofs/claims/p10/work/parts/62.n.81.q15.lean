/-! contents: a replacement's codes, as a machine -/
abbrev x_R3 : Type := Int32 × Int32 × (Int32 → Int32)
def x_rcb (b : Int32) : Int32 := if 49 ≤ b ∧ b ≤ 51 then 200 + (b - 48) else if b = 110 then 10 else b
def x_rst (t : Int32 → Int32) (n : Int32) (s : x_R3) : x_R3 := if x_lk t n s.1 = 92 then (s.1 + 2, s.2.1 + 1, x_up s.2.2 s.2.1 (x_rcb (x_lk t n (s.1 + 1)))) else (s.1 + 1, s.2.1 + 1, x_up s.2.2 s.2.1 (if x_lk t n s.1 = 38 then 200 else x_lk t n s.1))
def x_rsp (t : Int32 → Int32) (n : Int32) (s : x_R3) : Bool := decide (x_lk t n s.1 = 47)
/-- place of the /, how many codes, the codes -/
noncomputable def x_rW (t : Int32 → Int32) (n : Int32) (s : x_R3) : x_R3 := x_wh (0, 0, fun _ => 0) (x_rsp t n) (x_rst t n) s
section Q15
variable {t : Int32 → Int32} {n : Int32} {s : x_R3}
theorem x_rW_t (h : x_lk t n s.1 = 47) : x_rW t n s = s := x_wh_t (by simp only [x_rsp, h, decide_true])
theorem x_rW_s (h : ¬ x_lk t n s.1 = 47) : x_rW t n s = x_rW t n (x_rst t n s) := x_wh_s (by simp only [x_rsp, h, decide_false])
theorem x_rW_92 (h : x_lk t n s.1 = 92) : x_rW t n s = x_rW t n (s.1 + 2, s.2.1 + 1, x_up s.2.2 s.2.1 (x_rcb (x_lk t n (s.1 + 1)))) := by
  rw [x_rW_s (by rw [h]; decide), x_rst, if_pos h]
theorem x_rW_n (h : ¬ x_lk t n s.1 = 47) (h2 : ¬ x_lk t n s.1 = 92) : x_rW t n s = x_rW t n (s.1 + 1, s.2.1 + 1, x_up s.2.2 s.2.1 (if x_lk t n s.1 = 38 then 200 else x_lk t n s.1)) := by
  rw [x_rW_s h, x_rst, if_neg h2]
end Q15
