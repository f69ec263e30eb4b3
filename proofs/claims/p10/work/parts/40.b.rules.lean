def q_n (n : Nat) : Int32 := if n ≤ 100000 then Int32.ofNat n else 100000
theorem q_qn0 : q_n 0 = 0 := rfl
theorem q_qnN {n : Nat} (h : 100000 ≤ n) : q_n n = 100000 := by
  unfold q_n
  split
  · have e : n = 100000 := by omega
    subst e; rfl
  · rfl
theorem q_qt (n : Nat) : (q_n n).toInt = min n 100000 := by
  unfold q_n
  split
  · rw [Int32.toInt_ofNat_of_lt (by omega)]; omega
  · have e : (100000 : Int32).toInt = 100000 := rfl
    rw [e]; omega
theorem q_qn (n : Nat) : q_n (n + 1) ≤ q_n n + 1 ∧ 0 ≤ q_n n ∧ q_n n ≤ 100000 ∧ 0 ≤ q_n (n + 1) ∧ q_n (n + 1) ≤ 100000 := by
  have a1 := q_qt n
  have a2 := q_qt (n + 1)
  have e0 : (0 : Int32).toInt = 0 := rfl
  have e1 : (1 : Int32).toInt = 1 := rfl
  have e6 : (100000 : Int32).toInt = 100000 := rfl
  have e7 : (q_n n + 1).toInt = (q_n n).toInt + 1 := by
    rw [Int32.toInt_add, e1]
    exact Int.bmod_eq_of_le (by omega) (by omega)
  refine ⟨?_, ?_, ?_, ?_, ?_⟩ <;> refine Int32.le_iff_toInt_le.mpr ?_ <;> omega
def q_Q (lo : Nat → Int32) (M : Int32) : Prop := lo 0 = M ∧ ∀ n, lo n ≤ lo (n + 1) + 1 ∧ (-100000) ≤ lo (n + 1) ∧ lo (n + 1) ≤ 100000
theorem q_lo {M : Int32} (h0 : 0 ≤ M) (h1 : M ≤ 100000) : q_Q (fun n => M - q_n n) M := by
  refine ⟨?_, fun n => ?_⟩
  · show M - q_n 0 = M
    rw [q_qn0]; lia
  · show M - q_n n ≤ M - q_n (n + 1) + 1 ∧ (-100000) ≤ M - q_n (n + 1) ∧ M - q_n (n + 1) ≤ 100000
    obtain ⟨a1, a2, a3, a4, a5⟩ := q_qn n
    generalize q_n n = x at *
    generalize q_n (n + 1) = y at *
    refine ⟨?_, ?_, ?_⟩ <;> lia
theorem q_min (v : Int32) : (-2147483648) ≤ v := by
  have := Int32.le_toInt v
  exact Int32.le_iff_toInt_le.mpr (by have e : (-2147483648 : Int32).toInt = -2147483648 := rfl; rw [e]; omega)
theorem q_max (v : Int32) : v ≤ 2147483647 := by
  have := Int32.toInt_lt v
  exact Int32.le_iff_toInt_le.mpr (by have e : (2147483647 : Int32).toInt = 2147483647 := rfl; rw [e]; omega)
theorem q_ofn {n : Nat} (hn : n ≤ 600) : (Int32.ofNat n).toInt = n := by
  rw [Int32.toInt_ofNat_of_lt]; omega
theorem q_le600 {n : Nat} (hn : n ≤ 600) : Int32.ofNat n ≤ 600 := by
  refine Int32.le_iff_toInt_le.mpr ?_
  rw [q_ofn hn]
  have e : (600 : Int32).toInt = 600 := rfl
  rw [e]; omega
theorem q_ge0 {n : Nat} (hn : n ≤ 600) : 0 ≤ Int32.ofNat n := by
  refine Int32.le_iff_toInt_le.mpr ?_
  rw [q_ofn hn]
  have e : (0 : Int32).toInt = 0 := rfl
  rw [e]; omega
theorem q_char (v : Int32) : 0 ≤ vp_nar .char v ∧ vp_nar .char v ≤ 65535 := by
  have e : vp_nar .char v = v.toUInt32.toUInt16.toUInt32.toInt32 := rfl
  have e0 : (0 : Int32).toInt = 0 := rfl
  have e6 : (65535 : Int32).toInt = 65535 := rfl
  have e1 : (vp_nar .char v).toInt = (v.toUInt32.toUInt16.toNat : Int) := by
    rw [e]
    have hb := v.toUInt32.toUInt16.toNat_lt
    have hn : (v.toUInt32.toUInt16.toUInt32).toBitVec.toNat = v.toUInt32.toUInt16.toNat := UInt16.toNat_toUInt32 _
    show BitVec.toInt (v.toUInt32.toUInt16.toUInt32).toBitVec = _
    rw [BitVec.toInt_eq_toNat_of_lt (by rw [hn]; omega), hn]
  have hb := v.toUInt32.toUInt16.toNat_lt
  constructor
  · refine Int32.le_iff_toInt_le.mpr ?_
    rw [e1, e0]; omega
  · refine Int32.le_iff_toInt_le.mpr ?_
    rw [e1, e6]; omega
def q_C_Addr (L : q_L) (a : Nat) : Prop := qκ L (a + 1) = 8 ∧ (qlo L a 1 = 0 ∧ qhi L a 1 = 2) ∧ (qlo L a 2 = (-2147483648) ∧ qhi L a 2 = 2147483647)
def q_C_Cmd (L : q_L) (a : Nat) : Prop := qκ L (a + 1) = 1 ∧ qκ L (a + 3) = 1 ∧ qκ L (a + 5) = 8 ∧ (qlo L a 3 = (-2147483648) ∧ qhi L a 3 = 2147483647) ∧ (qlo L a 4 = 0 ∧ qhi L a 4 = 242) ∧ (qlo L a 5 = 0 ∧ qhi L a 5 = 2) ∧ (qlo L a 6 = (-2147483648) ∧ qhi L a 6 = 2147483647) ∧ (qlo L a 7 = (-1) ∧ qhi L a 7 = 40) ∧ (qlo L a 8 = (-1) ∧ qhi L a 8 = 25) ∧ (qlo L a 9 = 0 ∧ qhi L a 9 = 242) ∧ (qlo L a 10 = 0 ∧ qhi L a 10 = 242) ∧ (qlo L a 11 = 0 ∧ qhi L a 11 = 243) ∧ (qlo L a 12 = (-2147483648) ∧ qhi L a 12 = 2147483647) ∧ (qlo L a 13 = (-2147483648) ∧ qhi L a 13 = 2147483647) ∧ (qlo L a 14 = (-2147483648) ∧ qhi L a 14 = 2147483647) ∧ (qlo L a 15 = (-2147483648) ∧ qhi L a 15 = 2147483647)
def q_C_Cur (L : q_L) (a : Nat) : Prop := (qlo L a 1 = 0 ∧ qhi L a 1 = 242) ∧ (qlo L a 2 = (-2147483648) ∧ qhi L a 2 = 2147483647)
def q_C_Ed (L : q_L) (a : Nat) : Prop := qκ L (a + 1) = 11 ∧ qhi L (a + 1) 1 = 600 ∧ (qlo L a 3 = 0 ∧ qhi L a 3 = 12) ∧ (qlo L a 4 = 0 ∧ qhi L a 4 = 200) ∧ (qlo L a 5 = (-2147483648) ∧ qhi L a 5 = 2147483647) ∧ (qlo L a 6 = (-2147483648) ∧ qhi L a 6 = 2147483647) ∧ qκ L (a + 7) = 11 ∧ qhi L (a + 7) 1 = 200 ∧ qκ L (a + 9) = 6 ∧ (qlo L a 12 = 0 ∧ qhi L a 12 = 12) ∧ (qlo L a 13 = 0 ∧ qhi L a 13 = 40) ∧ (qlo L a 14 = (-2147483648) ∧ qhi L a 14 = 2147483647) ∧ (qlo L a 15 = (-2147483648) ∧ qhi L a 15 = 2147483647) ∧ (qlo L a 16 = (-2147483648) ∧ qhi L a 16 = 2147483647)
def q_C_It (L : q_L) (a : Nat) : Prop := (qlo L a 4 = 0 ∧ qhi L a 4 = 240) ∧ qκ L (a + 1) = 240 * 1000 + 100 + 0 ∧ (qel L (a + 1) = (-2147483648) ∧ qeh L (a + 1) = 2147483647) ∧ qκ L (a + 2) = 240 * 1000 + 100 + 0 ∧ (qel L (a + 2) = 0 ∧ qeh L (a + 2) = 3) ∧ qκ L (a + 3) = 240 * 1000 + 200 ∧ qκ L (a + 4) = 240 * 1000 + 200
def q_C_Ma (L : q_L) (a : Nat) : Prop := (qlo L a 0 = 0 ∧ qhi L a 0 = 600) ∧ (qlo L a 1 = (-1) ∧ qhi L a 1 = 600) ∧ qκ L (a + 1) = 4 * 1000 + 100 + 0 ∧ (qel L (a + 1) = 0 ∧ qeh L (a + 1) = 600) ∧ qκ L (a + 2) = 4 * 1000 + 100 + 0 ∧ (qel L (a + 2) = 0 ∧ qeh L (a + 2) = 600) ∧ qκ L (a + 3) = 4 * 1000 + 100 + 0 ∧ (qel L (a + 3) = 0 ∧ qeh L (a + 3) = 600) ∧ qκ L (a + 4) = 4 * 1000 + 100 + 0 ∧ (qel L (a + 4) = 0 ∧ qeh L (a + 4) = 600)
def q_C_Pa (L : q_L) (a : Nat) : Prop := qκ L (a + 1) = 3 ∧ qκ L (a + 2) = 9 ∧ (qlo L a 4 = 0 ∧ qhi L a 4 = 4) ∧ qκ L (a + 3) = 4 * 1000 + 100 + 0 ∧ (qel L (a + 3) = 0 ∧ qeh L (a + 3) = 39) ∧ qκ L (a + 4) = 26 * 1000 + 100 + 0 ∧ (qel L (a + 4) = (-1) ∧ qeh L (a + 4) = 40)
def q_C_Pt (L : q_L) (a : Nat) : Prop := (qlo L a 0 = (-2147483648) ∧ qhi L a 0 = 2147483647) ∧ (qlo L a 1 = (-2147483648) ∧ qhi L a 1 = 2147483647) ∧ (qlo L a 2 = 0 ∧ qhi L a 2 = 240) ∧ (qlo L a 3 = 0 ∧ qhi L a 3 = 240) ∧ (qlo L a 4 = (-1) ∧ qhi L a 4 = 240) ∧ (qlo L a 5 = (-1) ∧ qhi L a 5 = 240) ∧ (qlo L a 6 = 0 ∧ qhi L a 6 = 3)
def q_C_Pr (L : q_L) (a : Nat) : Prop := (qlo L a 3 = (-2147483648) ∧ qhi L a 3 = 2147483647) ∧ (qlo L a 4 = 0 ∧ qhi L a 4 = 2) ∧ (qlo L a 5 = (-2147483648) ∧ qhi L a 5 = 2147483647) ∧ (qlo L a 6 = (-2147483648) ∧ qhi L a 6 = 2147483647)
def q_C_Prog (L : q_L) (a : Nat) : Prop := qκ L (a + 1) = 11 ∧ qhi L (a + 1) 1 = 240 ∧ qκ L (a + 3) = 5 ∧ (qlo L a 3 = 0 ∧ qhi L a 3 = 40) ∧ qκ L (a + 8) = 40 * 1000 + 300 + 5 ∧ (∀ i : Int32, 0 ≤ i → i < 40 → qθ L (a + 8) i = some (a + (9 + 6 * i.toNatClampNeg)) ∧ qκ L (a + (9 + 6 * i.toNatClampNeg)) = 2)
def q_C_Row (L : q_L) (a : Nat) : Prop := ∃ n, qκ L (a + 1) = n * 1000 + 100 + 1 ∧ n ≤ 600 ∧ qlo L a 1 = 0 ∧ qhi L a 1 = Int32.ofNat n ∧ qel L (a + 1) = 0 ∧ qeh L (a + 1) = 65535
def q_C_SF (L : q_L) (a : Nat) : Prop := qκ L (a + 1) = 11 ∧ qhi L (a + 1) 1 = 240 ∧ qκ L (a + 4) = 7 ∧ qκ L (a + 9) = 4 ∧ qκ L (a + 25) = 6 ∧ (qlo L a 5 = 0 ∧ qhi L a 5 = 12) ∧ (qlo L a 8 = (-2147483648) ∧ qhi L a 8 = 2147483647) ∧ (qlo L a 9 = (-2147483648) ∧ qhi L a 9 = 2147483647) ∧ qκ L (a + 3) = 12 * 1000 + 300 + 4 ∧ (∀ i : Int32, 0 ≤ i → i < 12 → qθ L (a + 3) i = some (a + (528 + 2 * i.toNatClampNeg)) ∧ qκ L (a + (528 + 2 * i.toNatClampNeg)) = 11 ∧ qhi L (a + (528 + 2 * i.toNatClampNeg)) 1 = 24)
def q_C (L : q_L) : Prop := (∀ a, qκ L a = 1 → q_C_Addr L a) ∧ (∀ a, qκ L a = 2 → q_C_Cmd L a) ∧ (∀ a, qκ L a = 3 → q_C_Cur L a) ∧ (∀ a, qκ L a = 4 → q_C_Ed L a) ∧ (∀ a, qκ L a = 5 → q_C_It L a) ∧ (∀ a, qκ L a = 6 → q_C_Ma L a) ∧ (∀ a, qκ L a = 7 → q_C_Pa L a) ∧ (∀ a, qκ L a = 8 → q_C_Pt L a) ∧ (∀ a, qκ L a = 9 → q_C_Pr L a) ∧ (∀ a, qκ L a = 10 → q_C_Prog L a) ∧ (∀ a, qκ L a = 11 → q_C_Row L a) ∧ (∀ a, qκ L a = 12 → q_C_SF L a)
def q_F_Addr (π : Nat → Nat → Option Nat) (a : Nat) : Prop := π a 0 = some (a + 1)
def q_F_Cmd (π : Nat → Nat → Option Nat) (a : Nat) : Prop := π a 0 = some (a + 1) ∧ π a 1 = some (a + 3) ∧ π a 2 = some (a + 5)
def q_F_Cur (π : Nat → Nat → Option Nat) (a : Nat) : Prop := True
def q_F_Ed (π : Nat → Nat → Option Nat) (a : Nat) : Prop := π a 0 = some (a + 1) ∧ π a 7 = some (a + 7) ∧ π a 8 = some (a + 9)
def q_F_It (π : Nat → Nat → Option Nat) (a : Nat) : Prop := π a 0 = some (a + 1) ∧ π a 1 = some (a + 2) ∧ π a 2 = some (a + 3) ∧ π a 3 = some (a + 4)
def q_F_Ma (π : Nat → Nat → Option Nat) (a : Nat) : Prop := π a 5 = some (a + 1) ∧ π a 6 = some (a + 2) ∧ π a 7 = some (a + 3) ∧ π a 8 = some (a + 4)
def q_F_Pa (π : Nat → Nat → Option Nat) (a : Nat) : Prop := π a 0 = some (a + 1) ∧ π a 1 = some (a + 2) ∧ π a 2 = some (a + 3) ∧ π a 3 = some (a + 4)
def q_F_Pt (π : Nat → Nat → Option Nat) (a : Nat) : Prop := True
def q_F_Pr (π : Nat → Nat → Option Nat) (a : Nat) : Prop := True
def q_F_Prog (π : Nat → Nat → Option Nat) (a : Nat) : Prop := π a 0 = some (a + 1) ∧ π a 1 = some (a + 3) ∧ π a 2 = some (a + 8)
def q_F_Row (π : Nat → Nat → Option Nat) (a : Nat) : Prop := π a 0 = some (a + 1)
def q_F_SF (π : Nat → Nat → Option Nat) (a : Nat) : Prop := π a 0 = some (a + 1) ∧ π a 1 = some (a + 3) ∧ π a 2 = some (a + 4) ∧ π a 3 = some (a + 9) ∧ π a 4 = some (a + 25)
def q_F (L : q_L) (π : Nat → Nat → Option Nat) : Prop := (∀ a, qκ L a = 1 → q_F_Addr π a) ∧ (∀ a, qκ L a = 2 → q_F_Cmd π a) ∧ (∀ a, qκ L a = 3 → q_F_Cur π a) ∧ (∀ a, qκ L a = 4 → q_F_Ed π a) ∧ (∀ a, qκ L a = 5 → q_F_It π a) ∧ (∀ a, qκ L a = 6 → q_F_Ma π a) ∧ (∀ a, qκ L a = 7 → q_F_Pa π a) ∧ (∀ a, qκ L a = 8 → q_F_Pt π a) ∧ (∀ a, qκ L a = 9 → q_F_Pr π a) ∧ (∀ a, qκ L a = 10 → q_F_Prog π a) ∧ (∀ a, qκ L a = 11 → q_F_Row π a) ∧ (∀ a, qκ L a = 12 → q_F_SF π a)
def q_U (L : q_L) (W : Nat → Prop) (h0 : z_H) (π : Nat → Nat → Option Nat) (h : z_H) : Prop := q_C L ∧ q_F L π ∧ q_T L W h0 π h
section QU
variable {L : q_L} {W : Nat → Prop} {h0 : z_H} {π : Nat → Nat → Option Nat} {h : z_H} {a : Nat}
theorem q_CAddr (T : q_U L W h0 π h) (ha : qκ L a = 1) : q_C_Addr L a := T.1.1 a ha
theorem q_FAddr (T : q_U L W h0 π h) (ha : qκ L a = 1) : q_F_Addr π a := T.2.1.1 a ha
theorem q_CCmd (T : q_U L W h0 π h) (ha : qκ L a = 2) : q_C_Cmd L a := T.1.2.1 a ha
theorem q_FCmd (T : q_U L W h0 π h) (ha : qκ L a = 2) : q_F_Cmd π a := T.2.1.2.1 a ha
theorem q_CCur (T : q_U L W h0 π h) (ha : qκ L a = 3) : q_C_Cur L a := T.1.2.2.1 a ha
theorem q_FCur (T : q_U L W h0 π h) (ha : qκ L a = 3) : q_F_Cur π a := T.2.1.2.2.1 a ha
theorem q_CEd (T : q_U L W h0 π h) (ha : qκ L a = 4) : q_C_Ed L a := T.1.2.2.2.1 a ha
theorem q_FEd (T : q_U L W h0 π h) (ha : qκ L a = 4) : q_F_Ed π a := T.2.1.2.2.2.1 a ha
theorem q_CIt (T : q_U L W h0 π h) (ha : qκ L a = 5) : q_C_It L a := T.1.2.2.2.2.1 a ha
theorem q_FIt (T : q_U L W h0 π h) (ha : qκ L a = 5) : q_F_It π a := T.2.1.2.2.2.2.1 a ha
theorem q_CMa (T : q_U L W h0 π h) (ha : qκ L a = 6) : q_C_Ma L a := T.1.2.2.2.2.2.1 a ha
theorem q_FMa (T : q_U L W h0 π h) (ha : qκ L a = 6) : q_F_Ma π a := T.2.1.2.2.2.2.2.1 a ha
theorem q_CPa (T : q_U L W h0 π h) (ha : qκ L a = 7) : q_C_Pa L a := T.1.2.2.2.2.2.2.1 a ha
theorem q_FPa (T : q_U L W h0 π h) (ha : qκ L a = 7) : q_F_Pa π a := T.2.1.2.2.2.2.2.2.1 a ha
theorem q_CPt (T : q_U L W h0 π h) (ha : qκ L a = 8) : q_C_Pt L a := T.1.2.2.2.2.2.2.2.1 a ha
theorem q_FPt (T : q_U L W h0 π h) (ha : qκ L a = 8) : q_F_Pt π a := T.2.1.2.2.2.2.2.2.2.1 a ha
theorem q_CPr (T : q_U L W h0 π h) (ha : qκ L a = 9) : q_C_Pr L a := T.1.2.2.2.2.2.2.2.2.1 a ha
theorem q_FPr (T : q_U L W h0 π h) (ha : qκ L a = 9) : q_F_Pr π a := T.2.1.2.2.2.2.2.2.2.2.1 a ha
theorem q_CProg (T : q_U L W h0 π h) (ha : qκ L a = 10) : q_C_Prog L a := T.1.2.2.2.2.2.2.2.2.2.1 a ha
theorem q_FProg (T : q_U L W h0 π h) (ha : qκ L a = 10) : q_F_Prog π a := T.2.1.2.2.2.2.2.2.2.2.2.1 a ha
theorem q_CRow (T : q_U L W h0 π h) (ha : qκ L a = 11) : q_C_Row L a := T.1.2.2.2.2.2.2.2.2.2.2.1 a ha
theorem q_FRow (T : q_U L W h0 π h) (ha : qκ L a = 11) : q_F_Row π a := T.2.1.2.2.2.2.2.2.2.2.2.2.1 a ha
theorem q_CSF (T : q_U L W h0 π h) (ha : qκ L a = 12) : q_C_SF L a := T.1.2.2.2.2.2.2.2.2.2.2.2 a ha
theorem q_FSF (T : q_U L W h0 π h) (ha : qκ L a = 12) : q_F_SF π a := T.2.1.2.2.2.2.2.2.2.2.2.2.2 a ha
theorem r_Addr_o {β : Type} {f : Unit → Option β} {Q : β → Prop} (T : q_U L W h0 π h) (ha : qκ L a = 1) (H : qk (f ()) Q) : qk (z_b (gO h a 0) f) Q := by
  rw [q_gO (ci := 0) T.2.2 ha (by decide)]; exact H
theorem r_Addr_0 {β : Type} {f : Nat → Option β} {Q : β → Prop} (T : q_U L W h0 π h) (ha : qκ L a = 1) (H : qκ L (a + 1) = 8 → qk (f (a + 1)) Q) : qk (z_b (gR h a 0 0) f) Q := by
  rw [q_gR (ci := 0) T.2.2 ha (by decide) ((q_FAddr T ha))]
  exact H ((q_CAddr T ha).1)
theorem r_Addr_1 {β : Type} {f : Int32 → Option β} {Q : β → Prop} (T : q_U L W h0 π h) (ha : qκ L a = 1) (H : ∀ x, x = vI h a 1 → 0 ≤ x → x ≤ 2 → qk (f x) Q) : qk (z_b (gI h a 0 1) f) Q := by
  rw [q_gI (ci := 0) T.2.2 ha (by decide) rfl]
  have c := (q_CAddr T ha).2.1
  have t := T.2.2.2.1 a 1
  rw [c.1, c.2] at t
  exact H _ rfl t.1 t.2
theorem w_Addr_1 {β : Type} {f : z_H → Option β} {Q : β → Prop} {v : Int32} (T : q_U L W h0 π h) (ha : qκ L a = 1) (w : W a) (r1 : 0 ≤ v) (r2 : v ≤ 2) (H : ∀ h', q_U L W h0 π h' → (∀ a' k', vI h' a' k' = if a' = a ∧ k' = 1 then v else vI h a' k') → (∀ a' i, vA h' a' i = vA h a' i) → qk (f h') Q) : qk (z_b (sF h a 0 1 (.int v)) f) Q := by
  have c := (q_CAddr T ha).2.1
  obtain ⟨h', e1, e2, e3⟩ := q_sI (ci := 0) (k := 1) (v := v) T.2.2 ha (by decide) rfl w (by rw [c.1]; exact r1) (by rw [c.2]; exact r2)
  rw [e1]; exact H h' ⟨T.1, T.2.1, e2⟩ e3.1 e3.2
theorem r_Addr_2 {β : Type} {f : Int32 → Option β} {Q : β → Prop} (T : q_U L W h0 π h) (ha : qκ L a = 1) (H : ∀ x, x = vI h a 2 → qk (f x) Q) : qk (z_b (gI h a 0 2) f) Q := by
  rw [q_gI (ci := 0) T.2.2 ha (by decide) rfl]
  exact H _ rfl
theorem w_Addr_2 {β : Type} {f : z_H → Option β} {Q : β → Prop} {v : Int32} (T : q_U L W h0 π h) (ha : qκ L a = 1) (w : W a) (H : ∀ h', q_U L W h0 π h' → (∀ a' k', vI h' a' k' = if a' = a ∧ k' = 2 then v else vI h a' k') → (∀ a' i, vA h' a' i = vA h a' i) → qk (f h') Q) : qk (z_b (sF h a 0 2 (.int v)) f) Q := by
  have c := (q_CAddr T ha).2.2
  obtain ⟨h', e1, e2, e3⟩ := q_sI (ci := 0) (k := 2) (v := v) T.2.2 ha (by decide) rfl w (by rw [c.1]; exact q_min v) (by rw [c.2]; exact q_max v)
  rw [e1]; exact H h' ⟨T.1, T.2.1, e2⟩ e3.1 e3.2
theorem r_Cmd_o {β : Type} {f : Unit → Option β} {Q : β → Prop} (T : q_U L W h0 π h) (ha : qκ L a = 2) (H : qk (f ()) Q) : qk (z_b (gO h a 1) f) Q := by
  rw [q_gO (ci := 1) T.2.2 ha (by decide)]; exact H
theorem r_Cmd_0 {β : Type} {f : Nat → Option β} {Q : β → Prop} (T : q_U L W h0 π h) (ha : qκ L a = 2) (H : qκ L (a + 1) = 1 → qk (f (a + 1)) Q) : qk (z_b (gR h a 1 0) f) Q := by
  rw [q_gR (ci := 1) T.2.2 ha (by decide) ((q_FCmd T ha).1)]
  exact H ((q_CCmd T ha).1)
theorem r_Cmd_1 {β : Type} {f : Nat → Option β} {Q : β → Prop} (T : q_U L W h0 π h) (ha : qκ L a = 2) (H : qκ L (a + 3) = 1 → qk (f (a + 3)) Q) : qk (z_b (gR h a 1 1) f) Q := by
  rw [q_gR (ci := 1) T.2.2 ha (by decide) ((q_FCmd T ha).2.1)]
  exact H ((q_CCmd T ha).2.1)
theorem r_Cmd_2 {β : Type} {f : Nat → Option β} {Q : β → Prop} (T : q_U L W h0 π h) (ha : qκ L a = 2) (H : qκ L (a + 5) = 8 → qk (f (a + 5)) Q) : qk (z_b (gR h a 1 2) f) Q := by
  rw [q_gR (ci := 1) T.2.2 ha (by decide) ((q_FCmd T ha).2.2)]
  exact H ((q_CCmd T ha).2.2.1)
theorem r_Cmd_3 {β : Type} {f : Int32 → Option β} {Q : β → Prop} (T : q_U L W h0 π h) (ha : qκ L a = 2) (H : ∀ x, x = vI h a 3 → qk (f x) Q) : qk (z_b (gI h a 1 3) f) Q := by
  rw [q_gI (ci := 1) T.2.2 ha (by decide) rfl]
  exact H _ rfl
theorem w_Cmd_3 {β : Type} {f : z_H → Option β} {Q : β → Prop} {v : Int32} (T : q_U L W h0 π h) (ha : qκ L a = 2) (w : W a) (H : ∀ h', q_U L W h0 π h' → (∀ a' k', vI h' a' k' = if a' = a ∧ k' = 3 then v else vI h a' k') → (∀ a' i, vA h' a' i = vA h a' i) → qk (f h') Q) : qk (z_b (sF h a 1 3 (.int v)) f) Q := by
  have c := (q_CCmd T ha).2.2.2.1
  obtain ⟨h', e1, e2, e3⟩ := q_sI (ci := 1) (k := 3) (v := v) T.2.2 ha (by decide) rfl w (by rw [c.1]; exact q_min v) (by rw [c.2]; exact q_max v)
  rw [e1]; exact H h' ⟨T.1, T.2.1, e2⟩ e3.1 e3.2
theorem r_Cmd_4 {β : Type} {f : Int32 → Option β} {Q : β → Prop} (T : q_U L W h0 π h) (ha : qκ L a = 2) (H : ∀ x, x = vI h a 4 → 0 ≤ x → x ≤ 242 → qk (f x) Q) : qk (z_b (gI h a 1 4) f) Q := by
  rw [q_gI (ci := 1) T.2.2 ha (by decide) rfl]
  have c := (q_CCmd T ha).2.2.2.2.1
  have t := T.2.2.2.1 a 4
  rw [c.1, c.2] at t
  exact H _ rfl t.1 t.2
theorem w_Cmd_4 {β : Type} {f : z_H → Option β} {Q : β → Prop} {v : Int32} (T : q_U L W h0 π h) (ha : qκ L a = 2) (w : W a) (r1 : 0 ≤ v) (r2 : v ≤ 242) (H : ∀ h', q_U L W h0 π h' → (∀ a' k', vI h' a' k' = if a' = a ∧ k' = 4 then v else vI h a' k') → (∀ a' i, vA h' a' i = vA h a' i) → qk (f h') Q) : qk (z_b (sF h a 1 4 (.int v)) f) Q := by
  have c := (q_CCmd T ha).2.2.2.2.1
  obtain ⟨h', e1, e2, e3⟩ := q_sI (ci := 1) (k := 4) (v := v) T.2.2 ha (by decide) rfl w (by rw [c.1]; exact r1) (by rw [c.2]; exact r2)
  rw [e1]; exact H h' ⟨T.1, T.2.1, e2⟩ e3.1 e3.2
theorem r_Cmd_5 {β : Type} {f : Int32 → Option β} {Q : β → Prop} (T : q_U L W h0 π h) (ha : qκ L a = 2) (H : ∀ x, x = vI h a 5 → 0 ≤ x → x ≤ 2 → qk (f x) Q) : qk (z_b (gI h a 1 5) f) Q := by
  rw [q_gI (ci := 1) T.2.2 ha (by decide) rfl]
  have c := (q_CCmd T ha).2.2.2.2.2.1
  have t := T.2.2.2.1 a 5
  rw [c.1, c.2] at t
  exact H _ rfl t.1 t.2
theorem w_Cmd_5 {β : Type} {f : z_H → Option β} {Q : β → Prop} {v : Int32} (T : q_U L W h0 π h) (ha : qκ L a = 2) (w : W a) (r1 : 0 ≤ v) (r2 : v ≤ 2) (H : ∀ h', q_U L W h0 π h' → (∀ a' k', vI h' a' k' = if a' = a ∧ k' = 5 then v else vI h a' k') → (∀ a' i, vA h' a' i = vA h a' i) → qk (f h') Q) : qk (z_b (sF h a 1 5 (.int v)) f) Q := by
  have c := (q_CCmd T ha).2.2.2.2.2.1
  obtain ⟨h', e1, e2, e3⟩ := q_sI (ci := 1) (k := 5) (v := v) T.2.2 ha (by decide) rfl w (by rw [c.1]; exact r1) (by rw [c.2]; exact r2)
  rw [e1]; exact H h' ⟨T.1, T.2.1, e2⟩ e3.1 e3.2
theorem r_Cmd_6 {β : Type} {f : Int32 → Option β} {Q : β → Prop} (T : q_U L W h0 π h) (ha : qκ L a = 2) (H : ∀ x, x = vI h a 6 → qk (f x) Q) : qk (z_b (gI h a 1 6) f) Q := by
  rw [q_gI (ci := 1) T.2.2 ha (by decide) rfl]
  exact H _ rfl
theorem w_Cmd_6 {β : Type} {f : z_H → Option β} {Q : β → Prop} {v : Int32} (T : q_U L W h0 π h) (ha : qκ L a = 2) (w : W a) (H : ∀ h', q_U L W h0 π h' → (∀ a' k', vI h' a' k' = if a' = a ∧ k' = 6 then v else vI h a' k') → (∀ a' i, vA h' a' i = vA h a' i) → qk (f h') Q) : qk (z_b (sF h a 1 6 (.int v)) f) Q := by
  have c := (q_CCmd T ha).2.2.2.2.2.2.1
  obtain ⟨h', e1, e2, e3⟩ := q_sI (ci := 1) (k := 6) (v := v) T.2.2 ha (by decide) rfl w (by rw [c.1]; exact q_min v) (by rw [c.2]; exact q_max v)
  rw [e1]; exact H h' ⟨T.1, T.2.1, e2⟩ e3.1 e3.2
theorem r_Cmd_7 {β : Type} {f : Int32 → Option β} {Q : β → Prop} (T : q_U L W h0 π h) (ha : qκ L a = 2) (H : ∀ x, x = vI h a 7 → (-1) ≤ x → x ≤ 40 → qk (f x) Q) : qk (z_b (gI h a 1 7) f) Q := by
  rw [q_gI (ci := 1) T.2.2 ha (by decide) rfl]
  have c := (q_CCmd T ha).2.2.2.2.2.2.2.1
  have t := T.2.2.2.1 a 7
  rw [c.1, c.2] at t
  exact H _ rfl t.1 t.2
theorem w_Cmd_7 {β : Type} {f : z_H → Option β} {Q : β → Prop} {v : Int32} (T : q_U L W h0 π h) (ha : qκ L a = 2) (w : W a) (r1 : (-1) ≤ v) (r2 : v ≤ 40) (H : ∀ h', q_U L W h0 π h' → (∀ a' k', vI h' a' k' = if a' = a ∧ k' = 7 then v else vI h a' k') → (∀ a' i, vA h' a' i = vA h a' i) → qk (f h') Q) : qk (z_b (sF h a 1 7 (.int v)) f) Q := by
  have c := (q_CCmd T ha).2.2.2.2.2.2.2.1
  obtain ⟨h', e1, e2, e3⟩ := q_sI (ci := 1) (k := 7) (v := v) T.2.2 ha (by decide) rfl w (by rw [c.1]; exact r1) (by rw [c.2]; exact r2)
  rw [e1]; exact H h' ⟨T.1, T.2.1, e2⟩ e3.1 e3.2
theorem r_Cmd_8 {β : Type} {f : Int32 → Option β} {Q : β → Prop} (T : q_U L W h0 π h) (ha : qκ L a = 2) (H : ∀ x, x = vI h a 8 → (-1) ≤ x → x ≤ 25 → qk (f x) Q) : qk (z_b (gI h a 1 8) f) Q := by
  rw [q_gI (ci := 1) T.2.2 ha (by decide) rfl]
  have c := (q_CCmd T ha).2.2.2.2.2.2.2.2.1
  have t := T.2.2.2.1 a 8
  rw [c.1, c.2] at t
  exact H _ rfl t.1 t.2
theorem w_Cmd_8 {β : Type} {f : z_H → Option β} {Q : β → Prop} {v : Int32} (T : q_U L W h0 π h) (ha : qκ L a = 2) (w : W a) (r1 : (-1) ≤ v) (r2 : v ≤ 25) (H : ∀ h', q_U L W h0 π h' → (∀ a' k', vI h' a' k' = if a' = a ∧ k' = 8 then v else vI h a' k') → (∀ a' i, vA h' a' i = vA h a' i) → qk (f h') Q) : qk (z_b (sF h a 1 8 (.int v)) f) Q := by
  have c := (q_CCmd T ha).2.2.2.2.2.2.2.2.1
  obtain ⟨h', e1, e2, e3⟩ := q_sI (ci := 1) (k := 8) (v := v) T.2.2 ha (by decide) rfl w (by rw [c.1]; exact r1) (by rw [c.2]; exact r2)
  rw [e1]; exact H h' ⟨T.1, T.2.1, e2⟩ e3.1 e3.2
theorem r_Cmd_9 {β : Type} {f : Int32 → Option β} {Q : β → Prop} (T : q_U L W h0 π h) (ha : qκ L a = 2) (H : ∀ x, x = vI h a 9 → 0 ≤ x → x ≤ 242 → qk (f x) Q) : qk (z_b (gI h a 1 9) f) Q := by
  rw [q_gI (ci := 1) T.2.2 ha (by decide) rfl]
  have c := (q_CCmd T ha).2.2.2.2.2.2.2.2.2.1
  have t := T.2.2.2.1 a 9
  rw [c.1, c.2] at t
  exact H _ rfl t.1 t.2
theorem w_Cmd_9 {β : Type} {f : z_H → Option β} {Q : β → Prop} {v : Int32} (T : q_U L W h0 π h) (ha : qκ L a = 2) (w : W a) (r1 : 0 ≤ v) (r2 : v ≤ 242) (H : ∀ h', q_U L W h0 π h' → (∀ a' k', vI h' a' k' = if a' = a ∧ k' = 9 then v else vI h a' k') → (∀ a' i, vA h' a' i = vA h a' i) → qk (f h') Q) : qk (z_b (sF h a 1 9 (.int v)) f) Q := by
  have c := (q_CCmd T ha).2.2.2.2.2.2.2.2.2.1
  obtain ⟨h', e1, e2, e3⟩ := q_sI (ci := 1) (k := 9) (v := v) T.2.2 ha (by decide) rfl w (by rw [c.1]; exact r1) (by rw [c.2]; exact r2)
  rw [e1]; exact H h' ⟨T.1, T.2.1, e2⟩ e3.1 e3.2
theorem r_Cmd_10 {β : Type} {f : Int32 → Option β} {Q : β → Prop} (T : q_U L W h0 π h) (ha : qκ L a = 2) (H : ∀ x, x = vI h a 10 → 0 ≤ x → x ≤ 242 → qk (f x) Q) : qk (z_b (gI h a 1 10) f) Q := by
  rw [q_gI (ci := 1) T.2.2 ha (by decide) rfl]
  have c := (q_CCmd T ha).2.2.2.2.2.2.2.2.2.2.1
  have t := T.2.2.2.1 a 10
  rw [c.1, c.2] at t
  exact H _ rfl t.1 t.2
theorem w_Cmd_10 {β : Type} {f : z_H → Option β} {Q : β → Prop} {v : Int32} (T : q_U L W h0 π h) (ha : qκ L a = 2) (w : W a) (r1 : 0 ≤ v) (r2 : v ≤ 242) (H : ∀ h', q_U L W h0 π h' → (∀ a' k', vI h' a' k' = if a' = a ∧ k' = 10 then v else vI h a' k') → (∀ a' i, vA h' a' i = vA h a' i) → qk (f h') Q) : qk (z_b (sF h a 1 10 (.int v)) f) Q := by
  have c := (q_CCmd T ha).2.2.2.2.2.2.2.2.2.2.1
  obtain ⟨h', e1, e2, e3⟩ := q_sI (ci := 1) (k := 10) (v := v) T.2.2 ha (by decide) rfl w (by rw [c.1]; exact r1) (by rw [c.2]; exact r2)
  rw [e1]; exact H h' ⟨T.1, T.2.1, e2⟩ e3.1 e3.2
theorem r_Cmd_11 {β : Type} {f : Int32 → Option β} {Q : β → Prop} (T : q_U L W h0 π h) (ha : qκ L a = 2) (H : ∀ x, x = vI h a 11 → 0 ≤ x → x ≤ 243 → qk (f x) Q) : qk (z_b (gI h a 1 11) f) Q := by
  rw [q_gI (ci := 1) T.2.2 ha (by decide) rfl]
  have c := (q_CCmd T ha).2.2.2.2.2.2.2.2.2.2.2.1
  have t := T.2.2.2.1 a 11
  rw [c.1, c.2] at t
  exact H _ rfl t.1 t.2
theorem w_Cmd_11 {β : Type} {f : z_H → Option β} {Q : β → Prop} {v : Int32} (T : q_U L W h0 π h) (ha : qκ L a = 2) (w : W a) (r1 : 0 ≤ v) (r2 : v ≤ 243) (H : ∀ h', q_U L W h0 π h' → (∀ a' k', vI h' a' k' = if a' = a ∧ k' = 11 then v else vI h a' k') → (∀ a' i, vA h' a' i = vA h a' i) → qk (f h') Q) : qk (z_b (sF h a 1 11 (.int v)) f) Q := by
  have c := (q_CCmd T ha).2.2.2.2.2.2.2.2.2.2.2.1
  obtain ⟨h', e1, e2, e3⟩ := q_sI (ci := 1) (k := 11) (v := v) T.2.2 ha (by decide) rfl w (by rw [c.1]; exact r1) (by rw [c.2]; exact r2)
  rw [e1]; exact H h' ⟨T.1, T.2.1, e2⟩ e3.1 e3.2
theorem r_Cmd_12 {β : Type} {f : Int32 → Option β} {Q : β → Prop} (T : q_U L W h0 π h) (ha : qκ L a = 2) (H : ∀ x, x = vI h a 12 → qk (f x) Q) : qk (z_b (gI h a 1 12) f) Q := by
  rw [q_gI (ci := 1) T.2.2 ha (by decide) rfl]
  exact H _ rfl
theorem w_Cmd_12 {β : Type} {f : z_H → Option β} {Q : β → Prop} {v : Int32} (T : q_U L W h0 π h) (ha : qκ L a = 2) (w : W a) (H : ∀ h', q_U L W h0 π h' → (∀ a' k', vI h' a' k' = if a' = a ∧ k' = 12 then v else vI h a' k') → (∀ a' i, vA h' a' i = vA h a' i) → qk (f h') Q) : qk (z_b (sF h a 1 12 (.int v)) f) Q := by
  have c := (q_CCmd T ha).2.2.2.2.2.2.2.2.2.2.2.2.1
  obtain ⟨h', e1, e2, e3⟩ := q_sI (ci := 1) (k := 12) (v := v) T.2.2 ha (by decide) rfl w (by rw [c.1]; exact q_min v) (by rw [c.2]; exact q_max v)
  rw [e1]; exact H h' ⟨T.1, T.2.1, e2⟩ e3.1 e3.2
theorem r_Cmd_13 {β : Type} {f : Int32 → Option β} {Q : β → Prop} (T : q_U L W h0 π h) (ha : qκ L a = 2) (H : ∀ x, x = vI h a 13 → qk (f x) Q) : qk (z_b (gI h a 1 13) f) Q := by
  rw [q_gI (ci := 1) T.2.2 ha (by decide) rfl]
  exact H _ rfl
theorem w_Cmd_13 {β : Type} {f : z_H → Option β} {Q : β → Prop} {v : Int32} (T : q_U L W h0 π h) (ha : qκ L a = 2) (w : W a) (H : ∀ h', q_U L W h0 π h' → (∀ a' k', vI h' a' k' = if a' = a ∧ k' = 13 then v else vI h a' k') → (∀ a' i, vA h' a' i = vA h a' i) → qk (f h') Q) : qk (z_b (sF h a 1 13 (.int v)) f) Q := by
  have c := (q_CCmd T ha).2.2.2.2.2.2.2.2.2.2.2.2.2.1
  obtain ⟨h', e1, e2, e3⟩ := q_sI (ci := 1) (k := 13) (v := v) T.2.2 ha (by decide) rfl w (by rw [c.1]; exact q_min v) (by rw [c.2]; exact q_max v)
  rw [e1]; exact H h' ⟨T.1, T.2.1, e2⟩ e3.1 e3.2
theorem r_Cmd_14 {β : Type} {f : Int32 → Option β} {Q : β → Prop} (T : q_U L W h0 π h) (ha : qκ L a = 2) (H : ∀ x, x = vI h a 14 → qk (f x) Q) : qk (z_b (gI h a 1 14) f) Q := by
  rw [q_gI (ci := 1) T.2.2 ha (by decide) rfl]
  exact H _ rfl
theorem w_Cmd_14 {β : Type} {f : z_H → Option β} {Q : β → Prop} {v : Int32} (T : q_U L W h0 π h) (ha : qκ L a = 2) (w : W a) (H : ∀ h', q_U L W h0 π h' → (∀ a' k', vI h' a' k' = if a' = a ∧ k' = 14 then v else vI h a' k') → (∀ a' i, vA h' a' i = vA h a' i) → qk (f h') Q) : qk (z_b (sF h a 1 14 (.int v)) f) Q := by
  have c := (q_CCmd T ha).2.2.2.2.2.2.2.2.2.2.2.2.2.2.1
  obtain ⟨h', e1, e2, e3⟩ := q_sI (ci := 1) (k := 14) (v := v) T.2.2 ha (by decide) rfl w (by rw [c.1]; exact q_min v) (by rw [c.2]; exact q_max v)
  rw [e1]; exact H h' ⟨T.1, T.2.1, e2⟩ e3.1 e3.2
theorem r_Cmd_15 {β : Type} {f : Int32 → Option β} {Q : β → Prop} (T : q_U L W h0 π h) (ha : qκ L a = 2) (H : ∀ x, x = vI h a 15 → qk (f x) Q) : qk (z_b (gI h a 1 15) f) Q := by
  rw [q_gI (ci := 1) T.2.2 ha (by decide) rfl]
  exact H _ rfl
theorem w_Cmd_15 {β : Type} {f : z_H → Option β} {Q : β → Prop} {v : Int32} (T : q_U L W h0 π h) (ha : qκ L a = 2) (w : W a) (H : ∀ h', q_U L W h0 π h' → (∀ a' k', vI h' a' k' = if a' = a ∧ k' = 15 then v else vI h a' k') → (∀ a' i, vA h' a' i = vA h a' i) → qk (f h') Q) : qk (z_b (sF h a 1 15 (.int v)) f) Q := by
  have c := (q_CCmd T ha).2.2.2.2.2.2.2.2.2.2.2.2.2.2.2
  obtain ⟨h', e1, e2, e3⟩ := q_sI (ci := 1) (k := 15) (v := v) T.2.2 ha (by decide) rfl w (by rw [c.1]; exact q_min v) (by rw [c.2]; exact q_max v)
  rw [e1]; exact H h' ⟨T.1, T.2.1, e2⟩ e3.1 e3.2
theorem r_Cur_o {β : Type} {f : Unit → Option β} {Q : β → Prop} (T : q_U L W h0 π h) (ha : qκ L a = 3) (H : qk (f ()) Q) : qk (z_b (gO h a 2) f) Q := by
  rw [q_gO (ci := 2) T.2.2 ha (by decide)]; exact H
theorem r_Cur_0 {β : Type} {f : Nat → Option β} {Q : β → Prop} {q : Nat} (T : q_U L W h0 π h) (ha : qκ L a = 3) (hq : π a 0 = some q) (H : qk (f q) Q) : qk (z_b (gR h a 2 0) f) Q := by
  rw [q_gR (ci := 2) T.2.2 ha (by decide) hq]; exact H
theorem w_Cur_0 {β : Type} {f : z_H → Option β} {Q : β → Prop} {q : Nat} (T : q_U L W h0 π h) (ha : qκ L a = 3) (w : W a) (H : ∀ π' h', q_U L W h0 π' h' → (∀ a' k', π' a' k' = if a' = a ∧ k' = 0 then some q else π a' k') → (∀ a' k', vI h' a' k' = vI h a' k') → (∀ a' i, vA h' a' i = vA h a' i) → qk (f h') Q) : qk (z_b (sF h a 2 0 (.ref q)) f) Q := by
  obtain ⟨h', e1, e2, e3⟩ := q_sR (ci := 2) (k := 0) (q := q) T.2.2 ha (by decide) rfl w
  rw [e1]
  refine H _ h' ⟨T.1, ?_, e2⟩ (fun _ _ => rfl) e3.1 e3.2
  refine ⟨?_, ?_, ?_, ?_, ?_, ?_, ?_, ?_, ?_, ?_, ?_, ?_⟩
  · intro b hb
    have t := T.2.1.1 b hb
    simpa [q_F_Addr, q_pu, show b ≠ a from fun z => absurd (z ▸ hb) (by rw [ha]; decide)] using t
  · intro b hb
    have t := T.2.1.2.1 b hb
    simpa [q_F_Cmd, q_pu, show b ≠ a from fun z => absurd (z ▸ hb) (by rw [ha]; decide)] using t
  · intro b hb
    have t := T.2.1.2.2.1 b hb
    exact t
  · intro b hb
    have t := T.2.1.2.2.2.1 b hb
    simpa [q_F_Ed, q_pu, show b ≠ a from fun z => absurd (z ▸ hb) (by rw [ha]; decide)] using t
  · intro b hb
    have t := T.2.1.2.2.2.2.1 b hb
    simpa [q_F_It, q_pu, show b ≠ a from fun z => absurd (z ▸ hb) (by rw [ha]; decide)] using t
  · intro b hb
    have t := T.2.1.2.2.2.2.2.1 b hb
    simpa [q_F_Ma, q_pu, show b ≠ a from fun z => absurd (z ▸ hb) (by rw [ha]; decide)] using t
  · intro b hb
    have t := T.2.1.2.2.2.2.2.2.1 b hb
    simpa [q_F_Pa, q_pu, show b ≠ a from fun z => absurd (z ▸ hb) (by rw [ha]; decide)] using t
  · intro b hb
    have t := T.2.1.2.2.2.2.2.2.2.1 b hb
    exact t
  · intro b hb
    have t := T.2.1.2.2.2.2.2.2.2.2.1 b hb
    exact t
  · intro b hb
    have t := T.2.1.2.2.2.2.2.2.2.2.2.1 b hb
    simpa [q_F_Prog, q_pu, show b ≠ a from fun z => absurd (z ▸ hb) (by rw [ha]; decide)] using t
  · intro b hb
    have t := T.2.1.2.2.2.2.2.2.2.2.2.2.1 b hb
    simpa [q_F_Row, q_pu, show b ≠ a from fun z => absurd (z ▸ hb) (by rw [ha]; decide)] using t
  · intro b hb
    have t := T.2.1.2.2.2.2.2.2.2.2.2.2.2 b hb
    simpa [q_F_SF, q_pu, show b ≠ a from fun z => absurd (z ▸ hb) (by rw [ha]; decide)] using t
theorem r_Cur_1 {β : Type} {f : Int32 → Option β} {Q : β → Prop} (T : q_U L W h0 π h) (ha : qκ L a = 3) (H : ∀ x, x = vI h a 1 → 0 ≤ x → x ≤ 242 → qk (f x) Q) : qk (z_b (gI h a 2 1) f) Q := by
  rw [q_gI (ci := 2) T.2.2 ha (by decide) rfl]
  have c := (q_CCur T ha).1
  have t := T.2.2.2.1 a 1
  rw [c.1, c.2] at t
  exact H _ rfl t.1 t.2
theorem w_Cur_1 {β : Type} {f : z_H → Option β} {Q : β → Prop} {v : Int32} (T : q_U L W h0 π h) (ha : qκ L a = 3) (w : W a) (r1 : 0 ≤ v) (r2 : v ≤ 242) (H : ∀ h', q_U L W h0 π h' → (∀ a' k', vI h' a' k' = if a' = a ∧ k' = 1 then v else vI h a' k') → (∀ a' i, vA h' a' i = vA h a' i) → qk (f h') Q) : qk (z_b (sF h a 2 1 (.int v)) f) Q := by
  have c := (q_CCur T ha).1
  obtain ⟨h', e1, e2, e3⟩ := q_sI (ci := 2) (k := 1) (v := v) T.2.2 ha (by decide) rfl w (by rw [c.1]; exact r1) (by rw [c.2]; exact r2)
  rw [e1]; exact H h' ⟨T.1, T.2.1, e2⟩ e3.1 e3.2
theorem r_Cur_2 {β : Type} {f : Int32 → Option β} {Q : β → Prop} (T : q_U L W h0 π h) (ha : qκ L a = 3) (H : ∀ x, x = vI h a 2 → qk (f x) Q) : qk (z_b (gI h a 2 2) f) Q := by
  rw [q_gI (ci := 2) T.2.2 ha (by decide) rfl]
  exact H _ rfl
theorem w_Cur_2 {β : Type} {f : z_H → Option β} {Q : β → Prop} {v : Int32} (T : q_U L W h0 π h) (ha : qκ L a = 3) (w : W a) (H : ∀ h', q_U L W h0 π h' → (∀ a' k', vI h' a' k' = if a' = a ∧ k' = 2 then v else vI h a' k') → (∀ a' i, vA h' a' i = vA h a' i) → qk (f h') Q) : qk (z_b (sF h a 2 2 (.int v)) f) Q := by
  have c := (q_CCur T ha).2
  obtain ⟨h', e1, e2, e3⟩ := q_sI (ci := 2) (k := 2) (v := v) T.2.2 ha (by decide) rfl w (by rw [c.1]; exact q_min v) (by rw [c.2]; exact q_max v)
  rw [e1]; exact H h' ⟨T.1, T.2.1, e2⟩ e3.1 e3.2
theorem r_Ed_o {β : Type} {f : Unit → Option β} {Q : β → Prop} (T : q_U L W h0 π h) (ha : qκ L a = 4) (H : qk (f ()) Q) : qk (z_b (gO h a 3) f) Q := by
  rw [q_gO (ci := 3) T.2.2 ha (by decide)]; exact H
theorem r_Ed_0 {β : Type} {f : Nat → Option β} {Q : β → Prop} (T : q_U L W h0 π h) (ha : qκ L a = 4) (H : qκ L (a + 1) = 11 → qhi L (a + 1) 1 = 600 → qk (f (a + 1)) Q) : qk (z_b (gR h a 3 0) f) Q := by
  rw [q_gR (ci := 3) T.2.2 ha (by decide) ((q_FEd T ha).1)]
  exact H ((q_CEd T ha).1) ((q_CEd T ha).2.1)
theorem r_Ed_1 {β : Type} {f : Nat → Option β} {Q : β → Prop} {q : Nat} (T : q_U L W h0 π h) (ha : qκ L a = 4) (hq : π a 1 = some q) (H : qk (f q) Q) : qk (z_b (gR h a 3 1) f) Q := by
  rw [q_gR (ci := 3) T.2.2 ha (by decide) hq]; exact H
theorem w_Ed_1 {β : Type} {f : z_H → Option β} {Q : β → Prop} {q : Nat} (T : q_U L W h0 π h) (ha : qκ L a = 4) (w : W a) (H : ∀ π' h', q_U L W h0 π' h' → (∀ a' k', π' a' k' = if a' = a ∧ k' = 1 then some q else π a' k') → (∀ a' k', vI h' a' k' = vI h a' k') → (∀ a' i, vA h' a' i = vA h a' i) → qk (f h') Q) : qk (z_b (sF h a 3 1 (.ref q)) f) Q := by
  obtain ⟨h', e1, e2, e3⟩ := q_sR (ci := 3) (k := 1) (q := q) T.2.2 ha (by decide) rfl w
  rw [e1]
  refine H _ h' ⟨T.1, ?_, e2⟩ (fun _ _ => rfl) e3.1 e3.2
  refine ⟨?_, ?_, ?_, ?_, ?_, ?_, ?_, ?_, ?_, ?_, ?_, ?_⟩
  · intro b hb
    have t := T.2.1.1 b hb
    simpa [q_F_Addr, q_pu, show b ≠ a from fun z => absurd (z ▸ hb) (by rw [ha]; decide)] using t
  · intro b hb
    have t := T.2.1.2.1 b hb
    simpa [q_F_Cmd, q_pu, show b ≠ a from fun z => absurd (z ▸ hb) (by rw [ha]; decide)] using t
  · intro b hb
    have t := T.2.1.2.2.1 b hb
    exact t
  · intro b hb
    have t := T.2.1.2.2.2.1 b hb
    simpa [q_F_Ed, q_pu] using t
  · intro b hb
    have t := T.2.1.2.2.2.2.1 b hb
    simpa [q_F_It, q_pu, show b ≠ a from fun z => absurd (z ▸ hb) (by rw [ha]; decide)] using t
  · intro b hb
    have t := T.2.1.2.2.2.2.2.1 b hb
    simpa [q_F_Ma, q_pu, show b ≠ a from fun z => absurd (z ▸ hb) (by rw [ha]; decide)] using t
  · intro b hb
    have t := T.2.1.2.2.2.2.2.2.1 b hb
    simpa [q_F_Pa, q_pu, show b ≠ a from fun z => absurd (z ▸ hb) (by rw [ha]; decide)] using t
  · intro b hb
    have t := T.2.1.2.2.2.2.2.2.2.1 b hb
    exact t
  · intro b hb
    have t := T.2.1.2.2.2.2.2.2.2.2.1 b hb
    exact t
  · intro b hb
    have t := T.2.1.2.2.2.2.2.2.2.2.2.1 b hb
    simpa [q_F_Prog, q_pu, show b ≠ a from fun z => absurd (z ▸ hb) (by rw [ha]; decide)] using t
  · intro b hb
    have t := T.2.1.2.2.2.2.2.2.2.2.2.2.1 b hb
    simpa [q_F_Row, q_pu, show b ≠ a from fun z => absurd (z ▸ hb) (by rw [ha]; decide)] using t
  · intro b hb
    have t := T.2.1.2.2.2.2.2.2.2.2.2.2.2 b hb
    simpa [q_F_SF, q_pu, show b ≠ a from fun z => absurd (z ▸ hb) (by rw [ha]; decide)] using t
theorem r_Ed_2 {β : Type} {f : Nat → Option β} {Q : β → Prop} {q : Nat} (T : q_U L W h0 π h) (ha : qκ L a = 4) (hq : π a 2 = some q) (H : qk (f q) Q) : qk (z_b (gR h a 3 2) f) Q := by
  rw [q_gR (ci := 3) T.2.2 ha (by decide) hq]; exact H
theorem w_Ed_2 {β : Type} {f : z_H → Option β} {Q : β → Prop} {q : Nat} (T : q_U L W h0 π h) (ha : qκ L a = 4) (w : W a) (H : ∀ π' h', q_U L W h0 π' h' → (∀ a' k', π' a' k' = if a' = a ∧ k' = 2 then some q else π a' k') → (∀ a' k', vI h' a' k' = vI h a' k') → (∀ a' i, vA h' a' i = vA h a' i) → qk (f h') Q) : qk (z_b (sF h a 3 2 (.ref q)) f) Q := by
  obtain ⟨h', e1, e2, e3⟩ := q_sR (ci := 3) (k := 2) (q := q) T.2.2 ha (by decide) rfl w
  rw [e1]
  refine H _ h' ⟨T.1, ?_, e2⟩ (fun _ _ => rfl) e3.1 e3.2
  refine ⟨?_, ?_, ?_, ?_, ?_, ?_, ?_, ?_, ?_, ?_, ?_, ?_⟩
  · intro b hb
    have t := T.2.1.1 b hb
    simpa [q_F_Addr, q_pu, show b ≠ a from fun z => absurd (z ▸ hb) (by rw [ha]; decide)] using t
  · intro b hb
    have t := T.2.1.2.1 b hb
    simpa [q_F_Cmd, q_pu, show b ≠ a from fun z => absurd (z ▸ hb) (by rw [ha]; decide)] using t
  · intro b hb
    have t := T.2.1.2.2.1 b hb
    exact t
  · intro b hb
    have t := T.2.1.2.2.2.1 b hb
    simpa [q_F_Ed, q_pu] using t
  · intro b hb
    have t := T.2.1.2.2.2.2.1 b hb
    simpa [q_F_It, q_pu, show b ≠ a from fun z => absurd (z ▸ hb) (by rw [ha]; decide)] using t
  · intro b hb
    have t := T.2.1.2.2.2.2.2.1 b hb
    simpa [q_F_Ma, q_pu, show b ≠ a from fun z => absurd (z ▸ hb) (by rw [ha]; decide)] using t
  · intro b hb
    have t := T.2.1.2.2.2.2.2.2.1 b hb
    simpa [q_F_Pa, q_pu, show b ≠ a from fun z => absurd (z ▸ hb) (by rw [ha]; decide)] using t
  · intro b hb
    have t := T.2.1.2.2.2.2.2.2.2.1 b hb
    exact t
  · intro b hb
    have t := T.2.1.2.2.2.2.2.2.2.2.1 b hb
    exact t
  · intro b hb
    have t := T.2.1.2.2.2.2.2.2.2.2.2.1 b hb
    simpa [q_F_Prog, q_pu, show b ≠ a from fun z => absurd (z ▸ hb) (by rw [ha]; decide)] using t
  · intro b hb
    have t := T.2.1.2.2.2.2.2.2.2.2.2.2.1 b hb
    simpa [q_F_Row, q_pu, show b ≠ a from fun z => absurd (z ▸ hb) (by rw [ha]; decide)] using t
  · intro b hb
    have t := T.2.1.2.2.2.2.2.2.2.2.2.2.2 b hb
    simpa [q_F_SF, q_pu, show b ≠ a from fun z => absurd (z ▸ hb) (by rw [ha]; decide)] using t
theorem r_Ed_3 {β : Type} {f : Int32 → Option β} {Q : β → Prop} (T : q_U L W h0 π h) (ha : qκ L a = 4) (H : ∀ x, x = vI h a 3 → 0 ≤ x → x ≤ 12 → qk (f x) Q) : qk (z_b (gI h a 3 3) f) Q := by
  rw [q_gI (ci := 3) T.2.2 ha (by decide) rfl]
  have c := (q_CEd T ha).2.2.1
  have t := T.2.2.2.1 a 3
  rw [c.1, c.2] at t
  exact H _ rfl t.1 t.2
theorem w_Ed_3 {β : Type} {f : z_H → Option β} {Q : β → Prop} {v : Int32} (T : q_U L W h0 π h) (ha : qκ L a = 4) (w : W a) (r1 : 0 ≤ v) (r2 : v ≤ 12) (H : ∀ h', q_U L W h0 π h' → (∀ a' k', vI h' a' k' = if a' = a ∧ k' = 3 then v else vI h a' k') → (∀ a' i, vA h' a' i = vA h a' i) → qk (f h') Q) : qk (z_b (sF h a 3 3 (.int v)) f) Q := by
  have c := (q_CEd T ha).2.2.1
  obtain ⟨h', e1, e2, e3⟩ := q_sI (ci := 3) (k := 3) (v := v) T.2.2 ha (by decide) rfl w (by rw [c.1]; exact r1) (by rw [c.2]; exact r2)
  rw [e1]; exact H h' ⟨T.1, T.2.1, e2⟩ e3.1 e3.2
theorem r_Ed_4 {β : Type} {f : Int32 → Option β} {Q : β → Prop} (T : q_U L W h0 π h) (ha : qκ L a = 4) (H : ∀ x, x = vI h a 4 → 0 ≤ x → x ≤ 200 → qk (f x) Q) : qk (z_b (gI h a 3 4) f) Q := by
  rw [q_gI (ci := 3) T.2.2 ha (by decide) rfl]
  have c := (q_CEd T ha).2.2.2.1
  have t := T.2.2.2.1 a 4
  rw [c.1, c.2] at t
  exact H _ rfl t.1 t.2
theorem w_Ed_4 {β : Type} {f : z_H → Option β} {Q : β → Prop} {v : Int32} (T : q_U L W h0 π h) (ha : qκ L a = 4) (w : W a) (r1 : 0 ≤ v) (r2 : v ≤ 200) (H : ∀ h', q_U L W h0 π h' → (∀ a' k', vI h' a' k' = if a' = a ∧ k' = 4 then v else vI h a' k') → (∀ a' i, vA h' a' i = vA h a' i) → qk (f h') Q) : qk (z_b (sF h a 3 4 (.int v)) f) Q := by
  have c := (q_CEd T ha).2.2.2.1
  obtain ⟨h', e1, e2, e3⟩ := q_sI (ci := 3) (k := 4) (v := v) T.2.2 ha (by decide) rfl w (by rw [c.1]; exact r1) (by rw [c.2]; exact r2)
  rw [e1]; exact H h' ⟨T.1, T.2.1, e2⟩ e3.1 e3.2
theorem r_Ed_5 {β : Type} {f : Int32 → Option β} {Q : β → Prop} (T : q_U L W h0 π h) (ha : qκ L a = 4) (H : ∀ x, x = vI h a 5 → qk (f x) Q) : qk (z_b (gI h a 3 5) f) Q := by
  rw [q_gI (ci := 3) T.2.2 ha (by decide) rfl]
  exact H _ rfl
theorem w_Ed_5 {β : Type} {f : z_H → Option β} {Q : β → Prop} {v : Int32} (T : q_U L W h0 π h) (ha : qκ L a = 4) (w : W a) (H : ∀ h', q_U L W h0 π h' → (∀ a' k', vI h' a' k' = if a' = a ∧ k' = 5 then v else vI h a' k') → (∀ a' i, vA h' a' i = vA h a' i) → qk (f h') Q) : qk (z_b (sF h a 3 5 (.int v)) f) Q := by
  have c := (q_CEd T ha).2.2.2.2.1
  obtain ⟨h', e1, e2, e3⟩ := q_sI (ci := 3) (k := 5) (v := v) T.2.2 ha (by decide) rfl w (by rw [c.1]; exact q_min v) (by rw [c.2]; exact q_max v)
  rw [e1]; exact H h' ⟨T.1, T.2.1, e2⟩ e3.1 e3.2
theorem r_Ed_6 {β : Type} {f : Int32 → Option β} {Q : β → Prop} (T : q_U L W h0 π h) (ha : qκ L a = 4) (H : ∀ x, x = vI h a 6 → qk (f x) Q) : qk (z_b (gI h a 3 6) f) Q := by
  rw [q_gI (ci := 3) T.2.2 ha (by decide) rfl]
  exact H _ rfl
theorem w_Ed_6 {β : Type} {f : z_H → Option β} {Q : β → Prop} {v : Int32} (T : q_U L W h0 π h) (ha : qκ L a = 4) (w : W a) (H : ∀ h', q_U L W h0 π h' → (∀ a' k', vI h' a' k' = if a' = a ∧ k' = 6 then v else vI h a' k') → (∀ a' i, vA h' a' i = vA h a' i) → qk (f h') Q) : qk (z_b (sF h a 3 6 (.int v)) f) Q := by
  have c := (q_CEd T ha).2.2.2.2.2.1
  obtain ⟨h', e1, e2, e3⟩ := q_sI (ci := 3) (k := 6) (v := v) T.2.2 ha (by decide) rfl w (by rw [c.1]; exact q_min v) (by rw [c.2]; exact q_max v)
  rw [e1]; exact H h' ⟨T.1, T.2.1, e2⟩ e3.1 e3.2
theorem r_Ed_7 {β : Type} {f : Nat → Option β} {Q : β → Prop} (T : q_U L W h0 π h) (ha : qκ L a = 4) (H : qκ L (a + 7) = 11 → qhi L (a + 7) 1 = 200 → qk (f (a + 7)) Q) : qk (z_b (gR h a 3 7) f) Q := by
  rw [q_gR (ci := 3) T.2.2 ha (by decide) ((q_FEd T ha).2.1)]
  exact H ((q_CEd T ha).2.2.2.2.2.2.1) ((q_CEd T ha).2.2.2.2.2.2.2.1)
theorem r_Ed_8 {β : Type} {f : Nat → Option β} {Q : β → Prop} (T : q_U L W h0 π h) (ha : qκ L a = 4) (H : qκ L (a + 9) = 6 → qk (f (a + 9)) Q) : qk (z_b (gR h a 3 8) f) Q := by
  rw [q_gR (ci := 3) T.2.2 ha (by decide) ((q_FEd T ha).2.2)]
  exact H ((q_CEd T ha).2.2.2.2.2.2.2.2.1)
theorem r_Ed_9 {β : Type} {f : Nat → Option β} {Q : β → Prop} {q : Nat} (T : q_U L W h0 π h) (ha : qκ L a = 4) (hq : π a 9 = some q) (H : qk (f q) Q) : qk (z_b (gR h a 3 9) f) Q := by
  rw [q_gR (ci := 3) T.2.2 ha (by decide) hq]; exact H
theorem w_Ed_9 {β : Type} {f : z_H → Option β} {Q : β → Prop} {q : Nat} (T : q_U L W h0 π h) (ha : qκ L a = 4) (w : W a) (H : ∀ π' h', q_U L W h0 π' h' → (∀ a' k', π' a' k' = if a' = a ∧ k' = 9 then some q else π a' k') → (∀ a' k', vI h' a' k' = vI h a' k') → (∀ a' i, vA h' a' i = vA h a' i) → qk (f h') Q) : qk (z_b (sF h a 3 9 (.ref q)) f) Q := by
  obtain ⟨h', e1, e2, e3⟩ := q_sR (ci := 3) (k := 9) (q := q) T.2.2 ha (by decide) rfl w
  rw [e1]
  refine H _ h' ⟨T.1, ?_, e2⟩ (fun _ _ => rfl) e3.1 e3.2
  refine ⟨?_, ?_, ?_, ?_, ?_, ?_, ?_, ?_, ?_, ?_, ?_, ?_⟩
  · intro b hb
    have t := T.2.1.1 b hb
    simpa [q_F_Addr, q_pu, show b ≠ a from fun z => absurd (z ▸ hb) (by rw [ha]; decide)] using t
  · intro b hb
    have t := T.2.1.2.1 b hb
    simpa [q_F_Cmd, q_pu, show b ≠ a from fun z => absurd (z ▸ hb) (by rw [ha]; decide)] using t
  · intro b hb
    have t := T.2.1.2.2.1 b hb
    exact t
  · intro b hb
    have t := T.2.1.2.2.2.1 b hb
    simpa [q_F_Ed, q_pu] using t
  · intro b hb
    have t := T.2.1.2.2.2.2.1 b hb
    simpa [q_F_It, q_pu, show b ≠ a from fun z => absurd (z ▸ hb) (by rw [ha]; decide)] using t
  · intro b hb
    have t := T.2.1.2.2.2.2.2.1 b hb
    simpa [q_F_Ma, q_pu, show b ≠ a from fun z => absurd (z ▸ hb) (by rw [ha]; decide)] using t
  · intro b hb
    have t := T.2.1.2.2.2.2.2.2.1 b hb
    simpa [q_F_Pa, q_pu, show b ≠ a from fun z => absurd (z ▸ hb) (by rw [ha]; decide)] using t
  · intro b hb
    have t := T.2.1.2.2.2.2.2.2.2.1 b hb
    exact t
  · intro b hb
    have t := T.2.1.2.2.2.2.2.2.2.2.1 b hb
    exact t
  · intro b hb
    have t := T.2.1.2.2.2.2.2.2.2.2.2.1 b hb
    simpa [q_F_Prog, q_pu, show b ≠ a from fun z => absurd (z ▸ hb) (by rw [ha]; decide)] using t
  · intro b hb
    have t := T.2.1.2.2.2.2.2.2.2.2.2.2.1 b hb
    simpa [q_F_Row, q_pu, show b ≠ a from fun z => absurd (z ▸ hb) (by rw [ha]; decide)] using t
  · intro b hb
    have t := T.2.1.2.2.2.2.2.2.2.2.2.2.2 b hb
    simpa [q_F_SF, q_pu, show b ≠ a from fun z => absurd (z ▸ hb) (by rw [ha]; decide)] using t
theorem r_Ed_10 {β : Type} {f : Nat → Option β} {Q : β → Prop} {q : Nat} (T : q_U L W h0 π h) (ha : qκ L a = 4) (hq : π a 10 = some q) (H : qk (f q) Q) : qk (z_b (gR h a 3 10) f) Q := by
  rw [q_gR (ci := 3) T.2.2 ha (by decide) hq]; exact H
theorem w_Ed_10 {β : Type} {f : z_H → Option β} {Q : β → Prop} {q : Nat} (T : q_U L W h0 π h) (ha : qκ L a = 4) (w : W a) (H : ∀ π' h', q_U L W h0 π' h' → (∀ a' k', π' a' k' = if a' = a ∧ k' = 10 then some q else π a' k') → (∀ a' k', vI h' a' k' = vI h a' k') → (∀ a' i, vA h' a' i = vA h a' i) → qk (f h') Q) : qk (z_b (sF h a 3 10 (.ref q)) f) Q := by
  obtain ⟨h', e1, e2, e3⟩ := q_sR (ci := 3) (k := 10) (q := q) T.2.2 ha (by decide) rfl w
  rw [e1]
  refine H _ h' ⟨T.1, ?_, e2⟩ (fun _ _ => rfl) e3.1 e3.2
  refine ⟨?_, ?_, ?_, ?_, ?_, ?_, ?_, ?_, ?_, ?_, ?_, ?_⟩
  · intro b hb
    have t := T.2.1.1 b hb
    simpa [q_F_Addr, q_pu, show b ≠ a from fun z => absurd (z ▸ hb) (by rw [ha]; decide)] using t
  · intro b hb
    have t := T.2.1.2.1 b hb
    simpa [q_F_Cmd, q_pu, show b ≠ a from fun z => absurd (z ▸ hb) (by rw [ha]; decide)] using t
  · intro b hb
    have t := T.2.1.2.2.1 b hb
    exact t
  · intro b hb
    have t := T.2.1.2.2.2.1 b hb
    simpa [q_F_Ed, q_pu] using t
  · intro b hb
    have t := T.2.1.2.2.2.2.1 b hb
    simpa [q_F_It, q_pu, show b ≠ a from fun z => absurd (z ▸ hb) (by rw [ha]; decide)] using t
  · intro b hb
    have t := T.2.1.2.2.2.2.2.1 b hb
    simpa [q_F_Ma, q_pu, show b ≠ a from fun z => absurd (z ▸ hb) (by rw [ha]; decide)] using t
  · intro b hb
    have t := T.2.1.2.2.2.2.2.2.1 b hb
    simpa [q_F_Pa, q_pu, show b ≠ a from fun z => absurd (z ▸ hb) (by rw [ha]; decide)] using t
  · intro b hb
    have t := T.2.1.2.2.2.2.2.2.2.1 b hb
    exact t
  · intro b hb
    have t := T.2.1.2.2.2.2.2.2.2.2.1 b hb
    exact t
  · intro b hb
    have t := T.2.1.2.2.2.2.2.2.2.2.2.1 b hb
    simpa [q_F_Prog, q_pu, show b ≠ a from fun z => absurd (z ▸ hb) (by rw [ha]; decide)] using t
  · intro b hb
    have t := T.2.1.2.2.2.2.2.2.2.2.2.2.1 b hb
    simpa [q_F_Row, q_pu, show b ≠ a from fun z => absurd (z ▸ hb) (by rw [ha]; decide)] using t
  · intro b hb
    have t := T.2.1.2.2.2.2.2.2.2.2.2.2.2 b hb
    simpa [q_F_SF, q_pu, show b ≠ a from fun z => absurd (z ▸ hb) (by rw [ha]; decide)] using t
theorem r_Ed_11 {β : Type} {f : Nat → Option β} {Q : β → Prop} {q : Nat} (T : q_U L W h0 π h) (ha : qκ L a = 4) (hq : π a 11 = some q) (H : qk (f q) Q) : qk (z_b (gR h a 3 11) f) Q := by
  rw [q_gR (ci := 3) T.2.2 ha (by decide) hq]; exact H
theorem w_Ed_11 {β : Type} {f : z_H → Option β} {Q : β → Prop} {q : Nat} (T : q_U L W h0 π h) (ha : qκ L a = 4) (w : W a) (H : ∀ π' h', q_U L W h0 π' h' → (∀ a' k', π' a' k' = if a' = a ∧ k' = 11 then some q else π a' k') → (∀ a' k', vI h' a' k' = vI h a' k') → (∀ a' i, vA h' a' i = vA h a' i) → qk (f h') Q) : qk (z_b (sF h a 3 11 (.ref q)) f) Q := by
  obtain ⟨h', e1, e2, e3⟩ := q_sR (ci := 3) (k := 11) (q := q) T.2.2 ha (by decide) rfl w
  rw [e1]
  refine H _ h' ⟨T.1, ?_, e2⟩ (fun _ _ => rfl) e3.1 e3.2
  refine ⟨?_, ?_, ?_, ?_, ?_, ?_, ?_, ?_, ?_, ?_, ?_, ?_⟩
  · intro b hb
    have t := T.2.1.1 b hb
    simpa [q_F_Addr, q_pu, show b ≠ a from fun z => absurd (z ▸ hb) (by rw [ha]; decide)] using t
  · intro b hb
    have t := T.2.1.2.1 b hb
    simpa [q_F_Cmd, q_pu, show b ≠ a from fun z => absurd (z ▸ hb) (by rw [ha]; decide)] using t
  · intro b hb
    have t := T.2.1.2.2.1 b hb
    exact t
  · intro b hb
    have t := T.2.1.2.2.2.1 b hb
    simpa [q_F_Ed, q_pu] using t
  · intro b hb
    have t := T.2.1.2.2.2.2.1 b hb
    simpa [q_F_It, q_pu, show b ≠ a from fun z => absurd (z ▸ hb) (by rw [ha]; decide)] using t
  · intro b hb
    have t := T.2.1.2.2.2.2.2.1 b hb
    simpa [q_F_Ma, q_pu, show b ≠ a from fun z => absurd (z ▸ hb) (by rw [ha]; decide)] using t
  · intro b hb
    have t := T.2.1.2.2.2.2.2.2.1 b hb
    simpa [q_F_Pa, q_pu, show b ≠ a from fun z => absurd (z ▸ hb) (by rw [ha]; decide)] using t
  · intro b hb
    have t := T.2.1.2.2.2.2.2.2.2.1 b hb
    exact t
  · intro b hb
    have t := T.2.1.2.2.2.2.2.2.2.2.1 b hb
    exact t
  · intro b hb
    have t := T.2.1.2.2.2.2.2.2.2.2.2.1 b hb
    simpa [q_F_Prog, q_pu, show b ≠ a from fun z => absurd (z ▸ hb) (by rw [ha]; decide)] using t
  · intro b hb
    have t := T.2.1.2.2.2.2.2.2.2.2.2.2.1 b hb
    simpa [q_F_Row, q_pu, show b ≠ a from fun z => absurd (z ▸ hb) (by rw [ha]; decide)] using t
  · intro b hb
    have t := T.2.1.2.2.2.2.2.2.2.2.2.2.2 b hb
    simpa [q_F_SF, q_pu, show b ≠ a from fun z => absurd (z ▸ hb) (by rw [ha]; decide)] using t
theorem r_Ed_12 {β : Type} {f : Int32 → Option β} {Q : β → Prop} (T : q_U L W h0 π h) (ha : qκ L a = 4) (H : ∀ x, x = vI h a 12 → 0 ≤ x → x ≤ 12 → qk (f x) Q) : qk (z_b (gI h a 3 12) f) Q := by
  rw [q_gI (ci := 3) T.2.2 ha (by decide) rfl]
  have c := (q_CEd T ha).2.2.2.2.2.2.2.2.2.1
  have t := T.2.2.2.1 a 12
  rw [c.1, c.2] at t
  exact H _ rfl t.1 t.2
theorem w_Ed_12 {β : Type} {f : z_H → Option β} {Q : β → Prop} {v : Int32} (T : q_U L W h0 π h) (ha : qκ L a = 4) (w : W a) (r1 : 0 ≤ v) (r2 : v ≤ 12) (H : ∀ h', q_U L W h0 π h' → (∀ a' k', vI h' a' k' = if a' = a ∧ k' = 12 then v else vI h a' k') → (∀ a' i, vA h' a' i = vA h a' i) → qk (f h') Q) : qk (z_b (sF h a 3 12 (.int v)) f) Q := by
  have c := (q_CEd T ha).2.2.2.2.2.2.2.2.2.1
  obtain ⟨h', e1, e2, e3⟩ := q_sI (ci := 3) (k := 12) (v := v) T.2.2 ha (by decide) rfl w (by rw [c.1]; exact r1) (by rw [c.2]; exact r2)
  rw [e1]; exact H h' ⟨T.1, T.2.1, e2⟩ e3.1 e3.2
theorem r_Ed_13 {β : Type} {f : Int32 → Option β} {Q : β → Prop} (T : q_U L W h0 π h) (ha : qκ L a = 4) (H : ∀ x, x = vI h a 13 → 0 ≤ x → x ≤ 40 → qk (f x) Q) : qk (z_b (gI h a 3 13) f) Q := by
  rw [q_gI (ci := 3) T.2.2 ha (by decide) rfl]
  have c := (q_CEd T ha).2.2.2.2.2.2.2.2.2.2.1
  have t := T.2.2.2.1 a 13
  rw [c.1, c.2] at t
  exact H _ rfl t.1 t.2
theorem w_Ed_13 {β : Type} {f : z_H → Option β} {Q : β → Prop} {v : Int32} (T : q_U L W h0 π h) (ha : qκ L a = 4) (w : W a) (r1 : 0 ≤ v) (r2 : v ≤ 40) (H : ∀ h', q_U L W h0 π h' → (∀ a' k', vI h' a' k' = if a' = a ∧ k' = 13 then v else vI h a' k') → (∀ a' i, vA h' a' i = vA h a' i) → qk (f h') Q) : qk (z_b (sF h a 3 13 (.int v)) f) Q := by
  have c := (q_CEd T ha).2.2.2.2.2.2.2.2.2.2.1
  obtain ⟨h', e1, e2, e3⟩ := q_sI (ci := 3) (k := 13) (v := v) T.2.2 ha (by decide) rfl w (by rw [c.1]; exact r1) (by rw [c.2]; exact r2)
  rw [e1]; exact H h' ⟨T.1, T.2.1, e2⟩ e3.1 e3.2
theorem r_Ed_14 {β : Type} {f : Int32 → Option β} {Q : β → Prop} (T : q_U L W h0 π h) (ha : qκ L a = 4) (H : ∀ x, x = vI h a 14 → qk (f x) Q) : qk (z_b (gI h a 3 14) f) Q := by
  rw [q_gI (ci := 3) T.2.2 ha (by decide) rfl]
  exact H _ rfl
theorem w_Ed_14 {β : Type} {f : z_H → Option β} {Q : β → Prop} {v : Int32} (T : q_U L W h0 π h) (ha : qκ L a = 4) (w : W a) (H : ∀ h', q_U L W h0 π h' → (∀ a' k', vI h' a' k' = if a' = a ∧ k' = 14 then v else vI h a' k') → (∀ a' i, vA h' a' i = vA h a' i) → qk (f h') Q) : qk (z_b (sF h a 3 14 (.int v)) f) Q := by
  have c := (q_CEd T ha).2.2.2.2.2.2.2.2.2.2.2.1
  obtain ⟨h', e1, e2, e3⟩ := q_sI (ci := 3) (k := 14) (v := v) T.2.2 ha (by decide) rfl w (by rw [c.1]; exact q_min v) (by rw [c.2]; exact q_max v)
  rw [e1]; exact H h' ⟨T.1, T.2.1, e2⟩ e3.1 e3.2
theorem r_Ed_15 {β : Type} {f : Int32 → Option β} {Q : β → Prop} (T : q_U L W h0 π h) (ha : qκ L a = 4) (H : ∀ x, x = vI h a 15 → qk (f x) Q) : qk (z_b (gI h a 3 15) f) Q := by
  rw [q_gI (ci := 3) T.2.2 ha (by decide) rfl]
  exact H _ rfl
theorem w_Ed_15 {β : Type} {f : z_H → Option β} {Q : β → Prop} {v : Int32} (T : q_U L W h0 π h) (ha : qκ L a = 4) (w : W a) (H : ∀ h', q_U L W h0 π h' → (∀ a' k', vI h' a' k' = if a' = a ∧ k' = 15 then v else vI h a' k') → (∀ a' i, vA h' a' i = vA h a' i) → qk (f h') Q) : qk (z_b (sF h a 3 15 (.int v)) f) Q := by
  have c := (q_CEd T ha).2.2.2.2.2.2.2.2.2.2.2.2.1
  obtain ⟨h', e1, e2, e3⟩ := q_sI (ci := 3) (k := 15) (v := v) T.2.2 ha (by decide) rfl w (by rw [c.1]; exact q_min v) (by rw [c.2]; exact q_max v)
  rw [e1]; exact H h' ⟨T.1, T.2.1, e2⟩ e3.1 e3.2
theorem r_Ed_16 {β : Type} {f : Int32 → Option β} {Q : β → Prop} (T : q_U L W h0 π h) (ha : qκ L a = 4) (H : ∀ x, x = vI h a 16 → qk (f x) Q) : qk (z_b (gI h a 3 16) f) Q := by
  rw [q_gI (ci := 3) T.2.2 ha (by decide) rfl]
  exact H _ rfl
theorem w_Ed_16 {β : Type} {f : z_H → Option β} {Q : β → Prop} {v : Int32} (T : q_U L W h0 π h) (ha : qκ L a = 4) (w : W a) (H : ∀ h', q_U L W h0 π h' → (∀ a' k', vI h' a' k' = if a' = a ∧ k' = 16 then v else vI h a' k') → (∀ a' i, vA h' a' i = vA h a' i) → qk (f h') Q) : qk (z_b (sF h a 3 16 (.int v)) f) Q := by
  have c := (q_CEd T ha).2.2.2.2.2.2.2.2.2.2.2.2.2
  obtain ⟨h', e1, e2, e3⟩ := q_sI (ci := 3) (k := 16) (v := v) T.2.2 ha (by decide) rfl w (by rw [c.1]; exact q_min v) (by rw [c.2]; exact q_max v)
  rw [e1]; exact H h' ⟨T.1, T.2.1, e2⟩ e3.1 e3.2
theorem r_It_o {β : Type} {f : Unit → Option β} {Q : β → Prop} (T : q_U L W h0 π h) (ha : qκ L a = 5) (H : qk (f ()) Q) : qk (z_b (gO h a 4) f) Q := by
  rw [q_gO (ci := 4) T.2.2 ha (by decide)]; exact H
theorem r_It_0 {β : Type} {f : Nat → Option β} {Q : β → Prop} (T : q_U L W h0 π h) (ha : qκ L a = 5) (H : qk (f (a + 1)) Q) : qk (z_b (gR h a 4 0) f) Q := by
  rw [q_gR (ci := 4) T.2.2 ha (by decide) ((q_FIt T ha).1)]
  exact H
theorem r_It_1 {β : Type} {f : Nat → Option β} {Q : β → Prop} (T : q_U L W h0 π h) (ha : qκ L a = 5) (H : qk (f (a + 2)) Q) : qk (z_b (gR h a 4 1) f) Q := by
  rw [q_gR (ci := 4) T.2.2 ha (by decide) ((q_FIt T ha).2.1)]
  exact H
theorem r_It_2 {β : Type} {f : Nat → Option β} {Q : β → Prop} (T : q_U L W h0 π h) (ha : qκ L a = 5) (H : qk (f (a + 3)) Q) : qk (z_b (gR h a 4 2) f) Q := by
  rw [q_gR (ci := 4) T.2.2 ha (by decide) ((q_FIt T ha).2.2.1)]
  exact H
theorem r_It_3 {β : Type} {f : Nat → Option β} {Q : β → Prop} (T : q_U L W h0 π h) (ha : qκ L a = 5) (H : qk (f (a + 4)) Q) : qk (z_b (gR h a 4 3) f) Q := by
  rw [q_gR (ci := 4) T.2.2 ha (by decide) ((q_FIt T ha).2.2.2)]
  exact H
theorem r_It_4 {β : Type} {f : Int32 → Option β} {Q : β → Prop} (T : q_U L W h0 π h) (ha : qκ L a = 5) (H : ∀ x, x = vI h a 4 → 0 ≤ x → x ≤ 240 → qk (f x) Q) : qk (z_b (gI h a 4 4) f) Q := by
  rw [q_gI (ci := 4) T.2.2 ha (by decide) rfl]
  have c := (q_CIt T ha).1
  have t := T.2.2.2.1 a 4
  rw [c.1, c.2] at t
  exact H _ rfl t.1 t.2
theorem w_It_4 {β : Type} {f : z_H → Option β} {Q : β → Prop} {v : Int32} (T : q_U L W h0 π h) (ha : qκ L a = 5) (w : W a) (r1 : 0 ≤ v) (r2 : v ≤ 240) (H : ∀ h', q_U L W h0 π h' → (∀ a' k', vI h' a' k' = if a' = a ∧ k' = 4 then v else vI h a' k') → (∀ a' i, vA h' a' i = vA h a' i) → qk (f h') Q) : qk (z_b (sF h a 4 4 (.int v)) f) Q := by
  have c := (q_CIt T ha).1
  obtain ⟨h', e1, e2, e3⟩ := q_sI (ci := 4) (k := 4) (v := v) T.2.2 ha (by decide) rfl w (by rw [c.1]; exact r1) (by rw [c.2]; exact r2)
  rw [e1]; exact H h' ⟨T.1, T.2.1, e2⟩ e3.1 e3.2
theorem r_It_e1 {β : Type} {f : Int32 → Option β} {Q : β → Prop} {i : Int32} (T : q_U L W h0 π h) (ha : qκ L a = 5) (i0 : 0 ≤ i) (i1 : i < 240) (H : ∀ x, x = vA h (a + 1) i → qk (f x) Q) : qk (z_b (aI h (a + 1) 0 i) f) Q := by
  rw [q_aI (n := 240) T.2.2 ((q_CIt T ha).2.1) (by decide) (by decide) i0 i1]
  exact H _ rfl
theorem w_It_e1 {β : Type} {f : z_H → Option β} {Q : β → Prop} {i v : Int32} (T : q_U L W h0 π h) (ha : qκ L a = 5) (w : W (a + 1)) (i0 : 0 ≤ i) (i1 : i < 240) (H : ∀ h', q_U L W h0 π h' → (∀ a' k', vI h' a' k' = vI h a' k') → (∀ a' j, 0 ≤ j → vA h' a' j = if a' = a + 1 ∧ j = i then v else vA h a' j) → qk (f h') Q) : qk (z_b (uI h (a + 1) 0 i v) f) Q := by
  have c := (q_CIt T ha).2.2.1
  obtain ⟨h', e1, e2, e3⟩ := q_uI (n := 240) (t := 0) (i := i) (x := v) T.2.2 ((q_CIt T ha).2.1) (by decide) (by decide) w i0 i1 (by rw [c.1]; exact q_min v) (by rw [c.2]; exact q_max v)
  rw [e1]; exact H h' ⟨T.1, T.2.1, e2⟩ e3.1 e3.2
theorem r_It_e2 {β : Type} {f : Int32 → Option β} {Q : β → Prop} {i : Int32} (T : q_U L W h0 π h) (ha : qκ L a = 5) (i0 : 0 ≤ i) (i1 : i < 240) (H : ∀ x, x = vA h (a + 2) i → 0 ≤ x → x ≤ 3 → qk (f x) Q) : qk (z_b (aI h (a + 2) 0 i) f) Q := by
  rw [q_aI (n := 240) T.2.2 ((q_CIt T ha).2.2.2.1) (by decide) (by decide) i0 i1]
  have c := (q_CIt T ha).2.2.2.2.1
  have t := T.2.2.2.2.1 (a + 2) i
  rw [c.1, c.2] at t
  exact H _ rfl t.1 t.2
theorem w_It_e2 {β : Type} {f : z_H → Option β} {Q : β → Prop} {i v : Int32} (T : q_U L W h0 π h) (ha : qκ L a = 5) (w : W (a + 2)) (i0 : 0 ≤ i) (i1 : i < 240) (r1 : 0 ≤ v) (r2 : v ≤ 3) (H : ∀ h', q_U L W h0 π h' → (∀ a' k', vI h' a' k' = vI h a' k') → (∀ a' j, 0 ≤ j → vA h' a' j = if a' = a + 2 ∧ j = i then v else vA h a' j) → qk (f h') Q) : qk (z_b (uI h (a + 2) 0 i v) f) Q := by
  have c := (q_CIt T ha).2.2.2.2.1
  obtain ⟨h', e1, e2, e3⟩ := q_uI (n := 240) (t := 0) (i := i) (x := v) T.2.2 ((q_CIt T ha).2.2.2.1) (by decide) (by decide) w i0 i1 (by rw [c.1]; exact r1) (by rw [c.2]; exact r2)
  rw [e1]; exact H h' ⟨T.1, T.2.1, e2⟩ e3.1 e3.2
theorem r_It_e3 {β : Type} {f : Int64 → Option β} {Q : β → Prop} {i : Int32} (T : q_U L W h0 π h) (ha : qκ L a = 5) (i0 : 0 ≤ i) (i1 : i < 240) (H : ∀ x, qk (f x) Q) : qk (z_b (aL h (a + 3) i) f) Q := by
  obtain ⟨x, e⟩ := q_aL (n := 240) T.2.2 ((q_CIt T ha).2.2.2.2.2.1) (by decide) i0 i1
  rw [e]; exact H x
theorem w_It_e3 {β : Type} {f : z_H → Option β} {Q : β → Prop} {i : Int32} {v : Int64} (T : q_U L W h0 π h) (ha : qκ L a = 5) (w : W (a + 3)) (i0 : 0 ≤ i) (i1 : i < 240) (H : ∀ h', q_U L W h0 π h' → (∀ a' k', vI h' a' k' = vI h a' k') → (∀ a' j, vA h' a' j = vA h a' j) → qk (f h') Q) : qk (z_b (uL h (a + 3) i v) f) Q := by
  obtain ⟨h', e1, e2, e3⟩ := q_uL (n := 240) (i := i) (x := v) T.2.2 ((q_CIt T ha).2.2.2.2.2.1) (by decide) w i0 i1
  rw [e1]; exact H h' ⟨T.1, T.2.1, e2⟩ e3.1 e3.2
theorem r_It_e4 {β : Type} {f : Int64 → Option β} {Q : β → Prop} {i : Int32} (T : q_U L W h0 π h) (ha : qκ L a = 5) (i0 : 0 ≤ i) (i1 : i < 240) (H : ∀ x, qk (f x) Q) : qk (z_b (aL h (a + 4) i) f) Q := by
  obtain ⟨x, e⟩ := q_aL (n := 240) T.2.2 ((q_CIt T ha).2.2.2.2.2.2) (by decide) i0 i1
  rw [e]; exact H x
theorem w_It_e4 {β : Type} {f : z_H → Option β} {Q : β → Prop} {i : Int32} {v : Int64} (T : q_U L W h0 π h) (ha : qκ L a = 5) (w : W (a + 4)) (i0 : 0 ≤ i) (i1 : i < 240) (H : ∀ h', q_U L W h0 π h' → (∀ a' k', vI h' a' k' = vI h a' k') → (∀ a' j, vA h' a' j = vA h a' j) → qk (f h') Q) : qk (z_b (uL h (a + 4) i v) f) Q := by
  obtain ⟨h', e1, e2, e3⟩ := q_uL (n := 240) (i := i) (x := v) T.2.2 ((q_CIt T ha).2.2.2.2.2.2) (by decide) w i0 i1
  rw [e1]; exact H h' ⟨T.1, T.2.1, e2⟩ e3.1 e3.2
theorem r_Ma_o {β : Type} {f : Unit → Option β} {Q : β → Prop} (T : q_U L W h0 π h) (ha : qκ L a = 6) (H : qk (f ()) Q) : qk (z_b (gO h a 5) f) Q := by
  rw [q_gO (ci := 5) T.2.2 ha (by decide)]; exact H
theorem r_Ma_0 {β : Type} {f : Int32 → Option β} {Q : β → Prop} (T : q_U L W h0 π h) (ha : qκ L a = 6) (H : ∀ x, x = vI h a 0 → 0 ≤ x → x ≤ 600 → qk (f x) Q) : qk (z_b (gI h a 5 0) f) Q := by
  rw [q_gI (ci := 5) T.2.2 ha (by decide) rfl]
  have c := (q_CMa T ha).1
  have t := T.2.2.2.1 a 0
  rw [c.1, c.2] at t
  exact H _ rfl t.1 t.2
theorem w_Ma_0 {β : Type} {f : z_H → Option β} {Q : β → Prop} {v : Int32} (T : q_U L W h0 π h) (ha : qκ L a = 6) (w : W a) (r1 : 0 ≤ v) (r2 : v ≤ 600) (H : ∀ h', q_U L W h0 π h' → (∀ a' k', vI h' a' k' = if a' = a ∧ k' = 0 then v else vI h a' k') → (∀ a' i, vA h' a' i = vA h a' i) → qk (f h') Q) : qk (z_b (sF h a 5 0 (.int v)) f) Q := by
  have c := (q_CMa T ha).1
  obtain ⟨h', e1, e2, e3⟩ := q_sI (ci := 5) (k := 0) (v := v) T.2.2 ha (by decide) rfl w (by rw [c.1]; exact r1) (by rw [c.2]; exact r2)
  rw [e1]; exact H h' ⟨T.1, T.2.1, e2⟩ e3.1 e3.2
theorem r_Ma_1 {β : Type} {f : Int32 → Option β} {Q : β → Prop} (T : q_U L W h0 π h) (ha : qκ L a = 6) (H : ∀ x, x = vI h a 1 → (-1) ≤ x → x ≤ 600 → qk (f x) Q) : qk (z_b (gI h a 5 1) f) Q := by
  rw [q_gI (ci := 5) T.2.2 ha (by decide) rfl]
  have c := (q_CMa T ha).2.1
  have t := T.2.2.2.1 a 1
  rw [c.1, c.2] at t
  exact H _ rfl t.1 t.2
theorem w_Ma_1 {β : Type} {f : z_H → Option β} {Q : β → Prop} {v : Int32} (T : q_U L W h0 π h) (ha : qκ L a = 6) (w : W a) (r1 : (-1) ≤ v) (r2 : v ≤ 600) (H : ∀ h', q_U L W h0 π h' → (∀ a' k', vI h' a' k' = if a' = a ∧ k' = 1 then v else vI h a' k') → (∀ a' i, vA h' a' i = vA h a' i) → qk (f h') Q) : qk (z_b (sF h a 5 1 (.int v)) f) Q := by
  have c := (q_CMa T ha).2.1
  obtain ⟨h', e1, e2, e3⟩ := q_sI (ci := 5) (k := 1) (v := v) T.2.2 ha (by decide) rfl w (by rw [c.1]; exact r1) (by rw [c.2]; exact r2)
  rw [e1]; exact H h' ⟨T.1, T.2.1, e2⟩ e3.1 e3.2
theorem r_Ma_2 {β : Type} {f : Nat → Option β} {Q : β → Prop} {q : Nat} (T : q_U L W h0 π h) (ha : qκ L a = 6) (hq : π a 2 = some q) (H : qk (f q) Q) : qk (z_b (gR h a 5 2) f) Q := by
  rw [q_gR (ci := 5) T.2.2 ha (by decide) hq]; exact H
theorem w_Ma_2 {β : Type} {f : z_H → Option β} {Q : β → Prop} {q : Nat} (T : q_U L W h0 π h) (ha : qκ L a = 6) (w : W a) (H : ∀ π' h', q_U L W h0 π' h' → (∀ a' k', π' a' k' = if a' = a ∧ k' = 2 then some q else π a' k') → (∀ a' k', vI h' a' k' = vI h a' k') → (∀ a' i, vA h' a' i = vA h a' i) → qk (f h') Q) : qk (z_b (sF h a 5 2 (.ref q)) f) Q := by
  obtain ⟨h', e1, e2, e3⟩ := q_sR (ci := 5) (k := 2) (q := q) T.2.2 ha (by decide) rfl w
  rw [e1]
  refine H _ h' ⟨T.1, ?_, e2⟩ (fun _ _ => rfl) e3.1 e3.2
  refine ⟨?_, ?_, ?_, ?_, ?_, ?_, ?_, ?_, ?_, ?_, ?_, ?_⟩
  · intro b hb
    have t := T.2.1.1 b hb
    simpa [q_F_Addr, q_pu, show b ≠ a from fun z => absurd (z ▸ hb) (by rw [ha]; decide)] using t
  · intro b hb
    have t := T.2.1.2.1 b hb
    simpa [q_F_Cmd, q_pu, show b ≠ a from fun z => absurd (z ▸ hb) (by rw [ha]; decide)] using t
  · intro b hb
    have t := T.2.1.2.2.1 b hb
    exact t
  · intro b hb
    have t := T.2.1.2.2.2.1 b hb
    simpa [q_F_Ed, q_pu, show b ≠ a from fun z => absurd (z ▸ hb) (by rw [ha]; decide)] using t
  · intro b hb
    have t := T.2.1.2.2.2.2.1 b hb
    simpa [q_F_It, q_pu, show b ≠ a from fun z => absurd (z ▸ hb) (by rw [ha]; decide)] using t
  · intro b hb
    have t := T.2.1.2.2.2.2.2.1 b hb
    simpa [q_F_Ma, q_pu] using t
  · intro b hb
    have t := T.2.1.2.2.2.2.2.2.1 b hb
    simpa [q_F_Pa, q_pu, show b ≠ a from fun z => absurd (z ▸ hb) (by rw [ha]; decide)] using t
  · intro b hb
    have t := T.2.1.2.2.2.2.2.2.2.1 b hb
    exact t
  · intro b hb
    have t := T.2.1.2.2.2.2.2.2.2.2.1 b hb
    exact t
  · intro b hb
    have t := T.2.1.2.2.2.2.2.2.2.2.2.1 b hb
    simpa [q_F_Prog, q_pu, show b ≠ a from fun z => absurd (z ▸ hb) (by rw [ha]; decide)] using t
  · intro b hb
    have t := T.2.1.2.2.2.2.2.2.2.2.2.2.1 b hb
    simpa [q_F_Row, q_pu, show b ≠ a from fun z => absurd (z ▸ hb) (by rw [ha]; decide)] using t
  · intro b hb
    have t := T.2.1.2.2.2.2.2.2.2.2.2.2.2 b hb
    simpa [q_F_SF, q_pu, show b ≠ a from fun z => absurd (z ▸ hb) (by rw [ha]; decide)] using t
theorem r_Ma_3 {β : Type} {f : Nat → Option β} {Q : β → Prop} {q : Nat} (T : q_U L W h0 π h) (ha : qκ L a = 6) (hq : π a 3 = some q) (H : qk (f q) Q) : qk (z_b (gR h a 5 3) f) Q := by
  rw [q_gR (ci := 5) T.2.2 ha (by decide) hq]; exact H
theorem w_Ma_3 {β : Type} {f : z_H → Option β} {Q : β → Prop} {q : Nat} (T : q_U L W h0 π h) (ha : qκ L a = 6) (w : W a) (H : ∀ π' h', q_U L W h0 π' h' → (∀ a' k', π' a' k' = if a' = a ∧ k' = 3 then some q else π a' k') → (∀ a' k', vI h' a' k' = vI h a' k') → (∀ a' i, vA h' a' i = vA h a' i) → qk (f h') Q) : qk (z_b (sF h a 5 3 (.ref q)) f) Q := by
  obtain ⟨h', e1, e2, e3⟩ := q_sR (ci := 5) (k := 3) (q := q) T.2.2 ha (by decide) rfl w
  rw [e1]
  refine H _ h' ⟨T.1, ?_, e2⟩ (fun _ _ => rfl) e3.1 e3.2
  refine ⟨?_, ?_, ?_, ?_, ?_, ?_, ?_, ?_, ?_, ?_, ?_, ?_⟩
  · intro b hb
    have t := T.2.1.1 b hb
    simpa [q_F_Addr, q_pu, show b ≠ a from fun z => absurd (z ▸ hb) (by rw [ha]; decide)] using t
  · intro b hb
    have t := T.2.1.2.1 b hb
    simpa [q_F_Cmd, q_pu, show b ≠ a from fun z => absurd (z ▸ hb) (by rw [ha]; decide)] using t
  · intro b hb
    have t := T.2.1.2.2.1 b hb
    exact t
  · intro b hb
    have t := T.2.1.2.2.2.1 b hb
    simpa [q_F_Ed, q_pu, show b ≠ a from fun z => absurd (z ▸ hb) (by rw [ha]; decide)] using t
  · intro b hb
    have t := T.2.1.2.2.2.2.1 b hb
    simpa [q_F_It, q_pu, show b ≠ a from fun z => absurd (z ▸ hb) (by rw [ha]; decide)] using t
  · intro b hb
    have t := T.2.1.2.2.2.2.2.1 b hb
    simpa [q_F_Ma, q_pu] using t
  · intro b hb
    have t := T.2.1.2.2.2.2.2.2.1 b hb
    simpa [q_F_Pa, q_pu, show b ≠ a from fun z => absurd (z ▸ hb) (by rw [ha]; decide)] using t
  · intro b hb
    have t := T.2.1.2.2.2.2.2.2.2.1 b hb
    exact t
  · intro b hb
    have t := T.2.1.2.2.2.2.2.2.2.2.1 b hb
    exact t
  · intro b hb
    have t := T.2.1.2.2.2.2.2.2.2.2.2.1 b hb
    simpa [q_F_Prog, q_pu, show b ≠ a from fun z => absurd (z ▸ hb) (by rw [ha]; decide)] using t
  · intro b hb
    have t := T.2.1.2.2.2.2.2.2.2.2.2.2.1 b hb
    simpa [q_F_Row, q_pu, show b ≠ a from fun z => absurd (z ▸ hb) (by rw [ha]; decide)] using t
  · intro b hb
    have t := T.2.1.2.2.2.2.2.2.2.2.2.2.2 b hb
    simpa [q_F_SF, q_pu, show b ≠ a from fun z => absurd (z ▸ hb) (by rw [ha]; decide)] using t
theorem r_Ma_4 {β : Type} {f : Nat → Option β} {Q : β → Prop} {q : Nat} (T : q_U L W h0 π h) (ha : qκ L a = 6) (hq : π a 4 = some q) (H : qk (f q) Q) : qk (z_b (gR h a 5 4) f) Q := by
  rw [q_gR (ci := 5) T.2.2 ha (by decide) hq]; exact H
theorem w_Ma_4 {β : Type} {f : z_H → Option β} {Q : β → Prop} {q : Nat} (T : q_U L W h0 π h) (ha : qκ L a = 6) (w : W a) (H : ∀ π' h', q_U L W h0 π' h' → (∀ a' k', π' a' k' = if a' = a ∧ k' = 4 then some q else π a' k') → (∀ a' k', vI h' a' k' = vI h a' k') → (∀ a' i, vA h' a' i = vA h a' i) → qk (f h') Q) : qk (z_b (sF h a 5 4 (.ref q)) f) Q := by
  obtain ⟨h', e1, e2, e3⟩ := q_sR (ci := 5) (k := 4) (q := q) T.2.2 ha (by decide) rfl w
  rw [e1]
  refine H _ h' ⟨T.1, ?_, e2⟩ (fun _ _ => rfl) e3.1 e3.2
  refine ⟨?_, ?_, ?_, ?_, ?_, ?_, ?_, ?_, ?_, ?_, ?_, ?_⟩
  · intro b hb
    have t := T.2.1.1 b hb
    simpa [q_F_Addr, q_pu, show b ≠ a from fun z => absurd (z ▸ hb) (by rw [ha]; decide)] using t
  · intro b hb
    have t := T.2.1.2.1 b hb
    simpa [q_F_Cmd, q_pu, show b ≠ a from fun z => absurd (z ▸ hb) (by rw [ha]; decide)] using t
  · intro b hb
    have t := T.2.1.2.2.1 b hb
    exact t
  · intro b hb
    have t := T.2.1.2.2.2.1 b hb
    simpa [q_F_Ed, q_pu, show b ≠ a from fun z => absurd (z ▸ hb) (by rw [ha]; decide)] using t
  · intro b hb
    have t := T.2.1.2.2.2.2.1 b hb
    simpa [q_F_It, q_pu, show b ≠ a from fun z => absurd (z ▸ hb) (by rw [ha]; decide)] using t
  · intro b hb
    have t := T.2.1.2.2.2.2.2.1 b hb
    simpa [q_F_Ma, q_pu] using t
  · intro b hb
    have t := T.2.1.2.2.2.2.2.2.1 b hb
    simpa [q_F_Pa, q_pu, show b ≠ a from fun z => absurd (z ▸ hb) (by rw [ha]; decide)] using t
  · intro b hb
    have t := T.2.1.2.2.2.2.2.2.2.1 b hb
    exact t
  · intro b hb
    have t := T.2.1.2.2.2.2.2.2.2.2.1 b hb
    exact t
  · intro b hb
    have t := T.2.1.2.2.2.2.2.2.2.2.2.1 b hb
    simpa [q_F_Prog, q_pu, show b ≠ a from fun z => absurd (z ▸ hb) (by rw [ha]; decide)] using t
  · intro b hb
    have t := T.2.1.2.2.2.2.2.2.2.2.2.2.1 b hb
    simpa [q_F_Row, q_pu, show b ≠ a from fun z => absurd (z ▸ hb) (by rw [ha]; decide)] using t
  · intro b hb
    have t := T.2.1.2.2.2.2.2.2.2.2.2.2.2 b hb
    simpa [q_F_SF, q_pu, show b ≠ a from fun z => absurd (z ▸ hb) (by rw [ha]; decide)] using t
theorem r_Ma_5 {β : Type} {f : Nat → Option β} {Q : β → Prop} (T : q_U L W h0 π h) (ha : qκ L a = 6) (H : qk (f (a + 1)) Q) : qk (z_b (gR h a 5 5) f) Q := by
  rw [q_gR (ci := 5) T.2.2 ha (by decide) ((q_FMa T ha).1)]
  exact H
theorem r_Ma_6 {β : Type} {f : Nat → Option β} {Q : β → Prop} (T : q_U L W h0 π h) (ha : qκ L a = 6) (H : qk (f (a + 2)) Q) : qk (z_b (gR h a 5 6) f) Q := by
  rw [q_gR (ci := 5) T.2.2 ha (by decide) ((q_FMa T ha).2.1)]
  exact H
theorem r_Ma_7 {β : Type} {f : Nat → Option β} {Q : β → Prop} (T : q_U L W h0 π h) (ha : qκ L a = 6) (H : qk (f (a + 3)) Q) : qk (z_b (gR h a 5 7) f) Q := by
  rw [q_gR (ci := 5) T.2.2 ha (by decide) ((q_FMa T ha).2.2.1)]
  exact H
theorem r_Ma_8 {β : Type} {f : Nat → Option β} {Q : β → Prop} (T : q_U L W h0 π h) (ha : qκ L a = 6) (H : qk (f (a + 4)) Q) : qk (z_b (gR h a 5 8) f) Q := by
  rw [q_gR (ci := 5) T.2.2 ha (by decide) ((q_FMa T ha).2.2.2)]
  exact H
theorem r_Ma_e1 {β : Type} {f : Int32 → Option β} {Q : β → Prop} {i : Int32} (T : q_U L W h0 π h) (ha : qκ L a = 6) (i0 : 0 ≤ i) (i1 : i < 4) (H : ∀ x, x = vA h (a + 1) i → 0 ≤ x → x ≤ 600 → qk (f x) Q) : qk (z_b (aI h (a + 1) 0 i) f) Q := by
  rw [q_aI (n := 4) T.2.2 ((q_CMa T ha).2.2.1) (by decide) (by decide) i0 i1]
  have c := (q_CMa T ha).2.2.2.1
  have t := T.2.2.2.2.1 (a + 1) i
  rw [c.1, c.2] at t
  exact H _ rfl t.1 t.2
theorem w_Ma_e1 {β : Type} {f : z_H → Option β} {Q : β → Prop} {i v : Int32} (T : q_U L W h0 π h) (ha : qκ L a = 6) (w : W (a + 1)) (i0 : 0 ≤ i) (i1 : i < 4) (r1 : 0 ≤ v) (r2 : v ≤ 600) (H : ∀ h', q_U L W h0 π h' → (∀ a' k', vI h' a' k' = vI h a' k') → (∀ a' j, 0 ≤ j → vA h' a' j = if a' = a + 1 ∧ j = i then v else vA h a' j) → qk (f h') Q) : qk (z_b (uI h (a + 1) 0 i v) f) Q := by
  have c := (q_CMa T ha).2.2.2.1
  obtain ⟨h', e1, e2, e3⟩ := q_uI (n := 4) (t := 0) (i := i) (x := v) T.2.2 ((q_CMa T ha).2.2.1) (by decide) (by decide) w i0 i1 (by rw [c.1]; exact r1) (by rw [c.2]; exact r2)
  rw [e1]; exact H h' ⟨T.1, T.2.1, e2⟩ e3.1 e3.2
theorem r_Ma_e2 {β : Type} {f : Int32 → Option β} {Q : β → Prop} {i : Int32} (T : q_U L W h0 π h) (ha : qκ L a = 6) (i0 : 0 ≤ i) (i1 : i < 4) (H : ∀ x, x = vA h (a + 2) i → 0 ≤ x → x ≤ 600 → qk (f x) Q) : qk (z_b (aI h (a + 2) 0 i) f) Q := by
  rw [q_aI (n := 4) T.2.2 ((q_CMa T ha).2.2.2.2.1) (by decide) (by decide) i0 i1]
  have c := (q_CMa T ha).2.2.2.2.2.1
  have t := T.2.2.2.2.1 (a + 2) i
  rw [c.1, c.2] at t
  exact H _ rfl t.1 t.2
theorem w_Ma_e2 {β : Type} {f : z_H → Option β} {Q : β → Prop} {i v : Int32} (T : q_U L W h0 π h) (ha : qκ L a = 6) (w : W (a + 2)) (i0 : 0 ≤ i) (i1 : i < 4) (r1 : 0 ≤ v) (r2 : v ≤ 600) (H : ∀ h', q_U L W h0 π h' → (∀ a' k', vI h' a' k' = vI h a' k') → (∀ a' j, 0 ≤ j → vA h' a' j = if a' = a + 2 ∧ j = i then v else vA h a' j) → qk (f h') Q) : qk (z_b (uI h (a + 2) 0 i v) f) Q := by
  have c := (q_CMa T ha).2.2.2.2.2.1
  obtain ⟨h', e1, e2, e3⟩ := q_uI (n := 4) (t := 0) (i := i) (x := v) T.2.2 ((q_CMa T ha).2.2.2.2.1) (by decide) (by decide) w i0 i1 (by rw [c.1]; exact r1) (by rw [c.2]; exact r2)
  rw [e1]; exact H h' ⟨T.1, T.2.1, e2⟩ e3.1 e3.2
theorem r_Ma_e3 {β : Type} {f : Int32 → Option β} {Q : β → Prop} {i : Int32} (T : q_U L W h0 π h) (ha : qκ L a = 6) (i0 : 0 ≤ i) (i1 : i < 4) (H : ∀ x, x = vA h (a + 3) i → 0 ≤ x → x ≤ 600 → qk (f x) Q) : qk (z_b (aI h (a + 3) 0 i) f) Q := by
  rw [q_aI (n := 4) T.2.2 ((q_CMa T ha).2.2.2.2.2.2.1) (by decide) (by decide) i0 i1]
  have c := (q_CMa T ha).2.2.2.2.2.2.2.1
  have t := T.2.2.2.2.1 (a + 3) i
  rw [c.1, c.2] at t
  exact H _ rfl t.1 t.2
theorem w_Ma_e3 {β : Type} {f : z_H → Option β} {Q : β → Prop} {i v : Int32} (T : q_U L W h0 π h) (ha : qκ L a = 6) (w : W (a + 3)) (i0 : 0 ≤ i) (i1 : i < 4) (r1 : 0 ≤ v) (r2 : v ≤ 600) (H : ∀ h', q_U L W h0 π h' → (∀ a' k', vI h' a' k' = vI h a' k') → (∀ a' j, 0 ≤ j → vA h' a' j = if a' = a + 3 ∧ j = i then v else vA h a' j) → qk (f h') Q) : qk (z_b (uI h (a + 3) 0 i v) f) Q := by
  have c := (q_CMa T ha).2.2.2.2.2.2.2.1
  obtain ⟨h', e1, e2, e3⟩ := q_uI (n := 4) (t := 0) (i := i) (x := v) T.2.2 ((q_CMa T ha).2.2.2.2.2.2.1) (by decide) (by decide) w i0 i1 (by rw [c.1]; exact r1) (by rw [c.2]; exact r2)
  rw [e1]; exact H h' ⟨T.1, T.2.1, e2⟩ e3.1 e3.2
theorem r_Ma_e4 {β : Type} {f : Int32 → Option β} {Q : β → Prop} {i : Int32} (T : q_U L W h0 π h) (ha : qκ L a = 6) (i0 : 0 ≤ i) (i1 : i < 4) (H : ∀ x, x = vA h (a + 4) i → 0 ≤ x → x ≤ 600 → qk (f x) Q) : qk (z_b (aI h (a + 4) 0 i) f) Q := by
  rw [q_aI (n := 4) T.2.2 ((q_CMa T ha).2.2.2.2.2.2.2.2.1) (by decide) (by decide) i0 i1]
  have c := (q_CMa T ha).2.2.2.2.2.2.2.2.2
  have t := T.2.2.2.2.1 (a + 4) i
  rw [c.1, c.2] at t
  exact H _ rfl t.1 t.2
theorem w_Ma_e4 {β : Type} {f : z_H → Option β} {Q : β → Prop} {i v : Int32} (T : q_U L W h0 π h) (ha : qκ L a = 6) (w : W (a + 4)) (i0 : 0 ≤ i) (i1 : i < 4) (r1 : 0 ≤ v) (r2 : v ≤ 600) (H : ∀ h', q_U L W h0 π h' → (∀ a' k', vI h' a' k' = vI h a' k') → (∀ a' j, 0 ≤ j → vA h' a' j = if a' = a + 4 ∧ j = i then v else vA h a' j) → qk (f h') Q) : qk (z_b (uI h (a + 4) 0 i v) f) Q := by
  have c := (q_CMa T ha).2.2.2.2.2.2.2.2.2
  obtain ⟨h', e1, e2, e3⟩ := q_uI (n := 4) (t := 0) (i := i) (x := v) T.2.2 ((q_CMa T ha).2.2.2.2.2.2.2.2.1) (by decide) (by decide) w i0 i1 (by rw [c.1]; exact r1) (by rw [c.2]; exact r2)
  rw [e1]; exact H h' ⟨T.1, T.2.1, e2⟩ e3.1 e3.2
theorem r_Pa_o {β : Type} {f : Unit → Option β} {Q : β → Prop} (T : q_U L W h0 π h) (ha : qκ L a = 7) (H : qk (f ()) Q) : qk (z_b (gO h a 6) f) Q := by
  rw [q_gO (ci := 6) T.2.2 ha (by decide)]; exact H
theorem r_Pa_0 {β : Type} {f : Nat → Option β} {Q : β → Prop} (T : q_U L W h0 π h) (ha : qκ L a = 7) (H : qκ L (a + 1) = 3 → qk (f (a + 1)) Q) : qk (z_b (gR h a 6 0) f) Q := by
  rw [q_gR (ci := 6) T.2.2 ha (by decide) ((q_FPa T ha).1)]
  exact H ((q_CPa T ha).1)
theorem r_Pa_1 {β : Type} {f : Nat → Option β} {Q : β → Prop} (T : q_U L W h0 π h) (ha : qκ L a = 7) (H : qκ L (a + 2) = 9 → qk (f (a + 2)) Q) : qk (z_b (gR h a 6 1) f) Q := by
  rw [q_gR (ci := 6) T.2.2 ha (by decide) ((q_FPa T ha).2.1)]
  exact H ((q_CPa T ha).2.1)
theorem r_Pa_2 {β : Type} {f : Nat → Option β} {Q : β → Prop} (T : q_U L W h0 π h) (ha : qκ L a = 7) (H : qk (f (a + 3)) Q) : qk (z_b (gR h a 6 2) f) Q := by
  rw [q_gR (ci := 6) T.2.2 ha (by decide) ((q_FPa T ha).2.2.1)]
  exact H
theorem r_Pa_3 {β : Type} {f : Nat → Option β} {Q : β → Prop} (T : q_U L W h0 π h) (ha : qκ L a = 7) (H : qk (f (a + 4)) Q) : qk (z_b (gR h a 6 3) f) Q := by
  rw [q_gR (ci := 6) T.2.2 ha (by decide) ((q_FPa T ha).2.2.2)]
  exact H
theorem r_Pa_4 {β : Type} {f : Int32 → Option β} {Q : β → Prop} (T : q_U L W h0 π h) (ha : qκ L a = 7) (H : ∀ x, x = vI h a 4 → 0 ≤ x → x ≤ 4 → qk (f x) Q) : qk (z_b (gI h a 6 4) f) Q := by
  rw [q_gI (ci := 6) T.2.2 ha (by decide) rfl]
  have c := (q_CPa T ha).2.2.1
  have t := T.2.2.2.1 a 4
  rw [c.1, c.2] at t
  exact H _ rfl t.1 t.2
theorem w_Pa_4 {β : Type} {f : z_H → Option β} {Q : β → Prop} {v : Int32} (T : q_U L W h0 π h) (ha : qκ L a = 7) (w : W a) (r1 : 0 ≤ v) (r2 : v ≤ 4) (H : ∀ h', q_U L W h0 π h' → (∀ a' k', vI h' a' k' = if a' = a ∧ k' = 4 then v else vI h a' k') → (∀ a' i, vA h' a' i = vA h a' i) → qk (f h') Q) : qk (z_b (sF h a 6 4 (.int v)) f) Q := by
  have c := (q_CPa T ha).2.2.1
  obtain ⟨h', e1, e2, e3⟩ := q_sI (ci := 6) (k := 4) (v := v) T.2.2 ha (by decide) rfl w (by rw [c.1]; exact r1) (by rw [c.2]; exact r2)
  rw [e1]; exact H h' ⟨T.1, T.2.1, e2⟩ e3.1 e3.2
theorem r_Pa_5 {β : Type} {f : Nat → Option β} {Q : β → Prop} {q : Nat} (T : q_U L W h0 π h) (ha : qκ L a = 7) (hq : π a 5 = some q) (H : qk (f q) Q) : qk (z_b (gR h a 6 5) f) Q := by
  rw [q_gR (ci := 6) T.2.2 ha (by decide) hq]; exact H
theorem w_Pa_5 {β : Type} {f : z_H → Option β} {Q : β → Prop} {q : Nat} (T : q_U L W h0 π h) (ha : qκ L a = 7) (w : W a) (H : ∀ π' h', q_U L W h0 π' h' → (∀ a' k', π' a' k' = if a' = a ∧ k' = 5 then some q else π a' k') → (∀ a' k', vI h' a' k' = vI h a' k') → (∀ a' i, vA h' a' i = vA h a' i) → qk (f h') Q) : qk (z_b (sF h a 6 5 (.ref q)) f) Q := by
  obtain ⟨h', e1, e2, e3⟩ := q_sR (ci := 6) (k := 5) (q := q) T.2.2 ha (by decide) rfl w
  rw [e1]
  refine H _ h' ⟨T.1, ?_, e2⟩ (fun _ _ => rfl) e3.1 e3.2
  refine ⟨?_, ?_, ?_, ?_, ?_, ?_, ?_, ?_, ?_, ?_, ?_, ?_⟩
  · intro b hb
    have t := T.2.1.1 b hb
    simpa [q_F_Addr, q_pu, show b ≠ a from fun z => absurd (z ▸ hb) (by rw [ha]; decide)] using t
  · intro b hb
    have t := T.2.1.2.1 b hb
    simpa [q_F_Cmd, q_pu, show b ≠ a from fun z => absurd (z ▸ hb) (by rw [ha]; decide)] using t
  · intro b hb
    have t := T.2.1.2.2.1 b hb
    exact t
  · intro b hb
    have t := T.2.1.2.2.2.1 b hb
    simpa [q_F_Ed, q_pu, show b ≠ a from fun z => absurd (z ▸ hb) (by rw [ha]; decide)] using t
  · intro b hb
    have t := T.2.1.2.2.2.2.1 b hb
    simpa [q_F_It, q_pu, show b ≠ a from fun z => absurd (z ▸ hb) (by rw [ha]; decide)] using t
  · intro b hb
    have t := T.2.1.2.2.2.2.2.1 b hb
    simpa [q_F_Ma, q_pu, show b ≠ a from fun z => absurd (z ▸ hb) (by rw [ha]; decide)] using t
  · intro b hb
    have t := T.2.1.2.2.2.2.2.2.1 b hb
    simpa [q_F_Pa, q_pu] using t
  · intro b hb
    have t := T.2.1.2.2.2.2.2.2.2.1 b hb
    exact t
  · intro b hb
    have t := T.2.1.2.2.2.2.2.2.2.2.1 b hb
    exact t
  · intro b hb
    have t := T.2.1.2.2.2.2.2.2.2.2.2.1 b hb
    simpa [q_F_Prog, q_pu, show b ≠ a from fun z => absurd (z ▸ hb) (by rw [ha]; decide)] using t
  · intro b hb
    have t := T.2.1.2.2.2.2.2.2.2.2.2.2.1 b hb
    simpa [q_F_Row, q_pu, show b ≠ a from fun z => absurd (z ▸ hb) (by rw [ha]; decide)] using t
  · intro b hb
    have t := T.2.1.2.2.2.2.2.2.2.2.2.2.2 b hb
    simpa [q_F_SF, q_pu, show b ≠ a from fun z => absurd (z ▸ hb) (by rw [ha]; decide)] using t
theorem r_Pa_6 {β : Type} {f : Nat → Option β} {Q : β → Prop} {q : Nat} (T : q_U L W h0 π h) (ha : qκ L a = 7) (hq : π a 6 = some q) (H : qk (f q) Q) : qk (z_b (gR h a 6 6) f) Q := by
  rw [q_gR (ci := 6) T.2.2 ha (by decide) hq]; exact H
theorem w_Pa_6 {β : Type} {f : z_H → Option β} {Q : β → Prop} {q : Nat} (T : q_U L W h0 π h) (ha : qκ L a = 7) (w : W a) (H : ∀ π' h', q_U L W h0 π' h' → (∀ a' k', π' a' k' = if a' = a ∧ k' = 6 then some q else π a' k') → (∀ a' k', vI h' a' k' = vI h a' k') → (∀ a' i, vA h' a' i = vA h a' i) → qk (f h') Q) : qk (z_b (sF h a 6 6 (.ref q)) f) Q := by
  obtain ⟨h', e1, e2, e3⟩ := q_sR (ci := 6) (k := 6) (q := q) T.2.2 ha (by decide) rfl w
  rw [e1]
  refine H _ h' ⟨T.1, ?_, e2⟩ (fun _ _ => rfl) e3.1 e3.2
  refine ⟨?_, ?_, ?_, ?_, ?_, ?_, ?_, ?_, ?_, ?_, ?_, ?_⟩
  · intro b hb
    have t := T.2.1.1 b hb
    simpa [q_F_Addr, q_pu, show b ≠ a from fun z => absurd (z ▸ hb) (by rw [ha]; decide)] using t
  · intro b hb
    have t := T.2.1.2.1 b hb
    simpa [q_F_Cmd, q_pu, show b ≠ a from fun z => absurd (z ▸ hb) (by rw [ha]; decide)] using t
  · intro b hb
    have t := T.2.1.2.2.1 b hb
    exact t
  · intro b hb
    have t := T.2.1.2.2.2.1 b hb
    simpa [q_F_Ed, q_pu, show b ≠ a from fun z => absurd (z ▸ hb) (by rw [ha]; decide)] using t
  · intro b hb
    have t := T.2.1.2.2.2.2.1 b hb
    simpa [q_F_It, q_pu, show b ≠ a from fun z => absurd (z ▸ hb) (by rw [ha]; decide)] using t
  · intro b hb
    have t := T.2.1.2.2.2.2.2.1 b hb
    simpa [q_F_Ma, q_pu, show b ≠ a from fun z => absurd (z ▸ hb) (by rw [ha]; decide)] using t
  · intro b hb
    have t := T.2.1.2.2.2.2.2.2.1 b hb
    simpa [q_F_Pa, q_pu] using t
  · intro b hb
    have t := T.2.1.2.2.2.2.2.2.2.1 b hb
    exact t
  · intro b hb
    have t := T.2.1.2.2.2.2.2.2.2.2.1 b hb
    exact t
  · intro b hb
    have t := T.2.1.2.2.2.2.2.2.2.2.2.1 b hb
    simpa [q_F_Prog, q_pu, show b ≠ a from fun z => absurd (z ▸ hb) (by rw [ha]; decide)] using t
  · intro b hb
    have t := T.2.1.2.2.2.2.2.2.2.2.2.2.1 b hb
    simpa [q_F_Row, q_pu, show b ≠ a from fun z => absurd (z ▸ hb) (by rw [ha]; decide)] using t
  · intro b hb
    have t := T.2.1.2.2.2.2.2.2.2.2.2.2.2 b hb
    simpa [q_F_SF, q_pu, show b ≠ a from fun z => absurd (z ▸ hb) (by rw [ha]; decide)] using t
theorem r_Pa_e3 {β : Type} {f : Int32 → Option β} {Q : β → Prop} {i : Int32} (T : q_U L W h0 π h) (ha : qκ L a = 7) (i0 : 0 ≤ i) (i1 : i < 4) (H : ∀ x, x = vA h (a + 3) i → 0 ≤ x → x ≤ 39 → qk (f x) Q) : qk (z_b (aI h (a + 3) 0 i) f) Q := by
  rw [q_aI (n := 4) T.2.2 ((q_CPa T ha).2.2.2.1) (by decide) (by decide) i0 i1]
  have c := (q_CPa T ha).2.2.2.2.1
  have t := T.2.2.2.2.1 (a + 3) i
  rw [c.1, c.2] at t
  exact H _ rfl t.1 t.2
theorem w_Pa_e3 {β : Type} {f : z_H → Option β} {Q : β → Prop} {i v : Int32} (T : q_U L W h0 π h) (ha : qκ L a = 7) (w : W (a + 3)) (i0 : 0 ≤ i) (i1 : i < 4) (r1 : 0 ≤ v) (r2 : v ≤ 39) (H : ∀ h', q_U L W h0 π h' → (∀ a' k', vI h' a' k' = vI h a' k') → (∀ a' j, 0 ≤ j → vA h' a' j = if a' = a + 3 ∧ j = i then v else vA h a' j) → qk (f h') Q) : qk (z_b (uI h (a + 3) 0 i v) f) Q := by
  have c := (q_CPa T ha).2.2.2.2.1
  obtain ⟨h', e1, e2, e3⟩ := q_uI (n := 4) (t := 0) (i := i) (x := v) T.2.2 ((q_CPa T ha).2.2.2.1) (by decide) (by decide) w i0 i1 (by rw [c.1]; exact r1) (by rw [c.2]; exact r2)
  rw [e1]; exact H h' ⟨T.1, T.2.1, e2⟩ e3.1 e3.2
theorem r_Pa_e4 {β : Type} {f : Int32 → Option β} {Q : β → Prop} {i : Int32} (T : q_U L W h0 π h) (ha : qκ L a = 7) (i0 : 0 ≤ i) (i1 : i < 26) (H : ∀ x, x = vA h (a + 4) i → (-1) ≤ x → x ≤ 40 → qk (f x) Q) : qk (z_b (aI h (a + 4) 0 i) f) Q := by
  rw [q_aI (n := 26) T.2.2 ((q_CPa T ha).2.2.2.2.2.1) (by decide) (by decide) i0 i1]
  have c := (q_CPa T ha).2.2.2.2.2.2
  have t := T.2.2.2.2.1 (a + 4) i
  rw [c.1, c.2] at t
  exact H _ rfl t.1 t.2
theorem w_Pa_e4 {β : Type} {f : z_H → Option β} {Q : β → Prop} {i v : Int32} (T : q_U L W h0 π h) (ha : qκ L a = 7) (w : W (a + 4)) (i0 : 0 ≤ i) (i1 : i < 26) (r1 : (-1) ≤ v) (r2 : v ≤ 40) (H : ∀ h', q_U L W h0 π h' → (∀ a' k', vI h' a' k' = vI h a' k') → (∀ a' j, 0 ≤ j → vA h' a' j = if a' = a + 4 ∧ j = i then v else vA h a' j) → qk (f h') Q) : qk (z_b (uI h (a + 4) 0 i v) f) Q := by
  have c := (q_CPa T ha).2.2.2.2.2.2
  obtain ⟨h', e1, e2, e3⟩ := q_uI (n := 26) (t := 0) (i := i) (x := v) T.2.2 ((q_CPa T ha).2.2.2.2.2.1) (by decide) (by decide) w i0 i1 (by rw [c.1]; exact r1) (by rw [c.2]; exact r2)
  rw [e1]; exact H h' ⟨T.1, T.2.1, e2⟩ e3.1 e3.2
theorem r_Pt_o {β : Type} {f : Unit → Option β} {Q : β → Prop} (T : q_U L W h0 π h) (ha : qκ L a = 8) (H : qk (f ()) Q) : qk (z_b (gO h a 7) f) Q := by
  rw [q_gO (ci := 7) T.2.2 ha (by decide)]; exact H
theorem r_Pt_0 {β : Type} {f : Int32 → Option β} {Q : β → Prop} (T : q_U L W h0 π h) (ha : qκ L a = 8) (H : ∀ x, x = vI h a 0 → qk (f x) Q) : qk (z_b (gI h a 7 0) f) Q := by
  rw [q_gI (ci := 7) T.2.2 ha (by decide) rfl]
  exact H _ rfl
theorem w_Pt_0 {β : Type} {f : z_H → Option β} {Q : β → Prop} {v : Int32} (T : q_U L W h0 π h) (ha : qκ L a = 8) (w : W a) (H : ∀ h', q_U L W h0 π h' → (∀ a' k', vI h' a' k' = if a' = a ∧ k' = 0 then v else vI h a' k') → (∀ a' i, vA h' a' i = vA h a' i) → qk (f h') Q) : qk (z_b (sF h a 7 0 (.int v)) f) Q := by
  have c := (q_CPt T ha).1
  obtain ⟨h', e1, e2, e3⟩ := q_sI (ci := 7) (k := 0) (v := v) T.2.2 ha (by decide) rfl w (by rw [c.1]; exact q_min v) (by rw [c.2]; exact q_max v)
  rw [e1]; exact H h' ⟨T.1, T.2.1, e2⟩ e3.1 e3.2
theorem r_Pt_1 {β : Type} {f : Int32 → Option β} {Q : β → Prop} (T : q_U L W h0 π h) (ha : qκ L a = 8) (H : ∀ x, x = vI h a 1 → qk (f x) Q) : qk (z_b (gI h a 7 1) f) Q := by
  rw [q_gI (ci := 7) T.2.2 ha (by decide) rfl]
  exact H _ rfl
theorem w_Pt_1 {β : Type} {f : z_H → Option β} {Q : β → Prop} {v : Int32} (T : q_U L W h0 π h) (ha : qκ L a = 8) (w : W a) (H : ∀ h', q_U L W h0 π h' → (∀ a' k', vI h' a' k' = if a' = a ∧ k' = 1 then v else vI h a' k') → (∀ a' i, vA h' a' i = vA h a' i) → qk (f h') Q) : qk (z_b (sF h a 7 1 (.int v)) f) Q := by
  have c := (q_CPt T ha).2.1
  obtain ⟨h', e1, e2, e3⟩ := q_sI (ci := 7) (k := 1) (v := v) T.2.2 ha (by decide) rfl w (by rw [c.1]; exact q_min v) (by rw [c.2]; exact q_max v)
  rw [e1]; exact H h' ⟨T.1, T.2.1, e2⟩ e3.1 e3.2
theorem r_Pt_2 {β : Type} {f : Int32 → Option β} {Q : β → Prop} (T : q_U L W h0 π h) (ha : qκ L a = 8) (H : ∀ x, x = vI h a 2 → 0 ≤ x → x ≤ 240 → qk (f x) Q) : qk (z_b (gI h a 7 2) f) Q := by
  rw [q_gI (ci := 7) T.2.2 ha (by decide) rfl]
  have c := (q_CPt T ha).2.2.1
  have t := T.2.2.2.1 a 2
  rw [c.1, c.2] at t
  exact H _ rfl t.1 t.2
theorem w_Pt_2 {β : Type} {f : z_H → Option β} {Q : β → Prop} {v : Int32} (T : q_U L W h0 π h) (ha : qκ L a = 8) (w : W a) (r1 : 0 ≤ v) (r2 : v ≤ 240) (H : ∀ h', q_U L W h0 π h' → (∀ a' k', vI h' a' k' = if a' = a ∧ k' = 2 then v else vI h a' k') → (∀ a' i, vA h' a' i = vA h a' i) → qk (f h') Q) : qk (z_b (sF h a 7 2 (.int v)) f) Q := by
  have c := (q_CPt T ha).2.2.1
  obtain ⟨h', e1, e2, e3⟩ := q_sI (ci := 7) (k := 2) (v := v) T.2.2 ha (by decide) rfl w (by rw [c.1]; exact r1) (by rw [c.2]; exact r2)
  rw [e1]; exact H h' ⟨T.1, T.2.1, e2⟩ e3.1 e3.2
theorem r_Pt_3 {β : Type} {f : Int32 → Option β} {Q : β → Prop} (T : q_U L W h0 π h) (ha : qκ L a = 8) (H : ∀ x, x = vI h a 3 → 0 ≤ x → x ≤ 240 → qk (f x) Q) : qk (z_b (gI h a 7 3) f) Q := by
  rw [q_gI (ci := 7) T.2.2 ha (by decide) rfl]
  have c := (q_CPt T ha).2.2.2.1
  have t := T.2.2.2.1 a 3
  rw [c.1, c.2] at t
  exact H _ rfl t.1 t.2
theorem w_Pt_3 {β : Type} {f : z_H → Option β} {Q : β → Prop} {v : Int32} (T : q_U L W h0 π h) (ha : qκ L a = 8) (w : W a) (r1 : 0 ≤ v) (r2 : v ≤ 240) (H : ∀ h', q_U L W h0 π h' → (∀ a' k', vI h' a' k' = if a' = a ∧ k' = 3 then v else vI h a' k') → (∀ a' i, vA h' a' i = vA h a' i) → qk (f h') Q) : qk (z_b (sF h a 7 3 (.int v)) f) Q := by
  have c := (q_CPt T ha).2.2.2.1
  obtain ⟨h', e1, e2, e3⟩ := q_sI (ci := 7) (k := 3) (v := v) T.2.2 ha (by decide) rfl w (by rw [c.1]; exact r1) (by rw [c.2]; exact r2)
  rw [e1]; exact H h' ⟨T.1, T.2.1, e2⟩ e3.1 e3.2
theorem r_Pt_4 {β : Type} {f : Int32 → Option β} {Q : β → Prop} (T : q_U L W h0 π h) (ha : qκ L a = 8) (H : ∀ x, x = vI h a 4 → (-1) ≤ x → x ≤ 240 → qk (f x) Q) : qk (z_b (gI h a 7 4) f) Q := by
  rw [q_gI (ci := 7) T.2.2 ha (by decide) rfl]
  have c := (q_CPt T ha).2.2.2.2.1
  have t := T.2.2.2.1 a 4
  rw [c.1, c.2] at t
  exact H _ rfl t.1 t.2
theorem w_Pt_4 {β : Type} {f : z_H → Option β} {Q : β → Prop} {v : Int32} (T : q_U L W h0 π h) (ha : qκ L a = 8) (w : W a) (r1 : (-1) ≤ v) (r2 : v ≤ 240) (H : ∀ h', q_U L W h0 π h' → (∀ a' k', vI h' a' k' = if a' = a ∧ k' = 4 then v else vI h a' k') → (∀ a' i, vA h' a' i = vA h a' i) → qk (f h') Q) : qk (z_b (sF h a 7 4 (.int v)) f) Q := by
  have c := (q_CPt T ha).2.2.2.2.1
  obtain ⟨h', e1, e2, e3⟩ := q_sI (ci := 7) (k := 4) (v := v) T.2.2 ha (by decide) rfl w (by rw [c.1]; exact r1) (by rw [c.2]; exact r2)
  rw [e1]; exact H h' ⟨T.1, T.2.1, e2⟩ e3.1 e3.2
theorem r_Pt_5 {β : Type} {f : Int32 → Option β} {Q : β → Prop} (T : q_U L W h0 π h) (ha : qκ L a = 8) (H : ∀ x, x = vI h a 5 → (-1) ≤ x → x ≤ 240 → qk (f x) Q) : qk (z_b (gI h a 7 5) f) Q := by
  rw [q_gI (ci := 7) T.2.2 ha (by decide) rfl]
  have c := (q_CPt T ha).2.2.2.2.2.1
  have t := T.2.2.2.1 a 5
  rw [c.1, c.2] at t
  exact H _ rfl t.1 t.2
theorem w_Pt_5 {β : Type} {f : z_H → Option β} {Q : β → Prop} {v : Int32} (T : q_U L W h0 π h) (ha : qκ L a = 8) (w : W a) (r1 : (-1) ≤ v) (r2 : v ≤ 240) (H : ∀ h', q_U L W h0 π h' → (∀ a' k', vI h' a' k' = if a' = a ∧ k' = 5 then v else vI h a' k') → (∀ a' i, vA h' a' i = vA h a' i) → qk (f h') Q) : qk (z_b (sF h a 7 5 (.int v)) f) Q := by
  have c := (q_CPt T ha).2.2.2.2.2.1
  obtain ⟨h', e1, e2, e3⟩ := q_sI (ci := 7) (k := 5) (v := v) T.2.2 ha (by decide) rfl w (by rw [c.1]; exact r1) (by rw [c.2]; exact r2)
  rw [e1]; exact H h' ⟨T.1, T.2.1, e2⟩ e3.1 e3.2
theorem r_Pt_6 {β : Type} {f : Int32 → Option β} {Q : β → Prop} (T : q_U L W h0 π h) (ha : qκ L a = 8) (H : ∀ x, x = vI h a 6 → 0 ≤ x → x ≤ 3 → qk (f x) Q) : qk (z_b (gI h a 7 6) f) Q := by
  rw [q_gI (ci := 7) T.2.2 ha (by decide) rfl]
  have c := (q_CPt T ha).2.2.2.2.2.2
  have t := T.2.2.2.1 a 6
  rw [c.1, c.2] at t
  exact H _ rfl t.1 t.2
theorem w_Pt_6 {β : Type} {f : z_H → Option β} {Q : β → Prop} {v : Int32} (T : q_U L W h0 π h) (ha : qκ L a = 8) (w : W a) (r1 : 0 ≤ v) (r2 : v ≤ 3) (H : ∀ h', q_U L W h0 π h' → (∀ a' k', vI h' a' k' = if a' = a ∧ k' = 6 then v else vI h a' k') → (∀ a' i, vA h' a' i = vA h a' i) → qk (f h') Q) : qk (z_b (sF h a 7 6 (.int v)) f) Q := by
  have c := (q_CPt T ha).2.2.2.2.2.2
  obtain ⟨h', e1, e2, e3⟩ := q_sI (ci := 7) (k := 6) (v := v) T.2.2 ha (by decide) rfl w (by rw [c.1]; exact r1) (by rw [c.2]; exact r2)
  rw [e1]; exact H h' ⟨T.1, T.2.1, e2⟩ e3.1 e3.2
theorem r_Pr_o {β : Type} {f : Unit → Option β} {Q : β → Prop} (T : q_U L W h0 π h) (ha : qκ L a = 9) (H : qk (f ()) Q) : qk (z_b (gO h a 8) f) Q := by
  rw [q_gO (ci := 8) T.2.2 ha (by decide)]; exact H
theorem r_Pr_0 {β : Type} {f : Nat → Option β} {Q : β → Prop} {q : Nat} (T : q_U L W h0 π h) (ha : qκ L a = 9) (hq : π a 0 = some q) (H : qk (f q) Q) : qk (z_b (gR h a 8 0) f) Q := by
  rw [q_gR (ci := 8) T.2.2 ha (by decide) hq]; exact H
theorem w_Pr_0 {β : Type} {f : z_H → Option β} {Q : β → Prop} {q : Nat} (T : q_U L W h0 π h) (ha : qκ L a = 9) (w : W a) (H : ∀ π' h', q_U L W h0 π' h' → (∀ a' k', π' a' k' = if a' = a ∧ k' = 0 then some q else π a' k') → (∀ a' k', vI h' a' k' = vI h a' k') → (∀ a' i, vA h' a' i = vA h a' i) → qk (f h') Q) : qk (z_b (sF h a 8 0 (.ref q)) f) Q := by
  obtain ⟨h', e1, e2, e3⟩ := q_sR (ci := 8) (k := 0) (q := q) T.2.2 ha (by decide) rfl w
  rw [e1]
  refine H _ h' ⟨T.1, ?_, e2⟩ (fun _ _ => rfl) e3.1 e3.2
  refine ⟨?_, ?_, ?_, ?_, ?_, ?_, ?_, ?_, ?_, ?_, ?_, ?_⟩
  · intro b hb
    have t := T.2.1.1 b hb
    simpa [q_F_Addr, q_pu, show b ≠ a from fun z => absurd (z ▸ hb) (by rw [ha]; decide)] using t
  · intro b hb
    have t := T.2.1.2.1 b hb
    simpa [q_F_Cmd, q_pu, show b ≠ a from fun z => absurd (z ▸ hb) (by rw [ha]; decide)] using t
  · intro b hb
    have t := T.2.1.2.2.1 b hb
    exact t
  · intro b hb
    have t := T.2.1.2.2.2.1 b hb
    simpa [q_F_Ed, q_pu, show b ≠ a from fun z => absurd (z ▸ hb) (by rw [ha]; decide)] using t
  · intro b hb
    have t := T.2.1.2.2.2.2.1 b hb
    simpa [q_F_It, q_pu, show b ≠ a from fun z => absurd (z ▸ hb) (by rw [ha]; decide)] using t
  · intro b hb
    have t := T.2.1.2.2.2.2.2.1 b hb
    simpa [q_F_Ma, q_pu, show b ≠ a from fun z => absurd (z ▸ hb) (by rw [ha]; decide)] using t
  · intro b hb
    have t := T.2.1.2.2.2.2.2.2.1 b hb
    simpa [q_F_Pa, q_pu, show b ≠ a from fun z => absurd (z ▸ hb) (by rw [ha]; decide)] using t
  · intro b hb
    have t := T.2.1.2.2.2.2.2.2.2.1 b hb
    exact t
  · intro b hb
    have t := T.2.1.2.2.2.2.2.2.2.2.1 b hb
    exact t
  · intro b hb
    have t := T.2.1.2.2.2.2.2.2.2.2.2.1 b hb
    simpa [q_F_Prog, q_pu, show b ≠ a from fun z => absurd (z ▸ hb) (by rw [ha]; decide)] using t
  · intro b hb
    have t := T.2.1.2.2.2.2.2.2.2.2.2.2.1 b hb
    simpa [q_F_Row, q_pu, show b ≠ a from fun z => absurd (z ▸ hb) (by rw [ha]; decide)] using t
  · intro b hb
    have t := T.2.1.2.2.2.2.2.2.2.2.2.2.2 b hb
    simpa [q_F_SF, q_pu, show b ≠ a from fun z => absurd (z ▸ hb) (by rw [ha]; decide)] using t
theorem r_Pr_1 {β : Type} {f : Nat → Option β} {Q : β → Prop} {q : Nat} (T : q_U L W h0 π h) (ha : qκ L a = 9) (hq : π a 1 = some q) (H : qk (f q) Q) : qk (z_b (gR h a 8 1) f) Q := by
  rw [q_gR (ci := 8) T.2.2 ha (by decide) hq]; exact H
theorem w_Pr_1 {β : Type} {f : z_H → Option β} {Q : β → Prop} {q : Nat} (T : q_U L W h0 π h) (ha : qκ L a = 9) (w : W a) (H : ∀ π' h', q_U L W h0 π' h' → (∀ a' k', π' a' k' = if a' = a ∧ k' = 1 then some q else π a' k') → (∀ a' k', vI h' a' k' = vI h a' k') → (∀ a' i, vA h' a' i = vA h a' i) → qk (f h') Q) : qk (z_b (sF h a 8 1 (.ref q)) f) Q := by
  obtain ⟨h', e1, e2, e3⟩ := q_sR (ci := 8) (k := 1) (q := q) T.2.2 ha (by decide) rfl w
  rw [e1]
  refine H _ h' ⟨T.1, ?_, e2⟩ (fun _ _ => rfl) e3.1 e3.2
  refine ⟨?_, ?_, ?_, ?_, ?_, ?_, ?_, ?_, ?_, ?_, ?_, ?_⟩
  · intro b hb
    have t := T.2.1.1 b hb
    simpa [q_F_Addr, q_pu, show b ≠ a from fun z => absurd (z ▸ hb) (by rw [ha]; decide)] using t
  · intro b hb
    have t := T.2.1.2.1 b hb
    simpa [q_F_Cmd, q_pu, show b ≠ a from fun z => absurd (z ▸ hb) (by rw [ha]; decide)] using t
  · intro b hb
    have t := T.2.1.2.2.1 b hb
    exact t
  · intro b hb
    have t := T.2.1.2.2.2.1 b hb
    simpa [q_F_Ed, q_pu, show b ≠ a from fun z => absurd (z ▸ hb) (by rw [ha]; decide)] using t
  · intro b hb
    have t := T.2.1.2.2.2.2.1 b hb
    simpa [q_F_It, q_pu, show b ≠ a from fun z => absurd (z ▸ hb) (by rw [ha]; decide)] using t
  · intro b hb
    have t := T.2.1.2.2.2.2.2.1 b hb
    simpa [q_F_Ma, q_pu, show b ≠ a from fun z => absurd (z ▸ hb) (by rw [ha]; decide)] using t
  · intro b hb
    have t := T.2.1.2.2.2.2.2.2.1 b hb
    simpa [q_F_Pa, q_pu, show b ≠ a from fun z => absurd (z ▸ hb) (by rw [ha]; decide)] using t
  · intro b hb
    have t := T.2.1.2.2.2.2.2.2.2.1 b hb
    exact t
  · intro b hb
    have t := T.2.1.2.2.2.2.2.2.2.2.1 b hb
    exact t
  · intro b hb
    have t := T.2.1.2.2.2.2.2.2.2.2.2.1 b hb
    simpa [q_F_Prog, q_pu, show b ≠ a from fun z => absurd (z ▸ hb) (by rw [ha]; decide)] using t
  · intro b hb
    have t := T.2.1.2.2.2.2.2.2.2.2.2.2.1 b hb
    simpa [q_F_Row, q_pu, show b ≠ a from fun z => absurd (z ▸ hb) (by rw [ha]; decide)] using t
  · intro b hb
    have t := T.2.1.2.2.2.2.2.2.2.2.2.2.2 b hb
    simpa [q_F_SF, q_pu, show b ≠ a from fun z => absurd (z ▸ hb) (by rw [ha]; decide)] using t
theorem r_Pr_2 {β : Type} {f : Nat → Option β} {Q : β → Prop} {q : Nat} (T : q_U L W h0 π h) (ha : qκ L a = 9) (hq : π a 2 = some q) (H : qk (f q) Q) : qk (z_b (gR h a 8 2) f) Q := by
  rw [q_gR (ci := 8) T.2.2 ha (by decide) hq]; exact H
theorem w_Pr_2 {β : Type} {f : z_H → Option β} {Q : β → Prop} {q : Nat} (T : q_U L W h0 π h) (ha : qκ L a = 9) (w : W a) (H : ∀ π' h', q_U L W h0 π' h' → (∀ a' k', π' a' k' = if a' = a ∧ k' = 2 then some q else π a' k') → (∀ a' k', vI h' a' k' = vI h a' k') → (∀ a' i, vA h' a' i = vA h a' i) → qk (f h') Q) : qk (z_b (sF h a 8 2 (.ref q)) f) Q := by
  obtain ⟨h', e1, e2, e3⟩ := q_sR (ci := 8) (k := 2) (q := q) T.2.2 ha (by decide) rfl w
  rw [e1]
  refine H _ h' ⟨T.1, ?_, e2⟩ (fun _ _ => rfl) e3.1 e3.2
  refine ⟨?_, ?_, ?_, ?_, ?_, ?_, ?_, ?_, ?_, ?_, ?_, ?_⟩
  · intro b hb
    have t := T.2.1.1 b hb
    simpa [q_F_Addr, q_pu, show b ≠ a from fun z => absurd (z ▸ hb) (by rw [ha]; decide)] using t
  · intro b hb
    have t := T.2.1.2.1 b hb
    simpa [q_F_Cmd, q_pu, show b ≠ a from fun z => absurd (z ▸ hb) (by rw [ha]; decide)] using t
  · intro b hb
    have t := T.2.1.2.2.1 b hb
    exact t
  · intro b hb
    have t := T.2.1.2.2.2.1 b hb
    simpa [q_F_Ed, q_pu, show b ≠ a from fun z => absurd (z ▸ hb) (by rw [ha]; decide)] using t
  · intro b hb
    have t := T.2.1.2.2.2.2.1 b hb
    simpa [q_F_It, q_pu, show b ≠ a from fun z => absurd (z ▸ hb) (by rw [ha]; decide)] using t
  · intro b hb
    have t := T.2.1.2.2.2.2.2.1 b hb
    simpa [q_F_Ma, q_pu, show b ≠ a from fun z => absurd (z ▸ hb) (by rw [ha]; decide)] using t
  · intro b hb
    have t := T.2.1.2.2.2.2.2.2.1 b hb
    simpa [q_F_Pa, q_pu, show b ≠ a from fun z => absurd (z ▸ hb) (by rw [ha]; decide)] using t
  · intro b hb
    have t := T.2.1.2.2.2.2.2.2.2.1 b hb
    exact t
  · intro b hb
    have t := T.2.1.2.2.2.2.2.2.2.2.1 b hb
    exact t
  · intro b hb
    have t := T.2.1.2.2.2.2.2.2.2.2.2.1 b hb
    simpa [q_F_Prog, q_pu, show b ≠ a from fun z => absurd (z ▸ hb) (by rw [ha]; decide)] using t
  · intro b hb
    have t := T.2.1.2.2.2.2.2.2.2.2.2.2.1 b hb
    simpa [q_F_Row, q_pu, show b ≠ a from fun z => absurd (z ▸ hb) (by rw [ha]; decide)] using t
  · intro b hb
    have t := T.2.1.2.2.2.2.2.2.2.2.2.2.2 b hb
    simpa [q_F_SF, q_pu, show b ≠ a from fun z => absurd (z ▸ hb) (by rw [ha]; decide)] using t
theorem r_Pr_3 {β : Type} {f : Int32 → Option β} {Q : β → Prop} (T : q_U L W h0 π h) (ha : qκ L a = 9) (H : ∀ x, x = vI h a 3 → qk (f x) Q) : qk (z_b (gI h a 8 3) f) Q := by
  rw [q_gI (ci := 8) T.2.2 ha (by decide) rfl]
  exact H _ rfl
theorem w_Pr_3 {β : Type} {f : z_H → Option β} {Q : β → Prop} {v : Int32} (T : q_U L W h0 π h) (ha : qκ L a = 9) (w : W a) (H : ∀ h', q_U L W h0 π h' → (∀ a' k', vI h' a' k' = if a' = a ∧ k' = 3 then v else vI h a' k') → (∀ a' i, vA h' a' i = vA h a' i) → qk (f h') Q) : qk (z_b (sF h a 8 3 (.int v)) f) Q := by
  have c := (q_CPr T ha).1
  obtain ⟨h', e1, e2, e3⟩ := q_sI (ci := 8) (k := 3) (v := v) T.2.2 ha (by decide) rfl w (by rw [c.1]; exact q_min v) (by rw [c.2]; exact q_max v)
  rw [e1]; exact H h' ⟨T.1, T.2.1, e2⟩ e3.1 e3.2
theorem r_Pr_4 {β : Type} {f : Int32 → Option β} {Q : β → Prop} (T : q_U L W h0 π h) (ha : qκ L a = 9) (H : ∀ x, x = vI h a 4 → 0 ≤ x → x ≤ 2 → qk (f x) Q) : qk (z_b (gI h a 8 4) f) Q := by
  rw [q_gI (ci := 8) T.2.2 ha (by decide) rfl]
  have c := (q_CPr T ha).2.1
  have t := T.2.2.2.1 a 4
  rw [c.1, c.2] at t
  exact H _ rfl t.1 t.2
theorem w_Pr_4 {β : Type} {f : z_H → Option β} {Q : β → Prop} {v : Int32} (T : q_U L W h0 π h) (ha : qκ L a = 9) (w : W a) (r1 : 0 ≤ v) (r2 : v ≤ 2) (H : ∀ h', q_U L W h0 π h' → (∀ a' k', vI h' a' k' = if a' = a ∧ k' = 4 then v else vI h a' k') → (∀ a' i, vA h' a' i = vA h a' i) → qk (f h') Q) : qk (z_b (sF h a 8 4 (.int v)) f) Q := by
  have c := (q_CPr T ha).2.1
  obtain ⟨h', e1, e2, e3⟩ := q_sI (ci := 8) (k := 4) (v := v) T.2.2 ha (by decide) rfl w (by rw [c.1]; exact r1) (by rw [c.2]; exact r2)
  rw [e1]; exact H h' ⟨T.1, T.2.1, e2⟩ e3.1 e3.2
theorem r_Pr_5 {β : Type} {f : Int32 → Option β} {Q : β → Prop} (T : q_U L W h0 π h) (ha : qκ L a = 9) (H : ∀ x, x = vI h a 5 → qk (f x) Q) : qk (z_b (gI h a 8 5) f) Q := by
  rw [q_gI (ci := 8) T.2.2 ha (by decide) rfl]
  exact H _ rfl
theorem w_Pr_5 {β : Type} {f : z_H → Option β} {Q : β → Prop} {v : Int32} (T : q_U L W h0 π h) (ha : qκ L a = 9) (w : W a) (H : ∀ h', q_U L W h0 π h' → (∀ a' k', vI h' a' k' = if a' = a ∧ k' = 5 then v else vI h a' k') → (∀ a' i, vA h' a' i = vA h a' i) → qk (f h') Q) : qk (z_b (sF h a 8 5 (.int v)) f) Q := by
  have c := (q_CPr T ha).2.2.1
  obtain ⟨h', e1, e2, e3⟩ := q_sI (ci := 8) (k := 5) (v := v) T.2.2 ha (by decide) rfl w (by rw [c.1]; exact q_min v) (by rw [c.2]; exact q_max v)
  rw [e1]; exact H h' ⟨T.1, T.2.1, e2⟩ e3.1 e3.2
theorem r_Pr_6 {β : Type} {f : Int32 → Option β} {Q : β → Prop} (T : q_U L W h0 π h) (ha : qκ L a = 9) (H : ∀ x, x = vI h a 6 → qk (f x) Q) : qk (z_b (gI h a 8 6) f) Q := by
  rw [q_gI (ci := 8) T.2.2 ha (by decide) rfl]
  exact H _ rfl
theorem w_Pr_6 {β : Type} {f : z_H → Option β} {Q : β → Prop} {v : Int32} (T : q_U L W h0 π h) (ha : qκ L a = 9) (w : W a) (H : ∀ h', q_U L W h0 π h' → (∀ a' k', vI h' a' k' = if a' = a ∧ k' = 6 then v else vI h a' k') → (∀ a' i, vA h' a' i = vA h a' i) → qk (f h') Q) : qk (z_b (sF h a 8 6 (.int v)) f) Q := by
  have c := (q_CPr T ha).2.2.2
  obtain ⟨h', e1, e2, e3⟩ := q_sI (ci := 8) (k := 6) (v := v) T.2.2 ha (by decide) rfl w (by rw [c.1]; exact q_min v) (by rw [c.2]; exact q_max v)
  rw [e1]; exact H h' ⟨T.1, T.2.1, e2⟩ e3.1 e3.2
theorem r_Prog_o {β : Type} {f : Unit → Option β} {Q : β → Prop} (T : q_U L W h0 π h) (ha : qκ L a = 10) (H : qk (f ()) Q) : qk (z_b (gO h a 9) f) Q := by
  rw [q_gO (ci := 9) T.2.2 ha (by decide)]; exact H
theorem r_Prog_0 {β : Type} {f : Nat → Option β} {Q : β → Prop} (T : q_U L W h0 π h) (ha : qκ L a = 10) (H : qκ L (a + 1) = 11 → qhi L (a + 1) 1 = 240 → qk (f (a + 1)) Q) : qk (z_b (gR h a 9 0) f) Q := by
  rw [q_gR (ci := 9) T.2.2 ha (by decide) ((q_FProg T ha).1)]
  exact H ((q_CProg T ha).1) ((q_CProg T ha).2.1)
theorem r_Prog_1 {β : Type} {f : Nat → Option β} {Q : β → Prop} (T : q_U L W h0 π h) (ha : qκ L a = 10) (H : qκ L (a + 3) = 5 → qk (f (a + 3)) Q) : qk (z_b (gR h a 9 1) f) Q := by
  rw [q_gR (ci := 9) T.2.2 ha (by decide) ((q_FProg T ha).2.1)]
  exact H ((q_CProg T ha).2.2.1)
theorem r_Prog_2 {β : Type} {f : Nat → Option β} {Q : β → Prop} (T : q_U L W h0 π h) (ha : qκ L a = 10) (H : qk (f (a + 8)) Q) : qk (z_b (gR h a 9 2) f) Q := by
  rw [q_gR (ci := 9) T.2.2 ha (by decide) ((q_FProg T ha).2.2)]
  exact H
theorem r_Prog_3 {β : Type} {f : Int32 → Option β} {Q : β → Prop} (T : q_U L W h0 π h) (ha : qκ L a = 10) (H : ∀ x, x = vI h a 3 → 0 ≤ x → x ≤ 40 → qk (f x) Q) : qk (z_b (gI h a 9 3) f) Q := by
  rw [q_gI (ci := 9) T.2.2 ha (by decide) rfl]
  have c := (q_CProg T ha).2.2.2.1
  have t := T.2.2.2.1 a 3
  rw [c.1, c.2] at t
  exact H _ rfl t.1 t.2
theorem w_Prog_3 {β : Type} {f : z_H → Option β} {Q : β → Prop} {v : Int32} (T : q_U L W h0 π h) (ha : qκ L a = 10) (w : W a) (r1 : 0 ≤ v) (r2 : v ≤ 40) (H : ∀ h', q_U L W h0 π h' → (∀ a' k', vI h' a' k' = if a' = a ∧ k' = 3 then v else vI h a' k') → (∀ a' i, vA h' a' i = vA h a' i) → qk (f h') Q) : qk (z_b (sF h a 9 3 (.int v)) f) Q := by
  have c := (q_CProg T ha).2.2.2.1
  obtain ⟨h', e1, e2, e3⟩ := q_sI (ci := 9) (k := 3) (v := v) T.2.2 ha (by decide) rfl w (by rw [c.1]; exact r1) (by rw [c.2]; exact r2)
  rw [e1]; exact H h' ⟨T.1, T.2.1, e2⟩ e3.1 e3.2
theorem r_Prog_e8 {β : Type} {f : Nat → Option β} {Q : β → Prop} {i : Int32} (T : q_U L W h0 π h) (ha : qκ L a = 10) (i0 : 0 ≤ i) (i1 : i < 40) (H : qκ L (a + (9 + 6 * i.toNatClampNeg)) = 2 → i.toNatClampNeg < 40 → qk (f (a + (9 + 6 * i.toNatClampNeg))) Q) : qk (z_b (aR h (a + 8) 5 i) f) Q := by
  have t := (q_CProg T ha).2.2.2.2.2 i i0 i1
  rw [q_aR (n := 40) T.2.2 ((q_CProg T ha).2.2.2.2.1) (by decide) (by decide) i0 i1 t.1]
  have hin := q_in (n := 40) (by decide) i0 i1
  exact H t.2 (Nat.not_le.mp fun z => hin (Or.inr z))
theorem r_Row_o {β : Type} {f : Unit → Option β} {Q : β → Prop} (T : q_U L W h0 π h) (ha : qκ L a = 11) (H : qk (f ()) Q) : qk (z_b (gO h a 10) f) Q := by
  rw [q_gO (ci := 10) T.2.2 ha (by decide)]; exact H
theorem r_Row_0 {β : Type} {f : Nat → Option β} {Q : β → Prop} (T : q_U L W h0 π h) (ha : qκ L a = 11) (H : qk (f (a + 1)) Q) : qk (z_b (gR h a 10 0) f) Q := by
  rw [q_gR (ci := 10) T.2.2 ha (by decide) ((q_FRow T ha))]
  exact H
theorem r_Row_1 {β : Type} {f : Int32 → Option β} {Q : β → Prop} (T : q_U L W h0 π h) (ha : qκ L a = 11) (H : ∀ x, x = vI h a 1 → 0 ≤ x → x ≤ qhi L a 1 → qhi L a 1 ≤ 600 → qk (f x) Q) : qk (z_b (gI h a 10 1) f) Q := by
  rw [q_gI (ci := 10) T.2.2 ha (by decide) rfl]
  obtain ⟨n, c1, c2, c3, c4, c5, c6⟩ := q_CRow T ha
  have t := T.2.2.2.1 a 1
  exact H _ rfl (c3 ▸ t.1) t.2 (by rw [c4]; exact q_le600 c2)
theorem w_Row_1 {β : Type} {f : z_H → Option β} {Q : β → Prop} {v : Int32} (T : q_U L W h0 π h) (ha : qκ L a = 11) (w : W a) (r1 : 0 ≤ v) (r2 : v ≤ qhi L a 1) (H : ∀ h', q_U L W h0 π h' → (∀ a' k', vI h' a' k' = if a' = a ∧ k' = 1 then v else vI h a' k') → (∀ a' i, vA h' a' i = vA h a' i) → qk (f h') Q) : qk (z_b (sF h a 10 1 (.int v)) f) Q := by
  obtain ⟨n, c1, c2, c3, c4, c5, c6⟩ := q_CRow T ha
  obtain ⟨h', e1, e2, e3⟩ := q_sI (ci := 10) (k := 1) (v := v) T.2.2 ha (by decide) rfl w (by rw [c3]; exact r1) r2
  rw [e1]; exact H h' ⟨T.1, T.2.1, e2⟩ e3.1 e3.2
theorem r_SF_o {β : Type} {f : Unit → Option β} {Q : β → Prop} (T : q_U L W h0 π h) (ha : qκ L a = 12) (H : qk (f ()) Q) : qk (z_b (gO h a 11) f) Q := by
  rw [q_gO (ci := 11) T.2.2 ha (by decide)]; exact H
theorem r_SF_0 {β : Type} {f : Nat → Option β} {Q : β → Prop} (T : q_U L W h0 π h) (ha : qκ L a = 12) (H : qκ L (a + 1) = 11 → qhi L (a + 1) 1 = 240 → qk (f (a + 1)) Q) : qk (z_b (gR h a 11 0) f) Q := by
  rw [q_gR (ci := 11) T.2.2 ha (by decide) ((q_FSF T ha).1)]
  exact H ((q_CSF T ha).1) ((q_CSF T ha).2.1)
theorem r_SF_1 {β : Type} {f : Nat → Option β} {Q : β → Prop} (T : q_U L W h0 π h) (ha : qκ L a = 12) (H : qk (f (a + 3)) Q) : qk (z_b (gR h a 11 1) f) Q := by
  rw [q_gR (ci := 11) T.2.2 ha (by decide) ((q_FSF T ha).2.1)]
  exact H
theorem r_SF_2 {β : Type} {f : Nat → Option β} {Q : β → Prop} (T : q_U L W h0 π h) (ha : qκ L a = 12) (H : qκ L (a + 4) = 7 → qk (f (a + 4)) Q) : qk (z_b (gR h a 11 2) f) Q := by
  rw [q_gR (ci := 11) T.2.2 ha (by decide) ((q_FSF T ha).2.2.1)]
  exact H ((q_CSF T ha).2.2.1)
theorem r_SF_3 {β : Type} {f : Nat → Option β} {Q : β → Prop} (T : q_U L W h0 π h) (ha : qκ L a = 12) (H : qκ L (a + 9) = 4 → qk (f (a + 9)) Q) : qk (z_b (gR h a 11 3) f) Q := by
  rw [q_gR (ci := 11) T.2.2 ha (by decide) ((q_FSF T ha).2.2.2.1)]
  exact H ((q_CSF T ha).2.2.2.1)
theorem r_SF_4 {β : Type} {f : Nat → Option β} {Q : β → Prop} (T : q_U L W h0 π h) (ha : qκ L a = 12) (H : qκ L (a + 25) = 6 → qk (f (a + 25)) Q) : qk (z_b (gR h a 11 4) f) Q := by
  rw [q_gR (ci := 11) T.2.2 ha (by decide) ((q_FSF T ha).2.2.2.2)]
  exact H ((q_CSF T ha).2.2.2.2.1)
theorem r_SF_5 {β : Type} {f : Int32 → Option β} {Q : β → Prop} (T : q_U L W h0 π h) (ha : qκ L a = 12) (H : ∀ x, x = vI h a 5 → 0 ≤ x → x ≤ 12 → qk (f x) Q) : qk (z_b (gI h a 11 5) f) Q := by
  rw [q_gI (ci := 11) T.2.2 ha (by decide) rfl]
  have c := (q_CSF T ha).2.2.2.2.2.1
  have t := T.2.2.2.1 a 5
  rw [c.1, c.2] at t
  exact H _ rfl t.1 t.2
theorem w_SF_5 {β : Type} {f : z_H → Option β} {Q : β → Prop} {v : Int32} (T : q_U L W h0 π h) (ha : qκ L a = 12) (w : W a) (r1 : 0 ≤ v) (r2 : v ≤ 12) (H : ∀ h', q_U L W h0 π h' → (∀ a' k', vI h' a' k' = if a' = a ∧ k' = 5 then v else vI h a' k') → (∀ a' i, vA h' a' i = vA h a' i) → qk (f h') Q) : qk (z_b (sF h a 11 5 (.int v)) f) Q := by
  have c := (q_CSF T ha).2.2.2.2.2.1
  obtain ⟨h', e1, e2, e3⟩ := q_sI (ci := 11) (k := 5) (v := v) T.2.2 ha (by decide) rfl w (by rw [c.1]; exact r1) (by rw [c.2]; exact r2)
  rw [e1]; exact H h' ⟨T.1, T.2.1, e2⟩ e3.1 e3.2
theorem r_SF_6 {β : Type} {f : Nat → Option β} {Q : β → Prop} {q : Nat} (T : q_U L W h0 π h) (ha : qκ L a = 12) (hq : π a 6 = some q) (H : qk (f q) Q) : qk (z_b (gR h a 11 6) f) Q := by
  rw [q_gR (ci := 11) T.2.2 ha (by decide) hq]; exact H
theorem w_SF_6 {β : Type} {f : z_H → Option β} {Q : β → Prop} {q : Nat} (T : q_U L W h0 π h) (ha : qκ L a = 12) (w : W a) (H : ∀ π' h', q_U L W h0 π' h' → (∀ a' k', π' a' k' = if a' = a ∧ k' = 6 then some q else π a' k') → (∀ a' k', vI h' a' k' = vI h a' k') → (∀ a' i, vA h' a' i = vA h a' i) → qk (f h') Q) : qk (z_b (sF h a 11 6 (.ref q)) f) Q := by
  obtain ⟨h', e1, e2, e3⟩ := q_sR (ci := 11) (k := 6) (q := q) T.2.2 ha (by decide) rfl w
  rw [e1]
  refine H _ h' ⟨T.1, ?_, e2⟩ (fun _ _ => rfl) e3.1 e3.2
  refine ⟨?_, ?_, ?_, ?_, ?_, ?_, ?_, ?_, ?_, ?_, ?_, ?_⟩
  · intro b hb
    have t := T.2.1.1 b hb
    simpa [q_F_Addr, q_pu, show b ≠ a from fun z => absurd (z ▸ hb) (by rw [ha]; decide)] using t
  · intro b hb
    have t := T.2.1.2.1 b hb
    simpa [q_F_Cmd, q_pu, show b ≠ a from fun z => absurd (z ▸ hb) (by rw [ha]; decide)] using t
  · intro b hb
    have t := T.2.1.2.2.1 b hb
    exact t
  · intro b hb
    have t := T.2.1.2.2.2.1 b hb
    simpa [q_F_Ed, q_pu, show b ≠ a from fun z => absurd (z ▸ hb) (by rw [ha]; decide)] using t
  · intro b hb
    have t := T.2.1.2.2.2.2.1 b hb
    simpa [q_F_It, q_pu, show b ≠ a from fun z => absurd (z ▸ hb) (by rw [ha]; decide)] using t
  · intro b hb
    have t := T.2.1.2.2.2.2.2.1 b hb
    simpa [q_F_Ma, q_pu, show b ≠ a from fun z => absurd (z ▸ hb) (by rw [ha]; decide)] using t
  · intro b hb
    have t := T.2.1.2.2.2.2.2.2.1 b hb
    simpa [q_F_Pa, q_pu, show b ≠ a from fun z => absurd (z ▸ hb) (by rw [ha]; decide)] using t
  · intro b hb
    have t := T.2.1.2.2.2.2.2.2.2.1 b hb
    exact t
  · intro b hb
    have t := T.2.1.2.2.2.2.2.2.2.2.1 b hb
    exact t
  · intro b hb
    have t := T.2.1.2.2.2.2.2.2.2.2.2.1 b hb
    simpa [q_F_Prog, q_pu, show b ≠ a from fun z => absurd (z ▸ hb) (by rw [ha]; decide)] using t
  · intro b hb
    have t := T.2.1.2.2.2.2.2.2.2.2.2.2.1 b hb
    simpa [q_F_Row, q_pu, show b ≠ a from fun z => absurd (z ▸ hb) (by rw [ha]; decide)] using t
  · intro b hb
    have t := T.2.1.2.2.2.2.2.2.2.2.2.2.2 b hb
    simpa [q_F_SF, q_pu] using t
theorem r_SF_7 {β : Type} {f : Nat → Option β} {Q : β → Prop} {q : Nat} (T : q_U L W h0 π h) (ha : qκ L a = 12) (hq : π a 7 = some q) (H : qk (f q) Q) : qk (z_b (gR h a 11 7) f) Q := by
  rw [q_gR (ci := 11) T.2.2 ha (by decide) hq]; exact H
theorem w_SF_7 {β : Type} {f : z_H → Option β} {Q : β → Prop} {q : Nat} (T : q_U L W h0 π h) (ha : qκ L a = 12) (w : W a) (H : ∀ π' h', q_U L W h0 π' h' → (∀ a' k', π' a' k' = if a' = a ∧ k' = 7 then some q else π a' k') → (∀ a' k', vI h' a' k' = vI h a' k') → (∀ a' i, vA h' a' i = vA h a' i) → qk (f h') Q) : qk (z_b (sF h a 11 7 (.ref q)) f) Q := by
  obtain ⟨h', e1, e2, e3⟩ := q_sR (ci := 11) (k := 7) (q := q) T.2.2 ha (by decide) rfl w
  rw [e1]
  refine H _ h' ⟨T.1, ?_, e2⟩ (fun _ _ => rfl) e3.1 e3.2
  refine ⟨?_, ?_, ?_, ?_, ?_, ?_, ?_, ?_, ?_, ?_, ?_, ?_⟩
  · intro b hb
    have t := T.2.1.1 b hb
    simpa [q_F_Addr, q_pu, show b ≠ a from fun z => absurd (z ▸ hb) (by rw [ha]; decide)] using t
  · intro b hb
    have t := T.2.1.2.1 b hb
    simpa [q_F_Cmd, q_pu, show b ≠ a from fun z => absurd (z ▸ hb) (by rw [ha]; decide)] using t
  · intro b hb
    have t := T.2.1.2.2.1 b hb
    exact t
  · intro b hb
    have t := T.2.1.2.2.2.1 b hb
    simpa [q_F_Ed, q_pu, show b ≠ a from fun z => absurd (z ▸ hb) (by rw [ha]; decide)] using t
  · intro b hb
    have t := T.2.1.2.2.2.2.1 b hb
    simpa [q_F_It, q_pu, show b ≠ a from fun z => absurd (z ▸ hb) (by rw [ha]; decide)] using t
  · intro b hb
    have t := T.2.1.2.2.2.2.2.1 b hb
    simpa [q_F_Ma, q_pu, show b ≠ a from fun z => absurd (z ▸ hb) (by rw [ha]; decide)] using t
  · intro b hb
    have t := T.2.1.2.2.2.2.2.2.1 b hb
    simpa [q_F_Pa, q_pu, show b ≠ a from fun z => absurd (z ▸ hb) (by rw [ha]; decide)] using t
  · intro b hb
    have t := T.2.1.2.2.2.2.2.2.2.1 b hb
    exact t
  · intro b hb
    have t := T.2.1.2.2.2.2.2.2.2.2.1 b hb
    exact t
  · intro b hb
    have t := T.2.1.2.2.2.2.2.2.2.2.2.1 b hb
    simpa [q_F_Prog, q_pu, show b ≠ a from fun z => absurd (z ▸ hb) (by rw [ha]; decide)] using t
  · intro b hb
    have t := T.2.1.2.2.2.2.2.2.2.2.2.2.1 b hb
    simpa [q_F_Row, q_pu, show b ≠ a from fun z => absurd (z ▸ hb) (by rw [ha]; decide)] using t
  · intro b hb
    have t := T.2.1.2.2.2.2.2.2.2.2.2.2.2 b hb
    simpa [q_F_SF, q_pu] using t
theorem r_SF_8 {β : Type} {f : Int32 → Option β} {Q : β → Prop} (T : q_U L W h0 π h) (ha : qκ L a = 12) (H : ∀ x, x = vI h a 8 → qk (f x) Q) : qk (z_b (gI h a 11 8) f) Q := by
  rw [q_gI (ci := 11) T.2.2 ha (by decide) rfl]
  exact H _ rfl
theorem w_SF_8 {β : Type} {f : z_H → Option β} {Q : β → Prop} {v : Int32} (T : q_U L W h0 π h) (ha : qκ L a = 12) (w : W a) (H : ∀ h', q_U L W h0 π h' → (∀ a' k', vI h' a' k' = if a' = a ∧ k' = 8 then v else vI h a' k') → (∀ a' i, vA h' a' i = vA h a' i) → qk (f h') Q) : qk (z_b (sF h a 11 8 (.int v)) f) Q := by
  have c := (q_CSF T ha).2.2.2.2.2.2.1
  obtain ⟨h', e1, e2, e3⟩ := q_sI (ci := 11) (k := 8) (v := v) T.2.2 ha (by decide) rfl w (by rw [c.1]; exact q_min v) (by rw [c.2]; exact q_max v)
  rw [e1]; exact H h' ⟨T.1, T.2.1, e2⟩ e3.1 e3.2
theorem r_SF_9 {β : Type} {f : Int32 → Option β} {Q : β → Prop} (T : q_U L W h0 π h) (ha : qκ L a = 12) (H : ∀ x, x = vI h a 9 → qk (f x) Q) : qk (z_b (gI h a 11 9) f) Q := by
  rw [q_gI (ci := 11) T.2.2 ha (by decide) rfl]
  exact H _ rfl
theorem w_SF_9 {β : Type} {f : z_H → Option β} {Q : β → Prop} {v : Int32} (T : q_U L W h0 π h) (ha : qκ L a = 12) (w : W a) (H : ∀ h', q_U L W h0 π h' → (∀ a' k', vI h' a' k' = if a' = a ∧ k' = 9 then v else vI h a' k') → (∀ a' i, vA h' a' i = vA h a' i) → qk (f h') Q) : qk (z_b (sF h a 11 9 (.int v)) f) Q := by
  have c := (q_CSF T ha).2.2.2.2.2.2.2.1
  obtain ⟨h', e1, e2, e3⟩ := q_sI (ci := 11) (k := 9) (v := v) T.2.2 ha (by decide) rfl w (by rw [c.1]; exact q_min v) (by rw [c.2]; exact q_max v)
  rw [e1]; exact H h' ⟨T.1, T.2.1, e2⟩ e3.1 e3.2
theorem r_SF_e3 {β : Type} {f : Nat → Option β} {Q : β → Prop} {i : Int32} (T : q_U L W h0 π h) (ha : qκ L a = 12) (i0 : 0 ≤ i) (i1 : i < 12) (H : qκ L (a + (528 + 2 * i.toNatClampNeg)) = 11 → qhi L (a + (528 + 2 * i.toNatClampNeg)) 1 = 24 → i.toNatClampNeg < 12 → qk (f (a + (528 + 2 * i.toNatClampNeg))) Q) : qk (z_b (aR h (a + 3) 4 i) f) Q := by
  have t := (q_CSF T ha).2.2.2.2.2.2.2.2.2 i i0 i1
  rw [q_aR (n := 12) T.2.2 ((q_CSF T ha).2.2.2.2.2.2.2.2.1) (by decide) (by decide) i0 i1 t.1]
  have hin := q_in (n := 12) (by decide) i0 i1
  exact H t.2.1 t.2.2 (Nat.not_le.mp fun z => hin (Or.inr z))
theorem q_inc00 {x : Int32} (t : qlo L a 1 ≤ x ∧ x ≤ qhi L a 1) (c : q_C_Cur L a) : 0 ≤ x := c.1.1 ▸ t.1
theorem q_inc01 {x : Int32} (t : qlo L a 1 ≤ x ∧ x ≤ qhi L a 1) (c : q_C_Cur L a) : 0 ≤ x + 1 := by
  have h1 := c.1.1 ▸ t.1; have h2 := c.1.2 ▸ t.2; lia
theorem q_inc02 {x : Int32} (t : qlo L a 1 ≤ x ∧ x ≤ qhi L a 1) (c : q_C_Cur L a) : 0 ≤ x + 2 := by
  have h1 := c.1.1 ▸ t.1; have h2 := c.1.2 ▸ t.2; lia
theorem q_inc1 {x : Int32} (h : x < 240) (h0 : 0 ≤ x) : x + 1 ≤ 242 := by lia
theorem q_inc1b {x : Int32} (h : x ≤ 240) (h0 : 0 ≤ x) : x + 1 ≤ 242 := by lia
theorem q_nl {y v len hi : Int32} (h0 : v ≤ y) (h1 : y ≤ len ∨ y = v) (h2 : 0 ≤ hi ∧ hi ≤ 600 ∧ 0 ≤ len ∧ len ≤ hi) (h3 : hi = 240) (h4 : 0 ≤ v) (h5 : v ≤ 242) : 0 ≤ y ∧ y ≤ 242 := by
  rcases h1 with h | h <;> constructor <;> lia
theorem q_mono1 {a b c : Int32} (h0 : 0 ≤ a) (ha : a < 240) (e : b = a + 1 ∨ b = a + 2 ∨ b = a + 1 + 1) (h : b ≤ c) : a ≤ c := by
  rcases e with e | e | e <;> subst e <;> lia
theorem q_inc2 {x : Int32} (h : x < 240) (h0 : 0 ≤ x) : x + 2 ≤ 242 := by lia
theorem q_zz {s s1 a b : Int32} (h0 : 0 ≤ s) (e1 : s1 = s ∨ s1 = s + 1) (z : s ≤ a) (ha : a < 240) (e2 : b = a + 1 ∨ b = a + 2 ∨ b = a + 2 + 1) : s1 ≤ b := by
  rcases e1 with e | e <;> rcases e2 with f | f | f <;> subst e <;> subst f <;> lia
theorem q_zb {s s1 a b : Int32} (h0 : 0 ≤ s) (e1 : s1 = s) (z : s ≤ a) (ha : a ≤ 242) (e2 : b = a ∨ b = a + 1) : s1 ≤ b := by
  subst e1; rcases e2 with f | f <;> subst f <;> lia
theorem q_lt1 {a : Int32} (h : a + 1 < 240) (h0 : 0 ≤ a) (h1 : a ≤ 242) : a < 240 := by lia
theorem q_rowhi (T : q_U L W h0 π h) (ha : qκ L a = 11) : 0 ≤ qhi L a 1 ∧ qhi L a 1 ≤ 600 ∧ 0 ≤ vI h a 1 ∧ vI h a 1 ≤ qhi L a 1 := by
  obtain ⟨n, c1, c2, c3, c4, c5, c6⟩ := q_CRow T ha
  have t := T.2.2.2.1 a 1
  exact ⟨by rw [c4]; exact q_ge0 c2, by rw [c4]; exact q_le600 c2, c3 ▸ t.1, t.2⟩
theorem r_Row_n {β : Type} {f : Int32 → Option β} {Q : β → Prop} (T : q_U L W h0 π h) (ha : qκ L a = 11) (H : 0 ≤ qhi L a 1 → qhi L a 1 ≤ 600 → qk (f (qhi L a 1)) Q) : qk (z_b (aN h (a + 1)) f) Q := by
  obtain ⟨n, c1, c2, c3, c4, c5, c6⟩ := q_CRow T ha
  rw [q_aN (n := n) T.2.2 c1 (by decide), ← c4]
  exact H (by rw [c4]; exact q_ge0 c2) (by rw [c4]; exact q_le600 c2)
theorem r_Row_e1 {β : Type} {f : Int32 → Option β} {Q : β → Prop} {i : Int32} (T : q_U L W h0 π h) (ha : qκ L a = 11) (i0 : 0 ≤ i) (i1 : i < qhi L a 1) (H : ∀ x, x = vA h (a + 1) i → 0 ≤ x → x ≤ 65535 → qk (f x) Q) : qk (z_b (aI h (a + 1) 1 i) f) Q := by
  obtain ⟨n, c1, c2, c3, c4, c5, c6⟩ := q_CRow T ha
  rw [q_aI (n := n) T.2.2 c1 (by decide) (by omega) i0 (c4 ▸ i1)]
  have t := T.2.2.2.2.1 (a + 1) i
  rw [c5, c6] at t
  exact H _ rfl t.1 t.2
theorem w_Row_e1 {β : Type} {f : z_H → Option β} {Q : β → Prop} {i v : Int32} (T : q_U L W h0 π h) (ha : qκ L a = 11) (w : W (a + 1)) (i0 : 0 ≤ i) (i1 : i < qhi L a 1) (H : ∀ h', q_U L W h0 π h' → (∀ a' k', vI h' a' k' = vI h a' k') → (∀ a' j, 0 ≤ j → vA h' a' j = if a' = a + 1 ∧ j = i then vp_nar .char v else vA h a' j) → qk (f h') Q) : qk (z_b (uI h (a + 1) 1 i (vp_nar .char v)) f) Q := by
  obtain ⟨n, c1, c2, c3, c4, c5, c6⟩ := q_CRow T ha
  obtain ⟨h', e1, e2, e3⟩ := q_uI (n := n) (t := 1) (i := i) (x := vp_nar .char v) T.2.2 c1 (by decide) (by omega) w i0 (c4 ▸ i1) (by rw [c5]; exact (q_char v).1) (by rw [c6]; exact (q_char v).2)
  rw [e1]; exact H h' ⟨T.1, T.2.1, e2⟩ e3.1 e3.2
end QU
