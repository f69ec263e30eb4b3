theorem k_j12 : ∀ j < 599, k_T j = 12 → j = 0 := by decide +kernel
theorem k_j10 : ∀ j < 599, k_T j = 10 → j = 30 ∨ j = 279 := by decide +kernel
theorem k_q3 : ∀ i < 12, c_rq (c_F 3) i = some (528 + 2 * i) ∧ k_T (528 + 2 * i) = 11 ∧ (k_R (528 + 2 * i) 1).2 = 24 := by decide +kernel
theorem k_q38 : ∀ i < 40, c_rq (c_F 38) i = some (30 + (9 + 6 * i)) ∧ k_T (30 + (9 + 6 * i)) = 2 := by decide +kernel
theorem k_q287 : ∀ i < 40, c_rq (c_F 287) i = some (279 + (9 + 6 * i)) ∧ k_T (279 + (9 + 6 * i)) = 2 := by decide +kernel
theorem k_o600 {n : Nat} (h : n ≤ 600) : (0 : Int32) ≤ Int32.ofNat n := by
  refine Int32.le_iff_toInt_le.mpr ?_
  rw [q_oI (by omega)]
  have e0 : (0 : Int32).toInt = 0 := rfl
  omega
def k_P (x : Int32 × Int32) : Prop := x.1 ≤ 0 ∧ 0 ≤ x.2
theorem k_ite {c : Prop} [Decidable c] {a b : Int32 × Int32} (ha : k_P a) (hb : k_P b) : k_P (if c then a else b) := by
  by_cases h : c
  · rw [if_pos h]; exact ha
  · rw [if_neg h]; exact hb
theorem k_Pf : k_P k_full := by unfold k_P k_full; decide
theorem k_p0 : k_P (0, 200) := ⟨by decide, by decide⟩
theorem k_p1 : k_P (0, 12) := ⟨by decide, by decide⟩
theorem k_p2 : k_P (0, 600) := ⟨by decide, by decide⟩
theorem k_p3 : k_P (0, 400) := ⟨by decide, by decide⟩
theorem k_p4 : k_P (0, 60) := ⟨by decide, by decide⟩
theorem k_p5 : k_P ((-1), 60) := ⟨by decide, by decide⟩
theorem k_p6 : k_P (0, 259) := ⟨by decide, by decide⟩
theorem k_p7 : k_P (0, 3) := ⟨by decide, by decide⟩
theorem k_p8 : k_P (0, 4) := ⟨by decide, by decide⟩
theorem k_p9 : k_P (0, 1) := ⟨by decide, by decide⟩
theorem k_p10 : k_P (0, 250) := ⟨by decide, by decide⟩
theorem k_p11 : k_P (0, 240) := ⟨by decide, by decide⟩
theorem k_p12 : k_P (0, 40) := ⟨by decide, by decide⟩
theorem k_p13 : k_P (0, 2) := ⟨by decide, by decide⟩
theorem k_p14 : k_P ((-1), 240) := ⟨by decide, by decide⟩
theorem k_p15 : k_P ((-1), 600) := ⟨by decide, by decide⟩
theorem k_p16 : k_P (0, 242) := ⟨by decide, by decide⟩
theorem k_p17 : k_P (0, 243) := ⟨by decide, by decide⟩
theorem k_p18 : k_P ((-1), 25) := ⟨by decide, by decide⟩
theorem k_p19 : k_P ((-1), 40) := ⟨by decide, by decide⟩
theorem k_p20 : k_P (0, 126) := ⟨by decide, by decide⟩
theorem k_p21 : k_P (0, 24) := ⟨by decide, by decide⟩
theorem k_p22 : k_P (0, 130) := ⟨by decide, by decide⟩
theorem k_p23 : k_P (0, 299) := ⟨by decide, by decide⟩
theorem k_p24 : k_P (0, 520) := ⟨by decide, by decide⟩
theorem k_p25 : k_P (0, 5) := ⟨by decide, by decide⟩
theorem k_p26 : k_P ((-1), 203) := ⟨by decide, by decide⟩
theorem k_p27 : k_P ((-1), 79) := ⟨by decide, by decide⟩
theorem k_p28 : k_P (0, 79) := ⟨by decide, by decide⟩
set_option maxHeartbeats 4000000 in
theorem k_R0 {j k : Nat} (hj : j < 599) : (k_R j k).1 ≤ 0 ∧ 0 ≤ (k_R j k).2 := by
  show k_P (k_R j k)
  unfold k_R
  by_cases e : k_T j = 11
  · rw [if_pos e]
    have d := k_CRow j hj e
    exact k_ite ⟨(by decide : (0 : Int32) ≤ 0), k_o600 d.2.1⟩ k_Pf
  · rw [if_neg e]
    exact (k_ite (k_ite k_p13 k_Pf) (k_ite (k_ite k_p16 (k_ite k_p13 (k_ite k_p19 (k_ite k_p18 (k_ite k_p16 (k_ite k_p16 (k_ite k_p17 k_Pf))))))) (k_ite (k_ite k_p16 k_Pf) (k_ite (k_ite k_p1 (k_ite k_p0 (k_ite k_p1 (k_ite k_p12 k_Pf)))) (k_ite (k_ite k_p11 k_Pf) (k_ite (k_ite k_p2 (k_ite k_p15 k_Pf)) (k_ite (k_ite k_p8 k_Pf) (k_ite (k_ite k_p11 (k_ite k_p11 (k_ite k_p14 (k_ite k_p14 (k_ite k_p7 k_Pf))))) (k_ite (k_ite k_p13 k_Pf) (k_ite (k_ite k_p12 k_Pf) (k_ite (k_ite k_p1 k_Pf) (k_ite (k_ite k_p11 (k_ite k_p1 (k_ite k_p9 (k_ite k_p10 (k_ite k_p9 (k_ite k_p8 (k_ite k_p7 (k_ite k_p6 (k_ite k_p4 (k_ite k_p4 (k_ite k_p5 (k_ite k_p4 (k_ite k_p4 (k_ite k_p3 (k_ite k_p0 (k_ite k_p2 (k_ite k_p1 (k_ite k_p0 k_Pf)))))))))))))))))) k_Pf))))))))))))
theorem k_E9 {j : Nat} (h : 599 ≤ j) : (k_E j).1 ≤ 0 ∧ 0 ≤ (k_E j).2 := by
  show k_P (k_E j)
  unfold k_E
  rw [if_pos (by omega)]
  exact (k_ite k_p5 (k_ite k_p5 (k_ite k_p28 (k_ite k_p27 (k_ite k_p26 (k_ite k_p25 (k_ite k_p7 (k_ite k_p24 (k_ite k_p24 (k_ite k_p23 (k_ite k_p6 (k_ite k_p22 (k_ite k_p12 (k_ite k_p19 (k_ite k_p2 (k_ite k_p2 (k_ite k_p2 (k_ite k_p6 (k_ite k_p6 (k_ite k_p7 (k_ite k_p6 (k_ite k_p7 (k_ite k_p21 (k_ite k_p20 k_Pf))))))))))))))))))))))))
theorem k_E0 : ∀ j < 599, (k_E j).1 ≤ 0 ∧ 0 ≤ (k_E j).2 := by decide +kernel
