/-! the heap at the law's loop: what both keep -/
section CL8
variable {B : Nat} {h : z_H}
theorem c_yL : y_L (c_L B h) (B + 9) := by
  refine ⟨?_, ⟨?_, ?_⟩, ⟨?_, ?_⟩, ⟨?_, ?_⟩, ⟨?_, ?_⟩, ⟨?_, ?_⟩, ?_⟩
  · exact (c_Lκ (j := 9)).trans (by decide)
  · show qκ (c_L B h) (B + 12) = 11
    exact c_Lκ.trans (by decide)
  · show qhi (c_L B h) (B + 12) 1 = 60
    exact c_Lhi.trans (by decide)
  · show qκ (c_L B h) (B + 14) = 11
    exact c_Lκ.trans (by decide)
  · show qhi (c_L B h) (B + 14) 1 = 60
    exact c_Lhi.trans (by decide)
  · show qκ (c_L B h) (B + 23) = 11
    exact c_Lκ.trans (by decide)
  · show qhi (c_L B h) (B + 23) 1 = 60
    exact c_Lhi.trans (by decide)
  · show qκ (c_L B h) (B + 10) = 11
    exact c_Lκ.trans (by decide)
  · show qhi (c_L B h) (B + 10) 1 = 600
    exact c_Lhi.trans (by decide)
  · show qκ (c_L B h) (B + 16) = 11
    exact c_Lκ.trans (by decide)
  · show qhi (c_L B h) (B + 16) 1 = 200
    exact c_Lhi.trans (by decide)
  · show qκ (c_L B h) (B + 18) = 6
    exact c_Lκ.trans (by decide)
theorem c_R0 {r : Nat} {c : Int32} (z : vI h r 1 = 0) (c0 : 0 ≤ c) : y_R1 h r c [] := by
  refine ⟨?_, by rw [z]; exact ⟨Int32.le_refl _, c0⟩, fun x hx => by cases hx⟩
  unfold x_rw
  rw [z]
  exact x_sl_0 (Int32.le_refl _) (Int32.le_refl _) (Int32.le_refl _)
theorem c_RR0 {mo k a : Nat} {c : Int32} (z : vI h mo k = 0) (c0 : 0 ≤ c) : r_R1 h mo k a c [] := by
  refine ⟨?_, by rw [z]; exact ⟨Int32.le_refl _, c0⟩, fun x hx => by cases hx⟩
  unfold r_l
  rw [z]
  exact x_sl_0 (Int32.le_refl _) (Int32.le_refl _) (Int32.le_refl _)
theorem c_K4 (hh : h = c_h B 599 c_F) : x_K4 (c_L B h) B (B + 552) h := by
  have z : ∀ j, j < 599 → c_it (c_F j) 1 = 0 → vI h (B + j) 1 = 0 := fun j hj d => (c_vf hh hj).trans d
  refine ⟨vR h, B + 12, B + 14, B + 23, [], [], [], [], ⟨⟨x_U_of (c_U hh (fun _ => True)), ?_, ?_, ?_⟩, ?_, ?_, ?_, ?_, ?_, ?_⟩, ⟨?_, ?_, ?_⟩, ?_⟩
  · exact c_pf (j := 9) hh (by decide) (by decide +kernel)
  · exact c_pf (j := 9) hh (by decide) (by decide +kernel)
  · exact c_pf (j := 9) hh (by decide) (by decide +kernel)
  · unfold y_Dr
    omega
  · exact c_R0 (z 10 (by decide) (by decide +kernel)) (by decide)
  · exact c_R0 (z 12 (by decide) (by decide +kernel)) (by decide)
  · exact c_R0 (z 14 (by decide) (by decide +kernel)) (by decide)
  · exact c_R0 (z 16 (by decide) (by decide +kernel)) (by decide)
  · rw [z 23 (by decide) (by decide +kernel)]
    exact ⟨by decide, by decide⟩
  · exact c_RR0 ((c_vf hh (by decide)).trans (by decide +kernel)) (by decide)
  · exact c_RR0 ((c_vf hh (by decide)).trans (by decide +kernel)) (by decide)
  · exact c_RR0 ((c_vf hh (by decide)).trans (by decide +kernel)) (by decide)
  · unfold x_NB
    show vI h (B + 9) 3 = vI h (B + 552) 70 ∧ vI h (B + 9) 4 = vI h (B + 552) 71 ∧ vI h (B + 9) 5 = vI h (B + 552) 72 ∧ vI h (B + 9) 6 = vI h (B + 552) 73
    refine ⟨(c_vf hh (by decide)).trans ((c_vf hh (by decide)).trans ?_).symm, (c_vf hh (by decide)).trans ((c_vf hh (by decide)).trans ?_).symm, (c_vf hh (by decide)).trans ((c_vf hh (by decide)).trans ?_).symm, (c_vf hh (by decide)).trans ((c_vf hh (by decide)).trans ?_).symm⟩ <;> decide +kernel
theorem c_K8 (hh : h = c_h B 599 c_F) : x_K8 B (B + 552) h := by
  have f3 : vI h (B + 552) 3 = 0 := (c_vf hh (by decide)).trans (by decide +kernel)
  have f4 : vI h (B + 552) 4 = 0 := (c_vf hh (by decide)).trans (by decide +kernel)
  have f8 : vI h (B + 552) 8 = 0 := (c_vf hh (by decide)).trans (by decide +kernel)
  have s8 : vI h B 8 = 0 := (c_vf (j := 0) hh (by decide)).trans (by decide +kernel)
  refine ⟨fun j j0 jl => absurd (Int32.lt_of_le_of_lt j0 (f3 ▸ jl)) Int32.lt_irrefl, fun i hi il => ?_, Or.inl ⟨s8, f8⟩⟩
  rw [f4] at il
  exact absurd (Int32.lt_of_le_of_lt (q_on hi) il) Int32.lt_irrefl
end CL8
