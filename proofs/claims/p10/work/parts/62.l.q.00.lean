theorem q_Mk {L : q_L} {π : Nat → Nat → Option Nat} {a : Nat} (ha : q_M L π a) : qκ L a = 13 := ha.1
theorem d_Mo_0 {L : q_L} {π : Nat → Nat → Option Nat} {a : Nat} (ha : q_M L π a) : π a 0 = some (a + 1) := (ha.2.2.1).1
theorem d_Mo_1 {L : q_L} {π : Nat → Nat → Option Nat} {a : Nat} (ha : q_M L π a) : π a 1 = some (a + 2) := (ha.2.2.1).2.1
theorem d_Mo_2 {L : q_L} {π : Nat → Nat → Option Nat} {a : Nat} (ha : q_M L π a) : π a 2 = some (a + 3) := (ha.2.2.1).2.2.1
theorem d_Mo_9 {L : q_L} {π : Nat → Nat → Option Nat} {a : Nat} (ha : q_M L π a) : π a 9 = some (a + 4) := (ha.2.2.1).2.2.2.1
theorem d_Mo_10 {L : q_L} {π : Nat → Nat → Option Nat} {a : Nat} (ha : q_M L π a) : π a 10 = some (a + 5) := (ha.2.2.1).2.2.2.2.1
theorem d_Mo_11 {L : q_L} {π : Nat → Nat → Option Nat} {a : Nat} (ha : q_M L π a) : π a 11 = some (a + 6) := (ha.2.2.1).2.2.2.2.2.1
theorem d_Mo_12 {L : q_L} {π : Nat → Nat → Option Nat} {a : Nat} (ha : q_M L π a) : π a 12 = some (a + 7) := (ha.2.2.1).2.2.2.2.2.2.1
theorem d_Mo_13 {L : q_L} {π : Nat → Nat → Option Nat} {a : Nat} (ha : q_M L π a) : π a 13 = some (a + 8) := (ha.2.2.1).2.2.2.2.2.2.2.1
theorem d_Mo_14 {L : q_L} {π : Nat → Nat → Option Nat} {a : Nat} (ha : q_M L π a) : π a 14 = some (a + 9) := (ha.2.2.1).2.2.2.2.2.2.2.2.1
theorem d_Mo_15 {L : q_L} {π : Nat → Nat → Option Nat} {a : Nat} (ha : q_M L π a) : π a 15 = some (a + 10) := (ha.2.2.1).2.2.2.2.2.2.2.2.2.1
theorem d_Mo_16 {L : q_L} {π : Nat → Nat → Option Nat} {a : Nat} (ha : q_M L π a) : π a 16 = some (a + 11) := (ha.2.2.1).2.2.2.2.2.2.2.2.2.2.1
theorem d_Mo_17 {L : q_L} {π : Nat → Nat → Option Nat} {a : Nat} (ha : q_M L π a) : π a 17 = some (a + 12) := (ha.2.2.1).2.2.2.2.2.2.2.2.2.2.2
theorem d_Mo_18 {L : q_L} {π : Nat → Nat → Option Nat} {a : Nat} (ha : q_M L π a) : π a 18 = some (a + 13) := (ha.2.2.2.1).1
theorem d_Mo_19 {L : q_L} {π : Nat → Nat → Option Nat} {a : Nat} (ha : q_M L π a) : π a 19 = some (a + 14) := (ha.2.2.2.1).2.1
theorem d_Mo_20 {L : q_L} {π : Nat → Nat → Option Nat} {a : Nat} (ha : q_M L π a) : π a 20 = some (a + 15) := (ha.2.2.2.1).2.2.1
theorem d_Mo_21 {L : q_L} {π : Nat → Nat → Option Nat} {a : Nat} (ha : q_M L π a) : π a 21 = some (a + 16) := (ha.2.2.2.1).2.2.2.1
theorem d_Mo_22 {L : q_L} {π : Nat → Nat → Option Nat} {a : Nat} (ha : q_M L π a) : π a 22 = some (a + 17) := (ha.2.2.2.1).2.2.2.2.1
theorem d_Mo_23 {L : q_L} {π : Nat → Nat → Option Nat} {a : Nat} (ha : q_M L π a) : π a 23 = some (a + 18) := (ha.2.2.2.1).2.2.2.2.2.1
theorem d_Mo_24 {L : q_L} {π : Nat → Nat → Option Nat} {a : Nat} (ha : q_M L π a) : π a 24 = some (a + 19) := (ha.2.2.2.1).2.2.2.2.2.2.1
theorem d_Mo_25 {L : q_L} {π : Nat → Nat → Option Nat} {a : Nat} (ha : q_M L π a) : π a 25 = some (a + 20) := (ha.2.2.2.1).2.2.2.2.2.2.2.1
theorem d_Mo_26 {L : q_L} {π : Nat → Nat → Option Nat} {a : Nat} (ha : q_M L π a) : π a 26 = some (a + 21) := (ha.2.2.2.1).2.2.2.2.2.2.2.2.1
theorem d_Mo_27 {L : q_L} {π : Nat → Nat → Option Nat} {a : Nat} (ha : q_M L π a) : π a 27 = some (a + 22) := (ha.2.2.2.1).2.2.2.2.2.2.2.2.2.1
theorem d_Mo_28 {L : q_L} {π : Nat → Nat → Option Nat} {a : Nat} (ha : q_M L π a) : π a 28 = some (a + 23) := (ha.2.2.2.1).2.2.2.2.2.2.2.2.2.2.1
theorem d_Mo_29 {L : q_L} {π : Nat → Nat → Option Nat} {a : Nat} (ha : q_M L π a) : π a 29 = some (a + 24) := (ha.2.2.2.1).2.2.2.2.2.2.2.2.2.2.2
theorem d_Mo_30 {L : q_L} {π : Nat → Nat → Option Nat} {a : Nat} (ha : q_M L π a) : π a 30 = some (a + 25) := (ha.2.2.2.2.1).1
theorem d_Mo_31 {L : q_L} {π : Nat → Nat → Option Nat} {a : Nat} (ha : q_M L π a) : π a 31 = some (a + 26) := (ha.2.2.2.2.1).2.1
theorem d_Mo_32 {L : q_L} {π : Nat → Nat → Option Nat} {a : Nat} (ha : q_M L π a) : π a 32 = some (a + 27) := (ha.2.2.2.2.1).2.2.1
theorem d_Mo_33 {L : q_L} {π : Nat → Nat → Option Nat} {a : Nat} (ha : q_M L π a) : π a 33 = some (a + 28) := (ha.2.2.2.2.1).2.2.2.1
theorem d_Mo_34 {L : q_L} {π : Nat → Nat → Option Nat} {a : Nat} (ha : q_M L π a) : π a 34 = some (a + 29) := (ha.2.2.2.2.1).2.2.2.2.1
theorem d_Mo_35 {L : q_L} {π : Nat → Nat → Option Nat} {a : Nat} (ha : q_M L π a) : π a 35 = some (a + 30) := (ha.2.2.2.2.1).2.2.2.2.2.1
theorem d_Mo_36 {L : q_L} {π : Nat → Nat → Option Nat} {a : Nat} (ha : q_M L π a) : π a 36 = some (a + 31) := (ha.2.2.2.2.1).2.2.2.2.2.2.1
theorem d_Mo_37 {L : q_L} {π : Nat → Nat → Option Nat} {a : Nat} (ha : q_M L π a) : π a 37 = some (a + 32) := (ha.2.2.2.2.1).2.2.2.2.2.2.2.1
theorem d_Mo_38 {L : q_L} {π : Nat → Nat → Option Nat} {a : Nat} (ha : q_M L π a) : π a 38 = some (a + 33) := (ha.2.2.2.2.1).2.2.2.2.2.2.2.2.1
theorem d_Mo_39 {L : q_L} {π : Nat → Nat → Option Nat} {a : Nat} (ha : q_M L π a) : π a 39 = some (a + 34) := (ha.2.2.2.2.1).2.2.2.2.2.2.2.2.2.1
theorem d_Mo_40 {L : q_L} {π : Nat → Nat → Option Nat} {a : Nat} (ha : q_M L π a) : π a 40 = some (a + 35) := (ha.2.2.2.2.1).2.2.2.2.2.2.2.2.2.2.1
theorem d_Mo_51 {L : q_L} {π : Nat → Nat → Option Nat} {a : Nat} (ha : q_M L π a) : π a 51 = some (a + 36) := (ha.2.2.2.2.1).2.2.2.2.2.2.2.2.2.2.2
theorem d_Mo_52 {L : q_L} {π : Nat → Nat → Option Nat} {a : Nat} (ha : q_M L π a) : π a 52 = some (a + 37) := (ha.2.2.2.2.2).1
theorem d_Mo_53 {L : q_L} {π : Nat → Nat → Option Nat} {a : Nat} (ha : q_M L π a) : π a 53 = some (a + 38) := (ha.2.2.2.2.2).2.1
theorem d_Mo_58 {L : q_L} {π : Nat → Nat → Option Nat} {a : Nat} (ha : q_M L π a) : π a 58 = some (a + 39) := (ha.2.2.2.2.2).2.2.1
theorem d_Mo_59 {L : q_L} {π : Nat → Nat → Option Nat} {a : Nat} (ha : q_M L π a) : π a 59 = some (a + 40) := (ha.2.2.2.2.2).2.2.2.1
theorem d_Mo_60 {L : q_L} {π : Nat → Nat → Option Nat} {a : Nat} (ha : q_M L π a) : π a 60 = some (a + 41) := (ha.2.2.2.2.2).2.2.2.2.1
theorem d_Mo_61 {L : q_L} {π : Nat → Nat → Option Nat} {a : Nat} (ha : q_M L π a) : π a 61 = some (a + 42) := (ha.2.2.2.2.2).2.2.2.2.2.1
theorem d_Mo_62 {L : q_L} {π : Nat → Nat → Option Nat} {a : Nat} (ha : q_M L π a) : π a 62 = some (a + 43) := (ha.2.2.2.2.2).2.2.2.2.2.2.1
theorem d_Mo_63 {L : q_L} {π : Nat → Nat → Option Nat} {a : Nat} (ha : q_M L π a) : π a 63 = some (a + 44) := (ha.2.2.2.2.2).2.2.2.2.2.2.2.1
theorem d_Mo_64 {L : q_L} {π : Nat → Nat → Option Nat} {a : Nat} (ha : q_M L π a) : π a 64 = some (a + 45) := (ha.2.2.2.2.2).2.2.2.2.2.2.2.2
theorem l_uI28 {L : q_L} {π : Nat → Nat → Option Nat} {h : z_H} {a : Nat} {β : Type} {Q : β → Prop} {f : z_H → Option β} {i x : Int32} (T : x_U L π h) (ha : q_M L π a) (H : i < 600 → ∀ h', x_U L π h' → 0 ≤ i → (∀ a' k', vI h' a' k' = vI h a' k') → (∀ a' j, 0 ≤ j → vA h' a' j = if a' = a + 28 ∧ j = i then x else vA h a' j) → (∀ a', a' ≠ a + 28 → vA h' a' = vA h a') → qi (f h') Q) : qi (z_b (uI h (a + 28) 0 i x) f) Q := by
  intro r z
  obtain ⟨h', e1, e2⟩ := z_bs z
  obtain ⟨n, g, f1, f2, f3⟩ := uI_s e1
  obtain ⟨g2, w⟩ := q_arI (h := h) (a := a + 28) (t := 0) (n := 600) (by rw [T.2.2.1]; exact (ha.2.1.2.2.2.2.2.2.2.1).2.2.1) (by decide)
  rw [f1] at w
  have hn : n = 600 := by cases w; rfl
  subst hn
  have i1 : i < 600 := by
    refine Int32.not_le.mp fun q => f2 (Or.inr ?_)
    have q1 := Int32.le_iff_toInt_le.mp q
    have q2 : (600 : Int32).toInt = 600 := rfl
    rw [q2] at q1
    show 600 ≤ i.toInt.toNat
    omega
  exact l_uI (a := a + 28) (t := 0) (i := i) (x := x) T (H i1) r z
theorem x_qd {t : Int32 → Int32} {n a ic sc gr go rp : Int32} (n2 : n ≤ 1000) (c : x_lk t n a = 36) (e : x_lk t n (a + 1) = 47) : x_pat t n a ic sc gr go rp = x_pat t n (a + 1) ic sc gr go rp := by
  rw [x_q36 n2 c]
  by_cases q : go = 0
  · rw [if_pos ⟨q, e⟩, x_q47 n2 e, if_pos q, x_s11]
  · rw [if_neg (fun z => q z.1), x_q47 n2 e, x_q47 n2 e, if_neg q]
    split <;> rfl
theorem x_qdn {t : Int32 → Int32} {n a ic sc gr go rp : Int32} (tp : ∀ j, t j ≠ -1) (n2 : n ≤ 1000) (c : x_lk t n a = 36) (e : x_lk t n (a + 1) = -1) : x_pat t n a ic sc gr go rp = none := by
  rw [x_q36 n2 c, if_neg (fun z => absurd (z.2.symm.trans e) (by decide)), x_qno tp e]
  split <;> rfl
theorem x_vn0 : vp_nar .boolean 0 = 0 := by decide
theorem x_vn1 : vp_nar .boolean 1 = 1 := by decide
theorem x_n47 {c : Int32} (h : 49 ≤ c ∧ c ≤ 57) : ¬ c = 47 := by
  intro z
  subst z
  revert h
  decide
theorem x_n36 {c : Int32} (h : 49 ≤ c ∧ c ≤ 57) : ¬ c = 36 := by
  intro z
  subst z
  revert h
  decide
theorem x_adrno {c : Int32} (h1 : ¬ (49 ≤ c ∧ c ≤ 57)) (h2 : ¬ c = 36) (h3 : ¬ c = 47) : ¬ (c = 36 ∨ c = 47 ∨ (49 ≤ c ∧ c ≤ 57)) := fun z => z.elim h2 (fun z => z.elim h3 h1)
theorem x_pl0_ {c : Int32} (h1 : ¬ c = 100) (h2 : ¬ c = 68) (h3 : ¬ c = 112) (h4 : ¬ c = 80) (h5 : ¬ c = 110) (h6 : ¬ c = 78) (h7 : ¬ c = 104) (h8 : ¬ c = 72) (h9 : ¬ c = 103) (k1 : ¬ c = 71) (k2 : ¬ c = 120) (k3 : ¬ c = 61) (k4 : ¬ c = 113) : ¬ x_pl c = true := by
  intro z
  unfold x_pl at z
  simp only [Bool.or_eq_true, beq_iff_eq] at z
  rcases z with (((((((((((z | z) | z) | z) | z) | z) | z) | z) | z) | z) | z) | z) | z
  · exact h1 z
  · exact h2 z
  · exact h3 z
  · exact h4 z
  · exact h5 z
  · exact h6 z
  · exact h7 z
  · exact h8 z
  · exact h9 z
  · exact k1 z
  · exact k2 z
  · exact k3 z
  · exact k4 z
theorem x_495 {d : Int32} (e : 49 ≤ d ∧ d ≤ 51) : ¬ d = 40 ∧ ¬ d = 41 := by
  constructor <;> intro z <;> subst z <;> revert e <;> decide
