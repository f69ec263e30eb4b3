theorem zz_9f87f16f53 {a1 a2 : Int32} (h0 : ((0 ≤ a1) ∧ (a2 ≤ 64)) ∨ (a2 ≤ a1)) (h1 : ¬ (a2 ≤ a1)) : 0 ≤ a1 := by simp only [Int32.le_iff_toInt_le, Int32.lt_iff_toInt_lt, ← Int32.toInt_inj, ne_eq] at *; have l0 : (0 : Int32).toInt = 0 := (by decide); have l1 : (64 : Int32).toInt = 64 := (by decide); omega
theorem zz_85e5a94c07 {a1 a2 : Int32} (h0 : ((0 ≤ a1) ∧ (a2 ≤ 64)) ∨ (a2 ≤ a1)) (h1 : ¬ (a2 ≤ a1)) : a1 < 64 := by simp only [Int32.le_iff_toInt_le, Int32.lt_iff_toInt_lt, ← Int32.toInt_inj, ne_eq] at *; have l0 : (0 : Int32).toInt = 0 := (by decide); have l1 : (64 : Int32).toInt = 64 := (by decide); omega
theorem zz_277344b802 {a1 a2 : Int32} (h0 : ((0 ≤ a1) ∧ (a2 ≤ 64)) ∨ (a2 ≤ a1)) (h1 : -1 ≤ a1) (h2 : a1 ≤ 64) : ((0 ≤ a1 + 1) ∧ (a2 ≤ 64)) ∨ (a2 ≤ a1 + 1) := by simp only [Int32.le_iff_toInt_le, Int32.lt_iff_toInt_lt, ← Int32.toInt_inj, ne_eq] at *; have b0 := Int32.le_toInt a1; have c0 := Int32.toInt_lt a1; have l0 : (0 : Int32).toInt = 0 := (by decide); have l1 : (64 : Int32).toInt = 64 := (by decide); have l2 : (-1 : Int32).toInt = -1 := (by decide); have l3 : (1 : Int32).toInt = 1 := (by decide); have s0 : (a1 + 1).toInt = a1.toInt + 1 := q_tA (by decide) (by omega) (by omega); omega
theorem zz_61a41ebf17 {a1 : Int32} (h0 : -1 ≤ a1) (h1 : a1 ≤ 64) : -1 ≤ a1 + 1 := by simp only [Int32.le_iff_toInt_le, Int32.lt_iff_toInt_lt, ← Int32.toInt_inj, ne_eq] at *; have b0 := Int32.le_toInt a1; have c0 := Int32.toInt_lt a1; have l0 : (-1 : Int32).toInt = -1 := (by decide); have l1 : (64 : Int32).toInt = 64 := (by decide); have l2 : (1 : Int32).toInt = 1 := (by decide); have s0 : (a1 + 1).toInt = a1.toInt + 1 := q_tA (by decide) (by omega) (by omega); omega
theorem zz_626b3ec1c2 {a1 a2 : Int32} (h0 : ((0 ≤ a1) ∧ (a2 ≤ 64)) ∨ (a2 ≤ a1)) (h1 : ¬ (a2 ≤ a1)) (h2 : -1 ≤ a1) (h3 : a1 ≤ 64) : a1 + 1 ≤ 64 := by simp only [Int32.le_iff_toInt_le, Int32.lt_iff_toInt_lt, ← Int32.toInt_inj, ne_eq] at *; have b0 := Int32.le_toInt a1; have c0 := Int32.toInt_lt a1; have l0 : (0 : Int32).toInt = 0 := (by decide); have l1 : (64 : Int32).toInt = 64 := (by decide); have l2 : (-1 : Int32).toInt = -1 := (by decide); have l3 : (1 : Int32).toInt = 1 := (by decide); have s0 : (a1 + 1).toInt = a1.toInt + 1 := q_tA (by decide) (by omega) (by omega); omega
theorem zz_8249820499 {a1 a2 a3 : Int32} (h0 : a1 ≤ a2) (h1 : a3 ≤ a1 + 1) (h2 : -100000 ≤ a1) (h3 : a1 ≤ 100000) (h4 : -1 ≤ a2) (h5 : a2 ≤ 64) : a3 ≤ a2 + 1 := by simp only [Int32.le_iff_toInt_le, Int32.lt_iff_toInt_lt, ← Int32.toInt_inj, ne_eq] at *; have b0 := Int32.le_toInt a1; have c0 := Int32.toInt_lt a1; have b1 := Int32.le_toInt a2; have c1 := Int32.toInt_lt a2; have l0 : (1 : Int32).toInt = 1 := (by decide); have l1 : (-100000 : Int32).toInt = -100000 := (by decide); have l2 : (100000 : Int32).toInt = 100000 := (by decide); have l3 : (-1 : Int32).toInt = -1 := (by decide); have l4 : (64 : Int32).toInt = 64 := (by decide); have s0 : (a1 + 1).toInt = a1.toInt + 1 := q_tA (by decide) (by omega) (by omega); have s1 : (a2 + 1).toInt = a2.toInt + 1 := q_tA (by decide) (by omega) (by omega); omega
set_option maxHeartbeats 1000000 in
theorem p_Mod_copyOf_2_n {L : q_L} {W : Nat → Prop} {h0 : z_H} {π : Nat → Nat → Option Nat} {N : Nat} {lo : Nat → Int32} (hqn : q_Q lo 65) : ∀ (n : Nat) (v0 : Nat) (v2 : Int32) (v3 : Int32) (h : z_H), q_U L W h0 π h → q_M L π v0 → (∀ a, v0 ≤ a → a < v0 + 46 → W a) → ((0 ≤ v3 ∧ v2 ≤ 64) ∨ v2 ≤ v3) → (-1 ≤ v3) → (v3 ≤ 64) → (lo n ≤ v3) → qk (f_Mod_copyOf_2 N  n v0 v2 v3 h) (fun r => q_U L W h0 π r ∧ (∀ a k, ¬ (a = v0 ∧ (k = 67)) → vI r a k = vI h a k) ∧ (∀ a j, 0 ≤ j → ¬ (a = v0 + 41) → vA r a j = vA h a j)) := by
  intro n
  induction n with
  | zero => intro v0 v2 v3 h T kv0 wM c c0 c1 hms; have hz := hqn.1; exact absurd hms (by grind)
  | succ n ih =>
    intro v0 v2 v3 h T kv0 wM c c0 c1 hms
    obtain ⟨hq1, hq2, hq3⟩ := hqn.2 n
    rw [f_Mod_copyOf_2]
    refine qk_if (fun cc1 => ?_) (fun cc1 => ?_)
    · skip
      refine qk_some ?_
      exact ⟨T, (by clear ih; show ∀ a k, ¬ (a = v0 ∧ (k = 67)) → vI h a k = vI h a k; intro a k n0; rfl), (by clear ih; show ∀ a j, 0 ≤ j → ¬ (a = v0 + 41) → vA h a j = vA h a j; intro a j j0 n0; rfl)⟩
    · skip
      refine r_Mo_51 T kv0 ?_
      refine r_Mo_e36 T kv0 (zz_9f87f16f53 c cc1) (zz_85e5a94c07 c cc1) ?_
      intro x3 ex3
      subst ex3
      refine r_Mo_o T kv0 ?_
      refine c_Mod_add (v0 := v0) (v1 := (vA h (v0 + 36) v3)) T kv0 wM ?_
      intro r5 Tr5 gr5_0 gr5_1
      refine qk_bs ?_
      refine qk_mono (ih (v0) (v2) ((v3 + 1)) r5 Tr5 kv0 wM (zz_277344b802 c c0 c1) (zz_61a41ebf17 c0 c1) (zz_626b3ec1c2 c cc1 c0 c1) (zz_8249820499 hms hq1 hq2 hq3 c0 c1)) ?_
      rintro hz ⟨Tz, g0, g1⟩
      try dsimp only at *
      exact ⟨Tz, (by clear ih; show ∀ a k, ¬ (a = v0 ∧ (k = 67)) → vI hz a k = vI h a k; intro a k n0; rw [g0 a k (by omega), gr5_0 a k (by omega)]), (by clear ih; show ∀ a j, 0 ≤ j → ¬ (a = v0 + 41) → vA hz a j = vA h a j; intro a j j0 n0; rw [g1 a j j0 (by omega), gr5_1 a j j0 (by omega)])⟩
theorem p_Mod_copyOf_2 {L : q_L} {W : Nat → Prop} {h0 : z_H} {π : Nat → Nat → Option Nat} {N : Nat} {h : z_H} {v0 : Nat} {v2 : Int32} {v3 : Int32} (T : q_U L W h0 π h) (kv0 : q_M L π v0) (wM : ∀ a, v0 ≤ a → a < v0 + 46 → W a) (c : (0 ≤ v3 ∧ v2 ≤ 64) ∨ v2 ≤ v3) (c0 : -1 ≤ v3) (c1 : v3 ≤ 64) (hN : 100000 ≤ N) : qk (f_Mod_copyOf_2 N  N v0 v2 v3 h) (fun r => q_U L W h0 π r ∧ (∀ a k, ¬ (a = v0 ∧ (k = 67)) → vI r a k = vI h a k) ∧ (∀ a j, 0 ≤ j → ¬ (a = v0 + 41) → vA r a j = vA h a j)) := by
  have hq := q_qnN hN
  refine p_Mod_copyOf_2_n (q_lo (M := 65) (by decide) (by decide)) N v0 v2 v3 h T kv0 wM c c0 c1 ?_ 
  show 65 - q_n N ≤ _
  rw [hq]
  lia
