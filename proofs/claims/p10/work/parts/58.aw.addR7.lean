theorem zz_bcd0b79e5a {a1 a2 : Int32} (h0 : (0 ≤ a1) ∧ (a1 ≤ 60)) (h1 : (-1 ≤ a2) ∧ (a2 ≤ 60)) : ((0 ≤ a1) ∧ (a2 ≤ 64)) ∨ (a2 ≤ a1) := by simp only [Int32.le_iff_toInt_le, Int32.lt_iff_toInt_lt, ← Int32.toInt_inj, ne_eq] at *; have l0 : (0 : Int32).toInt = 0 := (by decide); have l1 : (60 : Int32).toInt = 60 := (by decide); have l2 : (-1 : Int32).toInt = -1 := (by decide); have l3 : (64 : Int32).toInt = 64 := (by decide); omega
theorem zz_9112fa7b53 {a1 : Int32} (h0 : (0 ≤ a1) ∧ (a1 ≤ 60)) : -1 ≤ a1 := by simp only [Int32.le_iff_toInt_le, Int32.lt_iff_toInt_lt, ← Int32.toInt_inj, ne_eq] at *; have l0 : (0 : Int32).toInt = 0 := (by decide); have l1 : (60 : Int32).toInt = 60 := (by decide); have l2 : (-1 : Int32).toInt = -1 := (by decide); omega
theorem zz_4a6edf7fc9 {a1 : Int32} (h0 : (0 ≤ a1) ∧ (a1 ≤ 60)) : a1 ≤ 64 := by simp only [Int32.le_iff_toInt_le, Int32.lt_iff_toInt_lt, ← Int32.toInt_inj, ne_eq] at *; have l0 : (0 : Int32).toInt = 0 := (by decide); have l1 : (60 : Int32).toInt = 60 := (by decide); have l2 : (64 : Int32).toInt = 64 := (by decide); omega
theorem zz_4738bc69b3 {a1 : Int32} (h0 : 200 ≤ a1) (h1 : (-1 ≤ a1) ∧ (a1 ≤ 203)) : 0 ≤ a1 - 200 := by simp only [Int32.le_iff_toInt_le, Int32.lt_iff_toInt_lt, ← Int32.toInt_inj, ne_eq] at *; have b0 := Int32.le_toInt a1; have c0 := Int32.toInt_lt a1; have l0 : (200 : Int32).toInt = 200 := (by decide); have l1 : (-1 : Int32).toInt = -1 := (by decide); have l2 : (203 : Int32).toInt = 203 := (by decide); have l3 : (0 : Int32).toInt = 0 := (by decide); have s0 : (a1 - 200).toInt = a1.toInt - 200 := q_tS (by decide) (by omega) (by omega); omega
theorem zz_dec30d09b0 {a1 : Int32} (h0 : (-1 ≤ a1) ∧ (a1 ≤ 203)) : a1 - 200 < 4 := by simp only [Int32.le_iff_toInt_le, Int32.lt_iff_toInt_lt, ← Int32.toInt_inj, ne_eq] at *; have b0 := Int32.le_toInt a1; have c0 := Int32.toInt_lt a1; have l0 : (-1 : Int32).toInt = -1 := (by decide); have l1 : (203 : Int32).toInt = 203 := (by decide); have l2 : (200 : Int32).toInt = 200 := (by decide); have l3 : (4 : Int32).toInt = 4 := (by decide); have s0 : (a1 - 200).toInt = a1.toInt - 200 := q_tS (by decide) (by omega) (by omega); omega
theorem zz_f3d63e8d34 {a1 a2 a3 a4 : Int32} (h0 : (1 ≤ a1 - 200) → ((a1 - 200 ≤ 3) → ((a2 ≤ 0) ∨ ((0 ≤ a3) ∧ (a3 + a2 ≤ a4))))) (h1 : (-1 ≤ a1) ∧ (a1 ≤ 203)) (h2 : (0 ≤ a4) ∧ (a4 ≤ 60)) (h3 : 200 ≤ a1) (h4 : ¬ (a1 = 200)) (h5 : (-1 ≤ a3) ∧ (a3 ≤ 60)) (h6 : (-1 ≤ a2) ∧ (a2 ≤ 60)) : ((0 ≤ a3) ∧ (a3 + a2 ≤ 64)) ∨ (a3 + a2 ≤ a3) := by simp only [Int32.le_iff_toInt_le, Int32.lt_iff_toInt_lt, ← Int32.toInt_inj, ne_eq] at *; have b0 := Int32.le_toInt a1; have c0 := Int32.toInt_lt a1; have b1 := Int32.le_toInt a3; have c1 := Int32.toInt_lt a3; have b2 := Int32.le_toInt a2; have c2 := Int32.toInt_lt a2; have l0 : (1 : Int32).toInt = 1 := (by decide); have l1 : (200 : Int32).toInt = 200 := (by decide); have l2 : (3 : Int32).toInt = 3 := (by decide); have l3 : (0 : Int32).toInt = 0 := (by decide); have l4 : (-1 : Int32).toInt = -1 := (by decide); have l5 : (203 : Int32).toInt = 203 := (by decide); have l6 : (60 : Int32).toInt = 60 := (by decide); have l7 : (64 : Int32).toInt = 64 := (by decide); have s0 : (a1 - 200).toInt = a1.toInt - 200 := q_tS (by decide) (by omega) (by omega); have s1 : (a3 + a2).toInt = a3.toInt + a2.toInt := q_tA rfl (by omega) (by omega); omega
theorem zz_abca5892fc {a1 : Int32} (h0 : (-1 ≤ a1) ∧ (a1 ≤ 60)) : -1 ≤ a1 := by simp only [Int32.le_iff_toInt_le, Int32.lt_iff_toInt_lt, ← Int32.toInt_inj, ne_eq] at *; have l0 : (-1 : Int32).toInt = -1 := (by decide); have l1 : (60 : Int32).toInt = 60 := (by decide); omega
theorem zz_2da6a9e8d9 {a1 : Int32} (h0 : (-1 ≤ a1) ∧ (a1 ≤ 60)) : a1 ≤ 64 := by simp only [Int32.le_iff_toInt_le, Int32.lt_iff_toInt_lt, ← Int32.toInt_inj, ne_eq] at *; have l0 : (-1 : Int32).toInt = -1 := (by decide); have l1 : (60 : Int32).toInt = 60 := (by decide); have l2 : (64 : Int32).toInt = 64 := (by decide); omega
set_option maxHeartbeats 2000000 in
theorem p_Mod_addReplacement_7_n {L : q_L} {W : Nat → Prop} {h0 : z_H} {π : Nat → Nat → Option Nat} {N : Nat} {lo : Nat → Int32} (hqn : q_Q lo 601) : ∀ (n : Nat) (v0 : Nat) (v1 : Int32) (v2 : Int32) (h : z_H), q_U L W h0 π h → q_M L π v0 → (∀ a, v0 ≤ a → a < v0 + 46 → W a) → (0 ≤ v1) → (v1 < 80) → (0 ≤ v2) → (v2 ≤ 600) → (q_GS h v0) → (100000 ≤ N) → (lo n ≤ v2) → qk (f_Mod_addReplacement_7 N  n v0 v1 v2 h) (fun r => q_U L W h0 π r ∧ (∀ a k, ¬ (a = v0 ∧ (k = 67)) → vI r a k = vI h a k) ∧ (∀ a j, 0 ≤ j → ¬ (a = v0 + 41) → vA r a j = vA h a j)) := by
  intro n
  induction n with
  | zero => intro v0 v1 v2 h T kv0 wM s0 s1 a0 a1 GS hN hms; have hz := hqn.1; exact absurd hms (by grind)
  | succ n ih =>
    intro v0 v1 v2 h T kv0 wM s0 s1 a0 a1 GS hN hms
    obtain ⟨hq1, hq2, hq3⟩ := hqn.2 n
    rw [f_Mod_addReplacement_7]
    have gs1 : 1 ≤ vA h (v0 + 28) v2 - 200 → vA h (v0 + 28) v2 - 200 ≤ 3 → vA h (v0 + 38) (vA h (v0 + 28) v2 - 200) ≤ 0 ∨ (0 ≤ vA h (v0 + 37) (vA h (v0 + 28) v2 - 200) ∧ vA h (v0 + 37) (vA h (v0 + 28) v2 - 200) + vA h (v0 + 38) (vA h (v0 + 28) v2 - 200) ≤ vI h v0 54) := fun a b => GS _ a b
    refine r_Mo_16 T kv0 ?_
    refine r_Mo_e11 T kv0 s0 s1 ?_
    intro x2 ex2 lx2 ux2
    subst ex2
    refine qk_if (fun cc1 => ?_) (fun cc1 => ?_)
    · skip
      refine qk_some ?_
      exact ⟨T, (by clear ih; show ∀ a k, ¬ (a = v0 ∧ (k = 67)) → vI h a k = vI h a k; intro a k n0; rfl), (by clear ih; show ∀ a j, 0 ≤ j → ¬ (a = v0 + 41) → vA h a j = vA h a j; intro a j j0 n0; rfl)⟩
    · skip
      refine r_Mo_33 T kv0 ?_
      have o2 := g_Mo_e11 T kv0 v1
      refine r_Mo_e28 T kv0 a0 (zz_30342f7fc7 cc1 o2) ?_
      intro x5 ex5 lx5 ux5
      subst ex5
      refine qk_if (fun cc3 => ?_) (fun cc3 => ?_)
      · skip
        refine qk_if (fun cc4 => ?_) (fun cc4 => ?_)
        · skip
          refine r_Mo_56 T kv0 ?_
          intro x17 ex17 lx17 ux17
          subst ex17
          refine r_Mo_57 T kv0 ?_
          intro x18 ex18 lx18 ux18
          subst ex18
          refine r_Mo_o T kv0 ?_
          have o5 := g_Mo_56 T kv0
          have o6 := g_Mo_57 T kv0
          refine c_Mod_copyOf (v0 := v0) (v1 := (vI h v0 56)) (v2 := (vI h v0 57)) T kv0 wM (zz_bcd0b79e5a o5 o6) (zz_9112fa7b53 o5) (zz_4a6edf7fc9 o5) hN ?_
          intro r20 Tr20 gr20_0 gr20_1
          refine qk_bs ?_
          refine qk_mono (ih (v0) (v1) ((v2 + 1)) r20 Tr20 kv0 wM s0 s1 (zz_7c75936822 a0 a1) (zz_f82dd1d081 cc1 o2 a0 a1) (by clear ih; exact q_GS_eq GS (fun j j0 => by rw [gr20_1 (v0 + 37) j j0 (by omega)]) (fun j j0 => by rw [gr20_1 (v0 + 38) j j0 (by omega)]) (by rw [gr20_0 v0 54 (by omega)])) hN (zz_a9b30669af hms hq1 hq2 hq3 a0 a1)) ?_
          rintro hz ⟨Tz, g0, g1⟩
          try dsimp only at *
          exact ⟨Tz, (by clear ih; show ∀ a k, ¬ (a = v0 ∧ (k = 67)) → vI hz a k = vI h a k; intro a k n0; rw [g0 a k (by omega), gr20_0 a k (by omega)]), (by clear ih; show ∀ a j, 0 ≤ j → ¬ (a = v0 + 41) → vA hz a j = vA h a j; intro a j j0 n0; rw [g1 a j j0 (by omega), gr20_1 a j j0 (by omega)])⟩
        · skip
          refine r_Mo_52 T kv0 ?_
          have o8 := g_Mo_e28 T kv0 v2
          refine r_Mo_e37 T kv0 (zz_4738bc69b3 cc3 o8) (zz_dec30d09b0 o8) ?_
          intro x9 ex9 lx9 ux9
          subst ex9
          refine r_Mo_52 T kv0 ?_
          refine r_Mo_e37 T kv0 (zz_4738bc69b3 cc3 o8) (zz_dec30d09b0 o8) ?_
          intro x11 ex11 lx11 ux11
          subst ex11
          refine r_Mo_53 T kv0 ?_
          refine r_Mo_e38 T kv0 (zz_4738bc69b3 cc3 o8) (zz_dec30d09b0 o8) ?_
          intro x13 ex13 lx13 ux13
          subst ex13
          refine r_Mo_o T kv0 ?_
          have o9 := g_Mo_54 T kv0
          have o10 := g_Mo_e37 T kv0 ((vA h (v0 + 28) v2) - 200)
          have o11 := g_Mo_e38 T kv0 ((vA h (v0 + 28) v2) - 200)
          refine c_Mod_copyOf (v0 := v0) (v1 := (vA h (v0 + 37) ((vA h (v0 + 28) v2) - 200))) (v2 := ((vA h (v0 + 37) ((vA h (v0 + 28) v2) - 200)) + (vA h (v0 + 38) ((vA h (v0 + 28) v2) - 200)))) T kv0 wM (zz_f3d63e8d34 gs1 o8 o9 cc3 cc4 o10 o11) (zz_abca5892fc o10) (zz_2da6a9e8d9 o10) hN ?_
          intro r15 Tr15 gr15_0 gr15_1
          refine qk_bs ?_
          refine qk_mono (ih (v0) (v1) ((v2 + 1)) r15 Tr15 kv0 wM s0 s1 (zz_7c75936822 a0 a1) (zz_f82dd1d081 cc1 o2 a0 a1) (by clear ih; exact q_GS_eq GS (fun j j0 => by rw [gr15_1 (v0 + 37) j j0 (by omega)]) (fun j j0 => by rw [gr15_1 (v0 + 38) j j0 (by omega)]) (by rw [gr15_0 v0 54 (by omega)])) hN (zz_a9b30669af hms hq1 hq2 hq3 a0 a1)) ?_
          rintro hz ⟨Tz, g0, g1⟩
          try dsimp only at *
          exact ⟨Tz, (by clear ih; show ∀ a k, ¬ (a = v0 ∧ (k = 67)) → vI hz a k = vI h a k; intro a k n0; rw [g0 a k (by omega), gr15_0 a k (by omega)]), (by clear ih; show ∀ a j, 0 ≤ j → ¬ (a = v0 + 41) → vA hz a j = vA h a j; intro a j j0 n0; rw [g1 a j j0 (by omega), gr15_1 a j j0 (by omega)])⟩
      · skip
        refine r_Mo_o T kv0 ?_
        refine c_Mod_add (v0 := v0) (v1 := (vA h (v0 + 28) v2)) T kv0 wM ?_
        intro r23 Tr23 gr23_0 gr23_1
        refine qk_bs ?_
        refine qk_mono (ih (v0) (v1) ((v2 + 1)) r23 Tr23 kv0 wM s0 s1 (zz_7c75936822 a0 a1) (zz_f82dd1d081 cc1 o2 a0 a1) (by clear ih; exact q_GS_eq GS (fun j j0 => by rw [gr23_1 (v0 + 37) j j0 (by omega)]) (fun j j0 => by rw [gr23_1 (v0 + 38) j j0 (by omega)]) (by rw [gr23_0 v0 54 (by omega)])) hN (zz_a9b30669af hms hq1 hq2 hq3 a0 a1)) ?_
        rintro hz ⟨Tz, g0, g1⟩
        try dsimp only at *
        exact ⟨Tz, (by clear ih; show ∀ a k, ¬ (a = v0 ∧ (k = 67)) → vI hz a k = vI h a k; intro a k n0; rw [g0 a k (by omega), gr23_0 a k (by omega)]), (by clear ih; show ∀ a j, 0 ≤ j → ¬ (a = v0 + 41) → vA hz a j = vA h a j; intro a j j0 n0; rw [g1 a j j0 (by omega), gr23_1 a j j0 (by omega)])⟩
theorem p_Mod_addReplacement_7 {L : q_L} {W : Nat → Prop} {h0 : z_H} {π : Nat → Nat → Option Nat} {N : Nat} {h : z_H} {v0 : Nat} {v1 : Int32} {v2 : Int32} (T : q_U L W h0 π h) (kv0 : q_M L π v0) (wM : ∀ a, v0 ≤ a → a < v0 + 46 → W a) (s0 : 0 ≤ v1) (s1 : v1 < 80) (a0 : 0 ≤ v2) (a1 : v2 ≤ 600) (GS : q_GS h v0) (hN : 100000 ≤ N) : qk (f_Mod_addReplacement_7 N  N v0 v1 v2 h) (fun r => q_U L W h0 π r ∧ (∀ a k, ¬ (a = v0 ∧ (k = 67)) → vI r a k = vI h a k) ∧ (∀ a j, 0 ≤ j → ¬ (a = v0 + 41) → vA r a j = vA h a j)) := by
  have hq := q_qnN hN
  refine p_Mod_addReplacement_7_n (q_lo (M := 601) (by decide) (by decide)) N v0 v1 v2 h T kv0 wM s0 s1 a0 a1 GS hN ?_ 
  show 601 - q_n N ≤ _
  rw [hq]
  lia
