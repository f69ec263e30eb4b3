theorem zz_e10c3f89c8 {a1 a2 a3 a4 : Int32} (h0 : a1 + a2 ≤ a3) (h1 : a4 ≤ a2 + 300) (h2 : ¬ (a4 ≤ a3)) (h3 : (0 ≤ a2) ∧ (a2 ≤ 600)) (h4 : (0 ≤ a1) ∧ (a1 ≤ 400)) : a1 + 1 ≤ 400 := by simp only [Int32.le_iff_toInt_le, Int32.lt_iff_toInt_lt, ← Int32.toInt_inj, ne_eq] at *; have b0 := Int32.le_toInt a1; have c0 := Int32.toInt_lt a1; have b1 := Int32.le_toInt a2; have c1 := Int32.toInt_lt a2; have l0 : (300 : Int32).toInt = 300 := (by decide); have l1 : (0 : Int32).toInt = 0 := (by decide); have l2 : (600 : Int32).toInt = 600 := (by decide); have l3 : (400 : Int32).toInt = 400 := (by decide); have l4 : (1 : Int32).toInt = 1 := (by decide); have s0 : (a1 + a2).toInt = a1.toInt + a2.toInt := q_tA rfl (by omega) (by omega); have s1 : (a2 + 300).toInt = a2.toInt + 300 := q_tA (by decide) (by omega) (by omega); have s2 : (a1 + 1).toInt = a1.toInt + 1 := q_tA (by decide) (by omega) (by omega); omega
theorem zz_30342f7fc7 {a1 a2 : Int32} (h0 : ¬ (a1 ≤ a2)) (h1 : (0 ≤ a1) ∧ (a1 ≤ 600)) : a2 < 600 := by simp only [Int32.le_iff_toInt_le, Int32.lt_iff_toInt_lt, ← Int32.toInt_inj, ne_eq] at *; have l0 : (0 : Int32).toInt = 0 := (by decide); have l1 : (600 : Int32).toInt = 600 := (by decide); omega
theorem zz_6243f366df {a1 a2 a3 a4 : Int32} (h0 : a1 + a2 ≤ a3) (h1 : a4 ≤ a2 + 300) (h2 : ¬ (a4 ≤ a3)) (h3 : (0 ≤ a2) ∧ (a2 ≤ 600)) (h4 : (0 ≤ a1) ∧ (a1 ≤ 400)) : a1 < 400 := by simp only [Int32.le_iff_toInt_le, Int32.lt_iff_toInt_lt, ← Int32.toInt_inj, ne_eq] at *; have b0 := Int32.le_toInt a1; have c0 := Int32.toInt_lt a1; have b1 := Int32.le_toInt a2; have c1 := Int32.toInt_lt a2; have l0 : (300 : Int32).toInt = 300 := (by decide); have l1 : (0 : Int32).toInt = 0 := (by decide); have l2 : (600 : Int32).toInt = 600 := (by decide); have l3 : (400 : Int32).toInt = 400 := (by decide); have s0 : (a1 + a2).toInt = a1.toInt + a2.toInt := q_tA rfl (by omega) (by omega); have s1 : (a2 + 300).toInt = a2.toInt + 300 := q_tA (by decide) (by omega) (by omega); omega
theorem zz_cb0bdadb1e {a1 a2 a3 a4 : Int32} (h0 : a1 = a2) (h1 : a3 = a4) (h2 : a2 ≤ a4 + 300) (h3 : (0 ≤ a4) ∧ (a4 ≤ 600)) : a1 ≤ a3 + 300 := by simp only [Int32.le_iff_toInt_le, Int32.lt_iff_toInt_lt, ← Int32.toInt_inj, ne_eq] at *; have b0 := Int32.le_toInt a4; have c0 := Int32.toInt_lt a4; have b1 := Int32.le_toInt a3; have c1 := Int32.toInt_lt a3; have l0 : (300 : Int32).toInt = 300 := (by decide); have l1 : (0 : Int32).toInt = 0 := (by decide); have l2 : (600 : Int32).toInt = 600 := (by decide); have s0 : (a4 + 300).toInt = a4.toInt + 300 := q_tA (by decide) (by omega) (by omega); have s1 : (a3 + 300).toInt = a3.toInt + 300 := q_tA (by decide) (by omega) (by omega); omega
theorem zz_4bc5db5692 {a1 a2 a3 a4 : Int32} (h0 : a1 = a2) (h1 : a2 ≤ a3) (h2 : 0 ≤ a3) (h3 : (0 ≤ a4) ∧ (a4 ≤ 600)) (h4 : ¬ (a4 ≤ a3)) : a1 ≤ a3 + 1 := by simp only [Int32.le_iff_toInt_le, Int32.lt_iff_toInt_lt, ← Int32.toInt_inj, ne_eq] at *; have b0 := Int32.le_toInt a3; have c0 := Int32.toInt_lt a3; have l0 : (0 : Int32).toInt = 0 := (by decide); have l1 : (600 : Int32).toInt = 600 := (by decide); have l2 : (1 : Int32).toInt = 1 := (by decide); have s0 : (a3 + 1).toInt = a3.toInt + 1 := q_tA (by decide) (by omega) (by omega); omega
theorem zz_f82dd1d081 {a1 a2 : Int32} (h0 : ¬ (a1 ≤ a2)) (h1 : (0 ≤ a1) ∧ (a1 ≤ 600)) (h2 : 0 ≤ a2) (h3 : a2 ≤ 600) : a2 + 1 ≤ 600 := by simp only [Int32.le_iff_toInt_le, Int32.lt_iff_toInt_lt, ← Int32.toInt_inj, ne_eq] at *; have b0 := Int32.le_toInt a2; have c0 := Int32.toInt_lt a2; have l0 : (0 : Int32).toInt = 0 := (by decide); have l1 : (600 : Int32).toInt = 600 := (by decide); have l2 : (1 : Int32).toInt = 1 := (by decide); have s0 : (a2 + 1).toInt = a2.toInt + 1 := q_tA (by decide) (by omega) (by omega); omega
theorem zz_21e57dc51f {a1 a2 a3 a4 a5 a6 : Int32} (h0 : a1 = a2 + 1) (h1 : a3 = a4) (h2 : a2 + a4 ≤ a5) (h3 : (0 ≤ a2) ∧ (a2 ≤ 400)) (h4 : (0 ≤ a4) ∧ (a4 ≤ 600)) (h5 : 0 ≤ a5) (h6 : (0 ≤ a6) ∧ (a6 ≤ 600)) (h7 : ¬ (a6 ≤ a5)) : a1 + a3 ≤ a5 + 1 := by simp only [Int32.le_iff_toInt_le, Int32.lt_iff_toInt_lt, ← Int32.toInt_inj, ne_eq] at *; have b0 := Int32.le_toInt a2; have c0 := Int32.toInt_lt a2; have b1 := Int32.le_toInt a4; have c1 := Int32.toInt_lt a4; have b2 := Int32.le_toInt a1; have c2 := Int32.toInt_lt a1; have b3 := Int32.le_toInt a3; have c3 := Int32.toInt_lt a3; have b4 := Int32.le_toInt a5; have c4 := Int32.toInt_lt a5; have l0 : (1 : Int32).toInt = 1 := (by decide); have l1 : (0 : Int32).toInt = 0 := (by decide); have l2 : (400 : Int32).toInt = 400 := (by decide); have l3 : (600 : Int32).toInt = 600 := (by decide); have s0 : (a2 + 1).toInt = a2.toInt + 1 := q_tA (by decide) (by omega) (by omega); have s1 : (a2 + a4).toInt = a2.toInt + a4.toInt := q_tA rfl (by omega) (by omega); have s2 : (a1 + a3).toInt = a1.toInt + a3.toInt := q_tA rfl (by omega) (by omega); have s3 : (a5 + 1).toInt = a5.toInt + 1 := q_tA (by decide) (by omega) (by omega); omega
set_option maxHeartbeats 1000000 in
theorem p_Mod_tellText_12_n {L : q_L} {W : Nat → Prop} {h0 : z_H} {π : Nat → Nat → Option Nat} {N : Nat} {lo : Nat → Int32} (hqn : q_Q lo 601) : ∀ (n : Nat) (v0 : Nat) (v1 : Int32) (v2 : Int32) (h : z_H), q_U L W h0 π h → q_M L π v0 → (∀ a, v0 ≤ a → a < v0 + 46 → W a) → (0 ≤ v1) → (v1 < 80) → (vA h (v0 + 11) v1 ≤ vA h (v0 + 10) v1 + 300) → (0 ≤ v2) → (vA h (v0 + 10) v1 ≤ v2) → (v2 ≤ 600) → (vI h v0 67 + vA h (v0 + 10) v1 ≤ v2) → (100000 ≤ N) → (lo n ≤ v2) → qk (f_Mod_tellText_12 N  n v0 v1 v2 h) (fun r => q_U L W h0 π r.2 ∧ (r.1 = 0 ∨ r.1 = 1) ∧ (r.1 = 0 → vI r.2 v0 76 = 1) ∧ (∀ a k, ¬ (a = v0 ∧ (k = 6 ∨ k = 76 ∨ k = 69 ∨ k = 67)) → vI r.2 a k = vI h a k) ∧ (∀ a j, 0 ≤ j → ¬ (a = v0 + 43 ∨ a = v0 + 41) → vA r.2 a j = vA h a j)) := by
  intro n
  induction n with
  | zero => intro v0 v1 v2 h T kv0 wM s0 s1 tf a00 a0 a1 w hN hms; have hz := hqn.1; exact absurd hms (by grind)
  | succ n ih =>
    intro v0 v1 v2 h T kv0 wM s0 s1 tf a00 a0 a1 w hN hms
    obtain ⟨hq1, hq2, hq3⟩ := hqn.2 n
    rw [f_Mod_tellText_12]
    refine r_Mo_16 T kv0 ?_
    refine r_Mo_e11 T kv0 s0 s1 ?_
    intro x2 ex2 lx2 ux2
    subst ex2
    refine qk_if (fun cc1 => ?_) (fun cc1 => ?_)
    · skip
      refine r_Mo_o T kv0 ?_
      refine c_Mod_tell (v0 := v0) T kv0 wM hN ?_
      intro yr5 hr5 Tr5 gr5_0 gr5_1 gr5_2 gr5_3
      dsimp only
      refine qk_zB (by clear ih; first | with_reducible assumption | grind | lia) ?_
      refine qk_some ?_
      exact ⟨Tr5, (zz_2eca02bf2d gr5_0), (zz_89d5dbace5 gr5_1), (by clear ih; show ∀ a k, ¬ (a = v0 ∧ (k = 6 ∨ k = 76 ∨ k = 69 ∨ k = 67)) → vI hr5 a k = vI h a k; intro a k n0; rw [gr5_2 a k (by omega)]), (by clear ih; show ∀ a j, 0 ≤ j → ¬ (a = v0 + 43 ∨ a = v0 + 41) → vA hr5 a j = vA h a j; intro a j j0 n0; rw [gr5_3 a j j0 (by omega)])⟩
    · skip
      refine r_Mo_60 T kv0 ?_
      refine r_Mo_67 T kv0 ?_
      intro x8 ex8 lx8 ux8
      subst ex8
      have o2 := g_Mo_67 T kv0
      have o3 := g_Mo_e10 T kv0 v1
      refine w_Mo_67 T kv0 (wM _ (by omega) (by omega)) (zz_dfb12a7768 o2) (zz_e10c3f89c8 w tf cc1 o3 o2) ?_
      intro h9 Th9 ih9 ah9
      refine r_Mo_33 Th9 kv0 ?_
      have o4 := g_Mo_e11 T kv0 v1
      refine r_Mo_e28 Th9 kv0 a00 (zz_30342f7fc7 cc1 o4) ?_
      intro x11 ex11 lx11 ux11
      have sx11 : (vA h (v0 + 28) v2) = x11 := (ex11.trans (by rw [ah9 (v0 + 28) v2])).symm
      subst sx11
      refine w_Mo_e41 Th9 kv0 (wM _ (by omega) (by omega)) lx8 (zz_6243f366df w tf cc1 o3 o2) ?_
      intro h12 Th12 ih12 ah12
      refine qk_bs ?_
      have o5 : vA h12 (v0 + 11) v1 = vA h (v0 + 11) v1 := (by rw [ah12 (v0 + 11) v1 s0, if_neg (fun z => absurd z.1 (by omega)), ah9 (v0 + 11) v1])
      have o6 : vA h12 (v0 + 10) v1 = vA h (v0 + 10) v1 := (by rw [ah12 (v0 + 10) v1 s0, if_neg (fun z => absurd z.1 (by omega)), ah9 (v0 + 10) v1])
      have o7 : vI h12 v0 67 = (vI h v0 67) + 1 := (by rw [ih12 v0 67, ih9 v0 67, if_pos ⟨rfl, rfl⟩])
      refine qk_mono (ih (v0) (v1) ((v2 + 1)) h12 Th12 kv0 wM s0 s1 (zz_cb0bdadb1e o5 o6 tf o3) (zz_7c75936822 a00 a1) (zz_4bc5db5692 o6 a0 a00 o4 cc1) (zz_f82dd1d081 cc1 o4 a00 a1) (zz_21e57dc51f o7 o6 w o2 o3 a00 o4 cc1) hN (zz_a9b30669af hms hq1 hq2 hq3 a00 a1)) ?_
      rintro ⟨y, hz⟩ ⟨Tz, g0, g1, g2, g3⟩
      try dsimp only at *
      exact ⟨Tz, (zz_2eca02bf2d g0), (zz_89d5dbace5 g1), (by clear ih; show ∀ a k, ¬ (a = v0 ∧ (k = 6 ∨ k = 76 ∨ k = 69 ∨ k = 67)) → vI hz a k = vI h a k; intro a k n0; rw [g2 a k (by omega), ih12, ih9, if_neg (by omega)]), (by clear ih; show ∀ a j, 0 ≤ j → ¬ (a = v0 + 43 ∨ a = v0 + 41) → vA hz a j = vA h a j; intro a j j0 n0; rw [g3 a j j0 (by omega), ah12 a j j0, if_neg (by omega), ah9])⟩
theorem p_Mod_tellText_12 {L : q_L} {W : Nat → Prop} {h0 : z_H} {π : Nat → Nat → Option Nat} {N : Nat} {h : z_H} {v0 : Nat} {v1 : Int32} {v2 : Int32} (T : q_U L W h0 π h) (kv0 : q_M L π v0) (wM : ∀ a, v0 ≤ a → a < v0 + 46 → W a) (s0 : 0 ≤ v1) (s1 : v1 < 80) (tf : vA h (v0 + 11) v1 ≤ vA h (v0 + 10) v1 + 300) (a00 : 0 ≤ v2) (a0 : vA h (v0 + 10) v1 ≤ v2) (a1 : v2 ≤ 600) (w : vI h v0 67 + vA h (v0 + 10) v1 ≤ v2) (hN : 100000 ≤ N) : qk (f_Mod_tellText_12 N  N v0 v1 v2 h) (fun r => q_U L W h0 π r.2 ∧ (r.1 = 0 ∨ r.1 = 1) ∧ (r.1 = 0 → vI r.2 v0 76 = 1) ∧ (∀ a k, ¬ (a = v0 ∧ (k = 6 ∨ k = 76 ∨ k = 69 ∨ k = 67)) → vI r.2 a k = vI h a k) ∧ (∀ a j, 0 ≤ j → ¬ (a = v0 + 43 ∨ a = v0 + 41) → vA r.2 a j = vA h a j)) := by
  have hq := q_qnN hN
  refine p_Mod_tellText_12_n (q_lo (M := 601) (by decide) (by decide)) N v0 v1 v2 h T kv0 wM s0 s1 tf a00 a0 a1 w hN ?_ 
  show 601 - q_n N ≤ _
  rw [hq]
  lia
