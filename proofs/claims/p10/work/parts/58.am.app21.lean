theorem zz_1d78af76f7 {a1 a2 : Int32} (h0 : a1 < a2) (h1 : (0 ≤ a2) ∧ (a2 ≤ 200)) : a1 < 200 := by simp only [Int32.le_iff_toInt_le, Int32.lt_iff_toInt_lt, ← Int32.toInt_inj, ne_eq] at *; have l0 : (0 : Int32).toInt = 0 := (by decide); have l1 : (200 : Int32).toInt = 200 := (by decide); omega
theorem zz_f3025f0f7e {a1 a2 : Int32} (h0 : a1 < a2) (h1 : 0 ≤ a1) (h2 : (0 ≤ a2) ∧ (a2 ≤ 200)) : (a1 < a1 + 1) ∧ (a1 + 1 ≤ a2) := by simp only [Int32.le_iff_toInt_le, Int32.lt_iff_toInt_lt, ← Int32.toInt_inj, ne_eq] at *; have b0 := Int32.le_toInt a1; have c0 := Int32.toInt_lt a1; have l0 : (0 : Int32).toInt = 0 := (by decide); have l1 : (200 : Int32).toInt = 200 := (by decide); have l2 : (1 : Int32).toInt = 1 := (by decide); have s0 : (a1 + 1).toInt = a1.toInt + 1 := q_tA (by decide) (by omega) (by omega); omega
theorem zz_ddc8decc92 {a1 a2 a3 : Int32} (h0 : a1 ≤ a2) (h1 : a2 < a3) (h2 : (0 ≤ a3) ∧ (a3 ≤ 200)) (h3 : (0 ≤ a1) ∧ (a1 ≤ 400)) : a1 + 1 ≤ 400 := by simp only [Int32.le_iff_toInt_le, Int32.lt_iff_toInt_lt, ← Int32.toInt_inj, ne_eq] at *; have b0 := Int32.le_toInt a1; have c0 := Int32.toInt_lt a1; have l0 : (0 : Int32).toInt = 0 := (by decide); have l1 : (200 : Int32).toInt = 200 := (by decide); have l2 : (400 : Int32).toInt = 400 := (by decide); have l3 : (1 : Int32).toInt = 1 := (by decide); have s0 : (a1 + 1).toInt = a1.toInt + 1 := q_tA (by decide) (by omega) (by omega); omega
theorem zz_d6fa92ae2a {a1 a2 a3 : Int32} (h0 : a1 ≤ a2) (h1 : a2 < a3) (h2 : (0 ≤ a3) ∧ (a3 ≤ 200)) : a1 < 400 := by simp only [Int32.le_iff_toInt_le, Int32.lt_iff_toInt_lt, ← Int32.toInt_inj, ne_eq] at *; have l0 : (0 : Int32).toInt = 0 := (by decide); have l1 : (200 : Int32).toInt = 200 := (by decide); have l2 : (400 : Int32).toInt = 400 := (by decide); omega
theorem zz_65e6828b36 {a1 a2 : Int32} (h0 : 0 ≤ a1) (h1 : a1 < a2) (h2 : (0 ≤ a2) ∧ (a2 ≤ 200)) : 0 ≤ a1 + 1 := by simp only [Int32.le_iff_toInt_le, Int32.lt_iff_toInt_lt, ← Int32.toInt_inj, ne_eq] at *; have b0 := Int32.le_toInt a1; have c0 := Int32.toInt_lt a1; have l0 : (0 : Int32).toInt = 0 := (by decide); have l1 : (200 : Int32).toInt = 200 := (by decide); have l2 : (1 : Int32).toInt = 1 := (by decide); have s0 : (a1 + 1).toInt = a1.toInt + 1 := q_tA (by decide) (by omega) (by omega); omega
theorem zz_b8e3c4b250 {a1 a2 a3 a4 : Int32} (h0 : a1 = a2) (h1 : 0 ≤ a3) (h2 : a3 < a2) (h3 : (a3 = a2 - 1) → ((a2 ≠ 0) → (a4 = 10))) (h4 : ¬ (a4 = 10)) (h5 : (0 ≤ a2) ∧ (a2 ≤ 200)) : a3 + 1 < a1 := by simp only [Int32.le_iff_toInt_le, Int32.lt_iff_toInt_lt, ← Int32.toInt_inj, ne_eq] at *; have b0 := Int32.le_toInt a2; have c0 := Int32.toInt_lt a2; have b1 := Int32.le_toInt a3; have c1 := Int32.toInt_lt a3; have l0 : (0 : Int32).toInt = 0 := (by decide); have l1 : (1 : Int32).toInt = 1 := (by decide); have l2 : (10 : Int32).toInt = 10 := (by decide); have l3 : (200 : Int32).toInt = 200 := (by decide); have s0 : (a2 - 1).toInt = a2.toInt - 1 := q_tS (by decide) (by omega) (by omega); have s1 : (a3 + 1).toInt = a3.toInt + 1 := q_tA (by decide) (by omega) (by omega); omega
theorem zz_c5914ab590 {a1 a2 a3 a4 : Int32} (h0 : a1 = a2 + 1) (h1 : a2 ≤ a3) (h2 : (0 ≤ a2) ∧ (a2 ≤ 400)) (h3 : 0 ≤ a3) (h4 : a3 < a4) (h5 : (0 ≤ a4) ∧ (a4 ≤ 200)) : a1 ≤ a3 + 1 := by simp only [Int32.le_iff_toInt_le, Int32.lt_iff_toInt_lt, ← Int32.toInt_inj, ne_eq] at *; have b0 := Int32.le_toInt a2; have c0 := Int32.toInt_lt a2; have b1 := Int32.le_toInt a3; have c1 := Int32.toInt_lt a3; have l0 : (1 : Int32).toInt = 1 := (by decide); have l1 : (0 : Int32).toInt = 0 := (by decide); have l2 : (400 : Int32).toInt = 400 := (by decide); have l3 : (200 : Int32).toInt = 200 := (by decide); have s0 : (a2 + 1).toInt = a2.toInt + 1 := q_tA (by decide) (by omega) (by omega); have s1 : (a3 + 1).toInt = a3.toInt + 1 := q_tA (by decide) (by omega) (by omega); omega
theorem zz_e8fb340edd {a1 : Int32} (h0 : (0 ≤ a1) ∧ (a1 ≤ 200)) (h1 : ¬ (a1 = 0)) : 0 ≤ a1 - 1 := by simp only [Int32.le_iff_toInt_le, Int32.lt_iff_toInt_lt, ← Int32.toInt_inj, ne_eq] at *; have b0 := Int32.le_toInt a1; have c0 := Int32.toInt_lt a1; have l0 : (0 : Int32).toInt = 0 := (by decide); have l1 : (200 : Int32).toInt = 200 := (by decide); have l2 : (1 : Int32).toInt = 1 := (by decide); have s0 : (a1 - 1).toInt = a1.toInt - 1 := q_tS (by decide) (by omega) (by omega); omega
theorem zz_6b7ebbb0df {a1 a2 a3 a4 : Int32} (h0 : a1 ≤ a2) (h1 : a3 ≤ a1 + 1) (h2 : -100000 ≤ a1) (h3 : a2 < a4) (h4 : (0 ≤ a4) ∧ (a4 ≤ 200)) (h5 : 0 ≤ a2) : a3 ≤ a2 + 1 := by simp only [Int32.le_iff_toInt_le, Int32.lt_iff_toInt_lt, ← Int32.toInt_inj, ne_eq] at *; have b0 := Int32.le_toInt a1; have c0 := Int32.toInt_lt a1; have b1 := Int32.le_toInt a2; have c1 := Int32.toInt_lt a2; have l0 : (1 : Int32).toInt = 1 := (by decide); have l1 : (-100000 : Int32).toInt = -100000 := (by decide); have l2 : (0 : Int32).toInt = 0 := (by decide); have l3 : (200 : Int32).toInt = 200 := (by decide); have s0 : (a1 + 1).toInt = a1.toInt + 1 := q_tA (by decide) (by omega) (by omega); have s1 : (a2 + 1).toInt = a2.toInt + 1 := q_tA (by decide) (by omega) (by omega); omega
theorem zz_5d8640449b {a1 a2 a3 a4 : Int32} (h0 : (a1 + 1 < a2) ∧ (a2 ≤ a3)) (h1 : a3 = a4) (h2 : 0 ≤ a1) (h3 : (0 ≤ a4) ∧ (a4 ≤ 200)) (h4 : a1 < a4) : (a1 < a2) ∧ (a2 ≤ a4) := by simp only [Int32.le_iff_toInt_le, Int32.lt_iff_toInt_lt, ← Int32.toInt_inj, ne_eq] at *; have b0 := Int32.le_toInt a1; have c0 := Int32.toInt_lt a1; have l0 : (1 : Int32).toInt = 1 := (by decide); have l1 : (0 : Int32).toInt = 0 := (by decide); have l2 : (200 : Int32).toInt = 200 := (by decide); have s0 : (a1 + 1).toInt = a1.toInt + 1 := q_tA (by decide) (by omega) (by omega); omega
set_option maxHeartbeats 2000000 in
theorem p_Mod_tellAppended_21_n {L : q_L} {W : Nat → Prop} {h0 : z_H} {π : Nat → Nat → Option Nat} {N : Nat} {Q : Int32 × z_H → Prop} {k4 : Nat → Int32 → Int32 → z_H → Option (Int32 × z_H)} {lo : Nat → Int32} (hqn : q_Q lo 201) : ∀ (n : Nat) (v0 : Nat) (v1 : Int32) (h : z_H), q_U L W h0 π h → q_M L π v0 → (∀ a, v0 ≤ a → a < v0 + 46 → W a) → (0 ≤ v1) → (v1 < vI h v0 68) → (vI h v0 67 ≤ v1) → (vI h v0 68 = 0 ∨ vA h (v0 + 42) (vI h v0 68 - 1) = 10) → (100000 ≤ N) → (lo n ≤ v1) → (∀ (x : Int32) (y1 : Int32) (h1 : z_H), q_U L W h0 π h1 → (∀ a k, ¬ (a = v0 ∧ (k = 6 ∨ k = 76 ∨ k = 69 ∨ k = 67)) → vI h1 a k = vI h a k) → (∀ a j, 0 ≤ j → ¬ (a = v0 + 43 ∨ a = v0 + 41) → vA h1 a j = vA h a j) → (v1 < x ∧ x ≤ vI h v0 68) → (y1 = 0 ∨ y1 = 1) → (y1 = 0 → vI h1 v0 76 = 1) → qk (k4 v0 x y1 h1) Q) → qk (f_Mod_tellAppended_21 N k4 n v0 v1 h) Q := by
  intro n
  induction n with
  | zero => intro v0 v1 h T kv0 wM a0 a1 w AP hN hms hk4; have rg_ap := g_Mo_68 T kv0; have hz := hqn.1; exact absurd hms (by clear hk4; grind)
  | succ n ih =>
    intro v0 v1 h T kv0 wM a0 a1 w AP hN hms hk4
    obtain ⟨hq1, hq2, hq3⟩ := hqn.2 n
    rw [f_Mod_tellAppended_21]
    have ap1 : v1 = vI h v0 68 - 1 → vI h v0 68 ≠ 0 → vA h (v0 + 42) v1 = 10 := fun e z => (by rw [e]; exact AP.resolve_left z)
    refine r_Mo_61 T kv0 ?_
    have o1 := g_Mo_68 T kv0
    refine r_Mo_e42 T kv0 a0 (zz_1d78af76f7 a1 o1) ?_
    intro x2 ex2
    subst ex2
    refine qk_if (fun cc2 => ?_) (fun cc2 => ?_)
    · skip
      refine qk_bs ?_
      refine r_Mo_o T kv0 ?_
      refine c_Mod_tell (v0 := v0) T kv0 wM hN ?_
      intro yr6 hr6 Tr6 gr6_0 gr6_1 gr6_2 gr6_3
      dsimp only
      refine qk_bs ?_
      exact hk4 (v1 + 1) (yr6) hr6 Tr6 (by show ∀ a k, ¬ (a = v0 ∧ (k = 6 ∨ k = 76 ∨ k = 69 ∨ k = 67)) → vI hr6 a k = vI h a k; intro a k n0; rw [gr6_2 a k (by omega)]) (by show ∀ a j, 0 ≤ j → ¬ (a = v0 + 43 ∨ a = v0 + 41) → vA hr6 a j = vA h a j; intro a j j0 n0; rw [gr6_3 a j j0 (by omega)]) (zz_f3025f0f7e a1 a0 o1) (zz_2eca02bf2d gr6_0) (zz_89d5dbace5 gr6_1)
    · skip
      refine r_Mo_60 T kv0 ?_
      refine r_Mo_67 T kv0 ?_
      intro x9 ex9 lx9 ux9
      subst ex9
      have o3 := g_Mo_67 T kv0
      refine w_Mo_67 T kv0 (wM _ (by omega) (by omega)) (zz_dfb12a7768 o3) (zz_ddc8decc92 w a1 o1 o3) ?_
      intro h10 Th10 ih10 ah10
      refine r_Mo_61 Th10 kv0 ?_
      refine qk_bs ?_
      refine r_Mo_e42 Th10 kv0 a0 (zz_1d78af76f7 a1 o1) ?_
      intro x13 ex13
      have sx13 : (vA h (v0 + 42) v1) = x13 := (ex13.trans (by rw [ah10 (v0 + 42) v1])).symm
      subst sx13
      refine w_Mo_e41 Th10 kv0 (wM _ (by omega) (by omega)) lx9 (zz_d6fa92ae2a w a1 o1) ?_
      intro h14 Th14 ih14 ah14
      have o4 : vI h14 v0 68 = vI h v0 68 := (by rw [ih14 v0 68, ih10 v0 68, if_neg (fun z => absurd z.2 (by decide))])
      have o5 : vI h14 v0 67 = (vI h v0 67) + 1 := (by rw [ih14 v0 67, ih10 v0 67, if_pos ⟨rfl, rfl⟩])
      refine ih (v0) ((v1 + 1)) h14 Th14 kv0 wM (zz_65e6828b36 a0 a1 o1) (zz_b8e3c4b250 o4 a0 a1 ap1 cc2 o1) (zz_c5914ab590 o5 w o3 a0 a1 o1) (by by_cases z : vI h v0 68 = 0; (left; rw [ih14 v0 68, ih10 v0 68, if_neg (fun z => absurd z.2 (by decide))]; exact z); (right; have jz : 0 ≤ vI h v0 68 - 1 := (zz_e8fb340edd o1 z); rw [ih14 v0 68, ih10 v0 68, if_neg (fun z => absurd z.2 (by decide))]; rw [ah14 (v0 + 42) (vI h v0 68 - 1) jz, if_neg (fun z => absurd z.1 (by omega)), ah10 (v0 + 42) (vI h v0 68 - 1)]; exact (AP).resolve_left z)) hN (zz_6b7ebbb0df hms hq1 hq2 a1 o1 a0) ?_
      · intro x_w6 y1_w6 h_w6 Tw6 gw6_0 gw6_1 gw6_2 gw6_3 gw6_4
        exact hk4 x_w6 y1_w6 h_w6 Tw6 (by show ∀ a k, ¬ (a = v0 ∧ (k = 6 ∨ k = 76 ∨ k = 69 ∨ k = 67)) → vI h_w6 a k = vI h a k; intro a k n0; rw [gw6_0 a k (by omega), ih14, ih10, if_neg (by omega)]) (by show ∀ a j, 0 ≤ j → ¬ (a = v0 + 43 ∨ a = v0 + 41) → vA h_w6 a j = vA h a j; intro a j j0 n0; rw [gw6_1 a j j0 (by omega), ah14 a j j0, if_neg (by omega), ah10]) (zz_5d8640449b gw6_2 o4 a0 o1 a1) (zz_2eca02bf2d gw6_3) (zz_89d5dbace5 gw6_4)
theorem p_Mod_tellAppended_21 {L : q_L} {W : Nat → Prop} {h0 : z_H} {π : Nat → Nat → Option Nat} {N : Nat} {Q : Int32 × z_H → Prop} {k4 : Nat → Int32 → Int32 → z_H → Option (Int32 × z_H)} {h : z_H} {v0 : Nat} {v1 : Int32} (T : q_U L W h0 π h) (kv0 : q_M L π v0) (wM : ∀ a, v0 ≤ a → a < v0 + 46 → W a) (a0 : 0 ≤ v1) (a1 : v1 < vI h v0 68) (w : vI h v0 67 ≤ v1) (AP : vI h v0 68 = 0 ∨ vA h (v0 + 42) (vI h v0 68 - 1) = 10) (hN : 100000 ≤ N) (hk4 : (∀ (x : Int32) (y1 : Int32) (h1 : z_H), q_U L W h0 π h1 → (∀ a k, ¬ (a = v0 ∧ (k = 6 ∨ k = 76 ∨ k = 69 ∨ k = 67)) → vI h1 a k = vI h a k) → (∀ a j, 0 ≤ j → ¬ (a = v0 + 43 ∨ a = v0 + 41) → vA h1 a j = vA h a j) → (v1 < x ∧ x ≤ vI h v0 68) → (y1 = 0 ∨ y1 = 1) → (y1 = 0 → vI h1 v0 76 = 1) → qk (k4 v0 x y1 h1) Q)) : qk (f_Mod_tellAppended_21 N k4 N v0 v1 h) Q := by
  have hq := q_qnN hN
  have rg_ap := g_Mo_68 T kv0
  refine p_Mod_tellAppended_21_n (q_lo (M := 201) (by decide) (by decide)) N v0 v1 h T kv0 wM a0 a1 w AP hN ?_ hk4
  show 201 - q_n N ≤ _
  rw [hq]
  lia
