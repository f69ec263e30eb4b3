theorem zz_4128cd1b0e {a1 : Int32} (h0 : 0 ≤ a1) (h1 : a1 < 60) : a1 + 1 = a1 + 1 := by lia
theorem zz_67739fb8b0 {a1 a2 : Int32} (h0 : (0 ≤ a1) ∧ (a1 ≤ 600)) (h1 : 0 ≤ a2) (h2 : a2 ≤ 600) : 0 ≤ a1 + a2 := by simp only [Int32.le_iff_toInt_le, Int32.lt_iff_toInt_lt, ← Int32.toInt_inj, ne_eq] at *; have b0 := Int32.le_toInt a1; have c0 := Int32.toInt_lt a1; have b1 := Int32.le_toInt a2; have c1 := Int32.toInt_lt a2; have l0 : (0 : Int32).toInt = 0 := (by decide); have l1 : (600 : Int32).toInt = 600 := (by decide); have s0 : (a1 + a2).toInt = a1.toInt + a2.toInt := q_tA rfl (by omega) (by omega); omega
theorem zz_1b5b017131 {a1 a2 a3 a4 a5 : Int32} (h0 : a1 = a2 + (a2 - a3)) (h1 : (0 ≤ a1) ∧ (a1 ≤ 600)) (h2 : a4 = a2 - a3) (h3 : 0 ≤ a5) (h4 : ¬ (a4 ≤ a5)) (h5 : (0 ≤ a2) ∧ (a2 ≤ 600)) (h6 : (0 ≤ a3) ∧ (a3 ≤ 600)) (h7 : a5 ≤ 600) : a3 + a5 < 600 := by simp only [Int32.le_iff_toInt_le, Int32.lt_iff_toInt_lt, ← Int32.toInt_inj, ne_eq] at *; have b0 := Int32.le_toInt a2; have c0 := Int32.toInt_lt a2; have b1 := Int32.le_toInt a3; have c1 := Int32.toInt_lt a3; have b2 := Int32.le_toInt a5; have c2 := Int32.toInt_lt a5; have l0 : (0 : Int32).toInt = 0 := (by decide); have l1 : (600 : Int32).toInt = 600 := (by decide); have s0 : (a2 - a3).toInt = a2.toInt - a3.toInt := q_tS rfl (by omega) (by omega); have s1 : (a2 + (a2 - a3)).toInt = a2.toInt + (a2 - a3).toInt := q_tA rfl (by omega) (by omega); have s2 : (a3 + a5).toInt = a3.toInt + a5.toInt := q_tA rfl (by omega) (by omega); omega
theorem zz_34a918e7d9 {a1 a2 a3 a4 a5 : Int32} (h0 : a1 = a2 + (a2 - a3)) (h1 : (0 ≤ a1) ∧ (a1 ≤ 600)) (h2 : a4 = a2 - a3) (h3 : ¬ (a4 ≤ a5)) (h4 : (0 ≤ a2) ∧ (a2 ≤ 600)) (h5 : (0 ≤ a3) ∧ (a3 ≤ 600)) (h6 : 0 ≤ a5) (h7 : a5 ≤ 600) : a2 + a5 < 600 := by simp only [Int32.le_iff_toInt_le, Int32.lt_iff_toInt_lt, ← Int32.toInt_inj, ne_eq] at *; have b0 := Int32.le_toInt a2; have c0 := Int32.toInt_lt a2; have b1 := Int32.le_toInt a3; have c1 := Int32.toInt_lt a3; have b2 := Int32.le_toInt a5; have c2 := Int32.toInt_lt a5; have l0 : (0 : Int32).toInt = 0 := (by decide); have l1 : (600 : Int32).toInt = 600 := (by decide); have s0 : (a2 - a3).toInt = a2.toInt - a3.toInt := q_tS rfl (by omega) (by omega); have s1 : (a2 + (a2 - a3)).toInt = a2.toInt + (a2 - a3).toInt := q_tA rfl (by omega) (by omega); have s2 : (a2 + a5).toInt = a2.toInt + a5.toInt := q_tA rfl (by omega) (by omega); omega
theorem zz_200f353d78 {a1 : Int32} (h0 : a1 < 60) : a1 < 64 := by simp only [Int32.le_iff_toInt_le, Int32.lt_iff_toInt_lt, ← Int32.toInt_inj, ne_eq] at *; have l0 : (60 : Int32).toInt = 60 := (by decide); have l1 : (64 : Int32).toInt = 64 := (by decide); omega
theorem zz_d40fcccc31 {a1 a2 a3 a4 a5 a6 : Int32} (h0 : a1 = a2) (h1 : a3 = a4) (h2 : a5 = a6) (h3 : a2 = a4 + (a4 - a6)) (h4 : (0 ≤ a4) ∧ (a4 ≤ 600)) (h5 : (0 ≤ a6) ∧ (a6 ≤ 600)) : a1 = a3 + (a3 - a5) := by simp only [Int32.le_iff_toInt_le, Int32.lt_iff_toInt_lt, ← Int32.toInt_inj, ne_eq] at *; have b0 := Int32.le_toInt a4; have c0 := Int32.toInt_lt a4; have b1 := Int32.le_toInt a6; have c1 := Int32.toInt_lt a6; have b2 := Int32.le_toInt a3; have c2 := Int32.toInt_lt a3; have b3 := Int32.le_toInt a5; have c3 := Int32.toInt_lt a5; have l0 : (0 : Int32).toInt = 0 := (by decide); have l1 : (600 : Int32).toInt = 600 := (by decide); have s0 : (a4 - a6).toInt = a4.toInt - a6.toInt := q_tS rfl (by omega) (by omega); have s1 : (a4 + (a4 - a6)).toInt = a4.toInt + (a4 - a6).toInt := q_tA rfl (by omega) (by omega); have s2 : (a3 - a5).toInt = a3.toInt - a5.toInt := q_tS rfl (by omega) (by omega); have s3 : (a3 + (a3 - a5)).toInt = a3.toInt + (a3 - a5).toInt := q_tA rfl (by omega) (by omega); omega
theorem zz_ad8ba09189 {a1 a2 a3 a4 a5 : Int32} (h0 : a1 = a2) (h1 : a3 = a4) (h2 : a5 = a2 - a4) (h3 : (0 ≤ a2) ∧ (a2 ≤ 600)) (h4 : (0 ≤ a4) ∧ (a4 ≤ 600)) : a5 = a1 - a3 := by simp only [Int32.le_iff_toInt_le, Int32.lt_iff_toInt_lt, ← Int32.toInt_inj, ne_eq] at *; have b0 := Int32.le_toInt a2; have c0 := Int32.toInt_lt a2; have b1 := Int32.le_toInt a4; have c1 := Int32.toInt_lt a4; have b2 := Int32.le_toInt a1; have c2 := Int32.toInt_lt a1; have b3 := Int32.le_toInt a3; have c3 := Int32.toInt_lt a3; have l0 : (0 : Int32).toInt = 0 := (by decide); have l1 : (600 : Int32).toInt = 600 := (by decide); have s0 : (a2 - a4).toInt = a2.toInt - a4.toInt := q_tS rfl (by omega) (by omega); have s1 : (a1 - a3).toInt = a1.toInt - a3.toInt := q_tS rfl (by omega) (by omega); omega
theorem zz_c06df3ef2c {a1 a2 a3 a4 : Int32} (h0 : ¬ (a1 ≤ a2)) (h1 : a1 = a3 - a4) (h2 : (0 ≤ a3) ∧ (a3 ≤ 600)) (h3 : (0 ≤ a4) ∧ (a4 ≤ 600)) (h4 : 0 ≤ a2) (h5 : a2 ≤ 600) : a2 + 1 ≤ 600 := by simp only [Int32.le_iff_toInt_le, Int32.lt_iff_toInt_lt, ← Int32.toInt_inj, ne_eq] at *; have b0 := Int32.le_toInt a3; have c0 := Int32.toInt_lt a3; have b1 := Int32.le_toInt a4; have c1 := Int32.toInt_lt a4; have b2 := Int32.le_toInt a2; have c2 := Int32.toInt_lt a2; have l0 : (0 : Int32).toInt = 0 := (by decide); have l1 : (600 : Int32).toInt = 600 := (by decide); have l2 : (1 : Int32).toInt = 1 := (by decide); have s0 : (a3 - a4).toInt = a3.toInt - a4.toInt := q_tS rfl (by omega) (by omega); have s1 : (a2 + 1).toInt = a2.toInt + 1 := q_tA (by decide) (by omega) (by omega); omega
theorem zz_2faa97ca15 {a1 a2 a3 : Int32} (h0 : a1 = a2 + (a2 - a3)) (h1 : (0 ≤ a2) ∧ (a2 ≤ 600)) (h2 : (0 ≤ a3) ∧ (a3 ≤ 600)) : a1 = a2 + (a2 - a3) := by simp only [Int32.le_iff_toInt_le, Int32.lt_iff_toInt_lt, ← Int32.toInt_inj, ne_eq] at *; have b0 := Int32.le_toInt a2; have c0 := Int32.toInt_lt a2; have b1 := Int32.le_toInt a3; have c1 := Int32.toInt_lt a3; have l0 : (0 : Int32).toInt = 0 := (by decide); have l1 : (600 : Int32).toInt = 600 := (by decide); have s0 : (a2 - a3).toInt = a2.toInt - a3.toInt := q_tS rfl (by omega) (by omega); have s1 : (a2 + (a2 - a3)).toInt = a2.toInt + (a2 - a3).toInt := q_tA rfl (by omega) (by omega); omega
set_option maxHeartbeats 2000000 in
theorem p_Mod_exchanged_35_n {L : q_L} {W : Nat → Prop} {h0 : z_H} {π : Nat → Nat → Option Nat} {N : Nat} {Q : z_H → Prop} {k16 : Nat → Int32 → Int32 → Int32 → z_H → Option z_H} {lo : Nat → Int32} (hqn : q_Q lo 601) : ∀ (n : Nat) (v0 : Nat) (v1 : Int32) (v2 : Int32) (v3 : Int32) (v4 : Int32) (v5 : Int32) (h : z_H), q_U L W h0 π h → q_M L π v0 → (∀ a, v0 ≤ a → a < v0 + 46 → W a) → (0 ≤ v1) → (v1 < 80) → (vA h (v0 + 10) v1 ≤ vA h (v0 + 12) v1) → (vA h (v0 + 11) v1 = vA h (v0 + 12) v1 + (vA h (v0 + 12) v1 - vA h (v0 + 10) v1)) → (v2 = vA h (v0 + 12) v1 - vA h (v0 + 10) v1) → (0 ≤ v3) → (v3 < 60) → (0 ≤ v5) → (v5 ≤ 600) → (100000 ≤ N) → (lo n ≤ v5) → (∀ (x : Int32) (h1 : z_H), q_U L W h0 π h1 → (∀ a k, vI h1 a k = vI h a k) → (∀ a j, 0 ≤ j → ¬ (a = v0 + 39) → vA h1 a j = vA h a j) → (x = v3 + 1) → qk (k16 v0 v1 v2 x h1) Q) → qk (f_Mod_exchanged_35 N k16 n v0 v1 v2 v3 v4 v5 h) Q := by
  intro n
  induction n with
  | zero => intro v0 v1 v2 v3 v4 v5 h T kv0 wM s0 s1 e1 e2 n_ b0 b1 c0 c1 hN hms hk16; have hz := hqn.1; exact absurd hms (by clear hk16; grind)
  | succ n ih =>
    intro v0 v1 v2 v3 v4 v5 h T kv0 wM s0 s1 e1 e2 n_ b0 b1 c0 c1 hN hms hk16
    obtain ⟨hq1, hq2, hq3⟩ := hqn.2 n
    rw [f_Mod_exchanged_35]
    refine qk_if (fun cc1 => ?_) (fun cc1 => ?_)
    · skip
      refine qk_bs ?_
      exact hk16 (v3 + 1) h T (by show ∀ a k, vI h a k = vI h a k; intro a k ; rfl) (by show ∀ a j, 0 ≤ j → ¬ (a = v0 + 39) → vA h a j = vA h a j; intro a j j0 n0; rfl) (zz_4128cd1b0e b0 b1)
    · skip
      refine r_Mo_33 T kv0 ?_
      refine r_Mo_15 T kv0 ?_
      refine r_Mo_e10 T kv0 s0 s1 ?_
      intro x5 ex5 lx5 ux5
      subst ex5
      have o2 := g_Mo_e10 T kv0 v1
      have o3 := g_Mo_e11 T kv0 v1
      have o4 := g_Mo_e12 T kv0 v1
      refine r_Mo_e28 T kv0 (zz_67739fb8b0 o2 c0 c1) (zz_1b5b017131 e2 o3 n_ c0 cc1 o4 o2 c1) ?_
      intro x6 ex6 lx6 ux6
      subst ex6
      refine qk_if (fun cc5 => ?_) (fun cc5 => ?_)
      · skip
        refine r_Mo_58 T kv0 ?_
        refine r_Mo_33 T kv0 ?_
        refine r_Mo_17 T kv0 ?_
        refine r_Mo_e12 T kv0 s0 s1 ?_
        intro x12 ex12 lx12 ux12
        subst ex12
        refine r_Mo_e28 T kv0 (zz_67739fb8b0 o4 c0 c1) (zz_34a918e7d9 e2 o3 n_ cc1 o4 o2 c0 c1) ?_
        intro x13 ex13 lx13 ux13
        subst ex13
        refine w_Mo_e39 T kv0 (wM _ (by omega) (by omega)) b0 (zz_200f353d78 b1) ?_
        intro h14 Th14 ih14 ah14
        refine qk_bs ?_
        have o6 : vA h14 (v0 + 10) v1 = vA h (v0 + 10) v1 := (by rw [ah14 (v0 + 10) v1 s0, if_neg (fun z => absurd z.1 (by omega))])
        have o7 : vA h14 (v0 + 12) v1 = vA h (v0 + 12) v1 := (by rw [ah14 (v0 + 12) v1 s0, if_neg (fun z => absurd z.1 (by omega))])
        have o8 : vA h14 (v0 + 11) v1 = vA h (v0 + 11) v1 := (by rw [ah14 (v0 + 11) v1 s0, if_neg (fun z => absurd z.1 (by omega))])
        refine ih (v0) (v1) (v2) (v3) (v4) ((v5 + 1)) h14 Th14 kv0 wM s0 s1 (zz_3b376fc0b5 o6 o7 e1) (zz_d40fcccc31 o8 o7 o6 e2 o4 o2) (zz_ad8ba09189 o7 o6 n_ o4 o2) b0 b1 (zz_7c75936822 c0 c1) (zz_c06df3ef2c cc1 n_ o4 o2 c0 c1) hN (zz_a9b30669af hms hq1 hq2 hq3 c0 c1) ?_
        · intro x_w9 h_w9 Tw9 gw9_0 gw9_1 gw9_2
          exact hk16 x_w9 h_w9 Tw9 (by show ∀ a k, vI h_w9 a k = vI h a k; intro a k ; rw [gw9_0 a k, ih14]) (by show ∀ a j, 0 ≤ j → ¬ (a = v0 + 39) → vA h_w9 a j = vA h a j; intro a j j0 n0; rw [gw9_1 a j j0 (by omega), ah14 a j j0, if_neg (by omega)]) gw9_2
      · skip
        refine qk_bs ?_
        refine ih (v0) (v1) (v2) (v3) (v4) ((v5 + 1)) h T kv0 wM s0 s1 e1 (zz_2faa97ca15 e2 o4 o2) n_ b0 b1 (zz_7c75936822 c0 c1) (zz_c06df3ef2c cc1 n_ o4 o2 c0 c1) hN (zz_a9b30669af hms hq1 hq2 hq3 c0 c1) ?_
        · intro x_w10 h_w10 Tw10 gw10_0 gw10_1 gw10_2
          exact hk16 x_w10 h_w10 Tw10 (by show ∀ a k, vI h_w10 a k = vI h a k; intro a k ; rw [gw10_0 a k]) (by show ∀ a j, 0 ≤ j → ¬ (a = v0 + 39) → vA h_w10 a j = vA h a j; intro a j j0 n0; rw [gw10_1 a j j0 (by omega)]) gw10_2
theorem p_Mod_exchanged_35 {L : q_L} {W : Nat → Prop} {h0 : z_H} {π : Nat → Nat → Option Nat} {N : Nat} {Q : z_H → Prop} {k16 : Nat → Int32 → Int32 → Int32 → z_H → Option z_H} {h : z_H} {v0 : Nat} {v1 : Int32} {v2 : Int32} {v3 : Int32} {v4 : Int32} {v5 : Int32} (T : q_U L W h0 π h) (kv0 : q_M L π v0) (wM : ∀ a, v0 ≤ a → a < v0 + 46 → W a) (s0 : 0 ≤ v1) (s1 : v1 < 80) (e1 : vA h (v0 + 10) v1 ≤ vA h (v0 + 12) v1) (e2 : vA h (v0 + 11) v1 = vA h (v0 + 12) v1 + (vA h (v0 + 12) v1 - vA h (v0 + 10) v1)) (n_ : v2 = vA h (v0 + 12) v1 - vA h (v0 + 10) v1) (b0 : 0 ≤ v3) (b1 : v3 < 60) (c0 : 0 ≤ v5) (c1 : v5 ≤ 600) (hN : 100000 ≤ N) (hk16 : (∀ (x : Int32) (h1 : z_H), q_U L W h0 π h1 → (∀ a k, vI h1 a k = vI h a k) → (∀ a j, 0 ≤ j → ¬ (a = v0 + 39) → vA h1 a j = vA h a j) → (x = v3 + 1) → qk (k16 v0 v1 v2 x h1) Q)) : qk (f_Mod_exchanged_35 N k16 N v0 v1 v2 v3 v4 v5 h) Q := by
  have hq := q_qnN hN
  refine p_Mod_exchanged_35_n (q_lo (M := 601) (by decide) (by decide)) N v0 v1 v2 v3 v4 v5 h T kv0 wM s0 s1 e1 e2 n_ b0 b1 c0 c1 hN ?_ hk16
  show 601 - q_n N ≤ _
  rw [hq]
  lia
