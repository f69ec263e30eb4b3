theorem zz_c93d2ff2bc {a1 a2 : Int32} (h0 : ¬ (a1 ≤ a2)) (h1 : (0 ≤ a1) ∧ (a1 ≤ 60)) : a2 < 60 := by simp only [Int32.le_iff_toInt_le, Int32.lt_iff_toInt_lt, ← Int32.toInt_inj, ne_eq] at *; have l0 : (0 : Int32).toInt = 0 := (by decide); have l1 : (60 : Int32).toInt = 60 := (by decide); omega
theorem zz_f4ed2100fb {a1 a2 : Int32} (h0 : a1 = a2 + 1) (h1 : 0 ≤ a2) (h2 : a2 ≤ 60) : 0 ≤ a1 := by simp only [Int32.le_iff_toInt_le, Int32.lt_iff_toInt_lt, ← Int32.toInt_inj, ne_eq] at *; have b0 := Int32.le_toInt a2; have c0 := Int32.toInt_lt a2; have l0 : (1 : Int32).toInt = 1 := (by decide); have l1 : (0 : Int32).toInt = 0 := (by decide); have l2 : (60 : Int32).toInt = 60 := (by decide); have s0 : (a2 + 1).toInt = a2.toInt + 1 := q_tA (by decide) (by omega) (by omega); omega
theorem zz_6868023aae {a1 a2 a3 : Int32} (h0 : a1 = a2 + 1) (h1 : ¬ (a3 ≤ a2)) (h2 : (0 ≤ a3) ∧ (a3 ≤ 60)) (h3 : 0 ≤ a2) (h4 : a2 ≤ 60) : a1 ≤ 60 := by simp only [Int32.le_iff_toInt_le, Int32.lt_iff_toInt_lt, ← Int32.toInt_inj, ne_eq] at *; have b0 := Int32.le_toInt a2; have c0 := Int32.toInt_lt a2; have l0 : (1 : Int32).toInt = 1 := (by decide); have l1 : (0 : Int32).toInt = 0 := (by decide); have l2 : (60 : Int32).toInt = 60 := (by decide); have s0 : (a2 + 1).toInt = a2.toInt + 1 := q_tA (by decide) (by omega) (by omega); omega
theorem zz_eb782118fc {a1 a2 a3 a4 : Int32} (h0 : a1 ≤ a2) (h1 : a3 ≤ a1 + 1) (h2 : a4 = a2 + 1) (h3 : 0 ≤ a2) (h4 : a2 ≤ 60) (h5 : -100000 ≤ a1) (h6 : a1 ≤ 100000) : a3 ≤ a4 := by simp only [Int32.le_iff_toInt_le, Int32.lt_iff_toInt_lt, ← Int32.toInt_inj, ne_eq] at *; have b0 := Int32.le_toInt a1; have c0 := Int32.toInt_lt a1; have b1 := Int32.le_toInt a2; have c1 := Int32.toInt_lt a2; have l0 : (1 : Int32).toInt = 1 := (by decide); have l1 : (0 : Int32).toInt = 0 := (by decide); have l2 : (60 : Int32).toInt = 60 := (by decide); have l3 : (-100000 : Int32).toInt = -100000 := (by decide); have l4 : (100000 : Int32).toInt = 100000 := (by decide); have s0 : (a1 + 1).toInt = a1.toInt + 1 := q_tA (by decide) (by omega) (by omega); have s1 : (a2 + 1).toInt = a2.toInt + 1 := q_tA (by decide) (by omega) (by omega); omega
set_option maxHeartbeats 1000000 in
theorem p_Mod_exchanged_16_n {L : q_L} {W : Nat → Prop} {h0 : z_H} {π : Nat → Nat → Option Nat} {N : Nat} {lo : Nat → Int32} (hqn : q_Q lo 61) : ∀ (n : Nat) (v0 : Nat) (v1 : Int32) (v2 : Int32) (v3 : Int32) (h : z_H), q_U L W h0 π h → q_M L π v0 → (∀ a, v0 ≤ a → a < v0 + 46 → W a) → (0 ≤ v1) → (v1 < 80) → (vA h (v0 + 10) v1 ≤ vA h (v0 + 12) v1) → (vA h (v0 + 11) v1 = vA h (v0 + 12) v1 + (vA h (v0 + 12) v1 - vA h (v0 + 10) v1)) → (v2 = vA h (v0 + 12) v1 - vA h (v0 + 10) v1) → (0 ≤ v3) → (v3 ≤ 60) → (100000 ≤ N) → (lo n ≤ v3) → qk (f_Mod_exchanged_16 N  n v0 v1 v2 v3 h) (fun r => q_U L W h0 π r ∧ (∀ a k, vI r a k = vI h a k) ∧ (∀ a j, 0 ≤ j → ¬ (a = v0 + 39) → vA r a j = vA h a j)) := by
  intro n
  induction n with
  | zero => intro v0 v1 v2 v3 h T kv0 wM s0 s1 e1 e2 n_ b0 b1 hN hms; have hz := hqn.1; exact absurd hms (by grind)
  | succ n ih =>
    intro v0 v1 v2 v3 h T kv0 wM s0 s1 e1 e2 n_ b0 b1 hN hms
    obtain ⟨hq1, hq2, hq3⟩ := hqn.2 n
    rw [f_Mod_exchanged_16]
    refine r_Mo_65 T kv0 ?_
    intro x1 ex1 lx1 ux1
    subst ex1
    refine qk_if (fun cc1 => ?_) (fun cc1 => ?_)
    · skip
      refine qk_some ?_
      exact ⟨T, (by clear ih; show ∀ a k, vI h a k = vI h a k; intro a k ; rfl), (by clear ih; show ∀ a j, 0 ≤ j → ¬ (a = v0 + 39) → vA h a j = vA h a j; intro a j j0 n0; rfl)⟩
    · skip
      refine r_Mo_58 T kv0 ?_
      refine r_Mo_e39 T kv0 b0 (zz_e867aa2235 b1) ?_
      intro x4 ex4
      subst ex4
      have o2 := g_Mo_e12 T kv0 v1
      have o3 := g_Mo_e10 T kv0 v1
      have o4 := g_Mo_65 T kv0
      refine p_Mod_exchanged_35 (v0 := v0) (v1 := v1) (v2 := v2) (v3 := v3) (v4 := (vA h (v0 + 39) v3)) (v5 := 0) T kv0 wM s0 s1 e1 (zz_2faa97ca15 e2 o2 o3) n_ b0 (zz_c93d2ff2bc cc1 o4) (by show (0 : Int32) ≤ 0; decide) (by show (0 : Int32) ≤ 600; decide) hN ?_
      · intro x_w5 h_w5 Tw5 gw5_0 gw5_1 gw5_2
        have o6 : vA h_w5 (v0 + 10) v1 = vA h (v0 + 10) v1 := (by rw [gw5_1 (v0 + 10) v1 s0 (by omega)])
        have o7 : vA h_w5 (v0 + 12) v1 = vA h (v0 + 12) v1 := (by rw [gw5_1 (v0 + 12) v1 s0 (by omega)])
        have o8 : vA h_w5 (v0 + 11) v1 = vA h (v0 + 11) v1 := (by rw [gw5_1 (v0 + 11) v1 s0 (by omega)])
        refine qk_mono (ih (v0) (v1) (v2) (x_w5) h_w5 Tw5 kv0 wM s0 s1 (zz_3b376fc0b5 o6 o7 e1) (zz_d40fcccc31 o8 o7 o6 e2 o2 o3) (zz_ad8ba09189 o7 o6 n_ o2 o3) (zz_f4ed2100fb gw5_2 b0 b1) (zz_6868023aae gw5_2 cc1 o4 b0 b1) hN (zz_eb782118fc hms hq1 gw5_2 b0 b1 hq2 hq3)) ?_
        rintro hz ⟨Tz, g0, g1⟩
        try dsimp only at *
        exact ⟨Tz, (by clear ih; show ∀ a k, vI hz a k = vI h a k; intro a k ; rw [g0 a k, gw5_0 a k]), (by clear ih; show ∀ a j, 0 ≤ j → ¬ (a = v0 + 39) → vA hz a j = vA h a j; intro a j j0 n0; rw [g1 a j j0 (by omega), gw5_1 a j j0 (by omega)])⟩
theorem p_Mod_exchanged_16 {L : q_L} {W : Nat → Prop} {h0 : z_H} {π : Nat → Nat → Option Nat} {N : Nat} {h : z_H} {v0 : Nat} {v1 : Int32} {v2 : Int32} {v3 : Int32} (T : q_U L W h0 π h) (kv0 : q_M L π v0) (wM : ∀ a, v0 ≤ a → a < v0 + 46 → W a) (s0 : 0 ≤ v1) (s1 : v1 < 80) (e1 : vA h (v0 + 10) v1 ≤ vA h (v0 + 12) v1) (e2 : vA h (v0 + 11) v1 = vA h (v0 + 12) v1 + (vA h (v0 + 12) v1 - vA h (v0 + 10) v1)) (n_ : v2 = vA h (v0 + 12) v1 - vA h (v0 + 10) v1) (b0 : 0 ≤ v3) (b1 : v3 ≤ 60) (hN : 100000 ≤ N) : qk (f_Mod_exchanged_16 N  N v0 v1 v2 v3 h) (fun r => q_U L W h0 π r ∧ (∀ a k, vI r a k = vI h a k) ∧ (∀ a j, 0 ≤ j → ¬ (a = v0 + 39) → vA r a j = vA h a j)) := by
  have hq := q_qnN hN
  refine p_Mod_exchanged_16_n (q_lo (M := 61) (by decide) (by decide)) N v0 v1 v2 v3 h T kv0 wM s0 s1 e1 e2 n_ b0 b1 hN ?_ 
  show 61 - q_n N ≤ _
  rw [hq]
  lia
