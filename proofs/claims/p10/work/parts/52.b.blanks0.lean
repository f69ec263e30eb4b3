theorem zz_6ba83783f3 {a1 a2 a3 : Int32} (h0 : (0 ≤ a1) ∧ (a1 ≤ 240)) (h1 : (a2 ≠ -1) → (a3 < a1)) (h2 : a2 = 32) (h3 : (0 ≤ a3) ∧ (a3 ≤ 250)) : a3 + 1 ≤ 250 := by simp only [Int32.le_iff_toInt_le, Int32.lt_iff_toInt_lt, ← Int32.toInt_inj, ne_eq] at *; have l0 : (0 : Int32).toInt = 0 := (by decide); have l1 : (240 : Int32).toInt = 240 := (by decide); have l2 : (-1 : Int32).toInt = -1 := (by decide); have l3 : (32 : Int32).toInt = 32 := (by decide); have l4 : (250 : Int32).toInt = 250 := (by decide); have l5 : (1 : Int32).toInt = 1 := (by decide); have s0 : (a3 + 1).toInt = a3.toInt + 1 := q_tA (by decide) (by omega) (by omega); omega
theorem zz_6254b50410 {a1 a2 a3 a4 : Int32} (h0 : a1 = a2 + 1) (h1 : a3 ≤ a2) (h2 : a4 ≤ a3 + 1) (h3 : -100000 ≤ a3) (h4 : (0 ≤ a2) ∧ (a2 ≤ 250)) : a4 ≤ a1 := by simp only [Int32.le_iff_toInt_le, Int32.lt_iff_toInt_lt, ← Int32.toInt_inj, ne_eq] at *; have l0 : (1 : Int32).toInt = 1 := (by decide); have l1 : (-100000 : Int32).toInt = -100000 := (by decide); have l2 : (0 : Int32).toInt = 0 := (by decide); have l3 : (250 : Int32).toInt = 250 := (by decide); have s0 : (a2 + 1).toInt = a2.toInt + 1 := q_tA (by decide) (by omega) (by omega); have s1 : (a3 + 1).toInt = a3.toInt + 1 := q_tA (by decide) (by omega) (by omega); omega
theorem zz_4531102278 {a1 a2 a3 : Int32} (h0 : a1 ≤ a2) (h1 : a1 = a3 + 1) (h2 : (0 ≤ a3) ∧ (a3 ≤ 250)) : a3 ≤ a2 := by simp only [Int32.le_iff_toInt_le, Int32.lt_iff_toInt_lt, ← Int32.toInt_inj, ne_eq] at *; have l0 : (1 : Int32).toInt = 1 := (by decide); have l1 : (0 : Int32).toInt = 0 := (by decide); have l2 : (250 : Int32).toInt = 250 := (by decide); have s0 : (a3 + 1).toInt = a3.toInt + 1 := q_tA (by decide) (by omega) (by omega); omega
theorem zz_59882e6674 {a1 a2 a3 a4 a5 a6 : Int32} (h0 : (a1 ≠ -1) → (a2 < a3)) (h1 : a4 = a2 + 1) (h2 : (a5 ≤ a6) ∨ (a5 = a4)) (h3 : a6 = a3) (h4 : a1 = 32) (h5 : (0 ≤ a2) ∧ (a2 ≤ 250)) : (a5 ≤ a3) ∨ (a5 = a2) := by simp only [Int32.le_iff_toInt_le, Int32.lt_iff_toInt_lt, ← Int32.toInt_inj, ne_eq] at *; have l0 : (-1 : Int32).toInt = -1 := (by decide); have l1 : (1 : Int32).toInt = 1 := (by decide); have l2 : (32 : Int32).toInt = 32 := (by decide); have l3 : (0 : Int32).toInt = 0 := (by decide); have l4 : (250 : Int32).toInt = 250 := (by decide); have s0 : (a2 + 1).toInt = a2.toInt + 1 := q_tA (by decide) (by omega) (by omega); omega
theorem zz_52924cceca {a1 : Int32}  : a1 ≤ a1 := by lia
theorem zz_b019d861ee {a1 a2 : Int32}  : (a1 ≤ a2) ∨ (a1 = a1) := by lia
set_option maxHeartbeats 1000000 in
theorem p_Mod_blanks_0_n {L : q_L} {W : Nat → Prop} {h0 : z_H} {π : Nat → Nat → Option Nat} {N : Nat} {lo : Nat → Int32} (hqn : q_Q lo 251) : ∀ (n : Nat) (v0 : Nat) (h : z_H), q_U L W h0 π h → q_M L π v0 → (∀ a, v0 ≤ a → a < v0 + 46 → W a) → (lo n ≤ vI h v0 41) → qk (f_Mod_blanks_0 N  n v0 h) (fun r => q_U L W h0 π r ∧ (∀ a k, ¬ (a = v0 ∧ (k = 41)) → vI r a k = vI h a k) ∧ (∀ a j, vA r a j = vA h a j) ∧ (vI h v0 41 ≤ vI r v0 41) ∧ (vI r v0 41 ≤ vI h v0 3 ∨ vI r v0 41 = vI h v0 41)) := by
  intro n
  induction n with
  | zero => intro v0 h T kv0 wM hms; have rg_at := g_Mo_41 T kv0; have hz := hqn.1; exact absurd hms (by grind)
  | succ n ih =>
    intro v0 h T kv0 wM hms
    obtain ⟨hq1, hq2, hq3⟩ := hqn.2 n
    rw [f_Mod_blanks_0]
    refine r_Mo_o T kv0 ?_
    refine c_Mod_here2 (v0 := v0) T kv0 ?_
    intro yr2 gr2_0 gr2_1 gr2_2 gr2_3 gr2_4
    dsimp only
    refine qk_if (fun cc1 => ?_) (fun cc1 => ?_)
    · skip
      refine r_Mo_41 T kv0 ?_
      intro x4 ex4 lx4 ux4
      subst ex4
      have o2 := g_Mo_41 T kv0
      have o3 := g_Mo_3 T kv0
      refine w_Mo_41 T kv0 (wM _ (by omega) (by omega)) (zz_5664edf06b o2) (zz_6ba83783f3 o3 gr2_2 cc1 o2) ?_
      intro h5 Th5 ih5 ah5
      have o4 : vI h5 v0 41 = (vI h v0 41) + 1 := (by rw [ih5 v0 41, if_pos ⟨rfl, rfl⟩])
      refine qk_mono (ih (v0) h5 Th5 kv0 wM (zz_6254b50410 o4 hms hq1 hq2 o2)) ?_
      rintro hz ⟨Tz, g0, g1, g2, g3⟩
      try dsimp only at *
      have o6 : vI h5 v0 3 = vI h v0 3 := (by rw [ih5 v0 3, if_neg (fun z => absurd z.2 (by decide))])
      exact ⟨Tz, (by clear ih; show ∀ a k, ¬ (a = v0 ∧ (k = 41)) → vI hz a k = vI h a k; intro a k n0; rw [g0 a k (by omega), ih5, if_neg (by omega)]), (by clear ih; show ∀ a j, vA hz a j = vA h a j; intro a j ; rw [g1 a j, ah5]), (zz_4531102278 g2 o4 o2), (zz_59882e6674 gr2_2 o4 g3 o6 cc1 o2)⟩
    · skip
      refine qk_some ?_
      exact ⟨T, (by clear ih; show ∀ a k, ¬ (a = v0 ∧ (k = 41)) → vI h a k = vI h a k; intro a k n0; rfl), (by clear ih; show ∀ a j, vA h a j = vA h a j; intro a j ; rfl), (zz_52924cceca), (zz_b019d861ee)⟩
theorem p_Mod_blanks_0 {L : q_L} {W : Nat → Prop} {h0 : z_H} {π : Nat → Nat → Option Nat} {N : Nat} {h : z_H} {v0 : Nat} (T : q_U L W h0 π h) (kv0 : q_M L π v0) (wM : ∀ a, v0 ≤ a → a < v0 + 46 → W a) (hN : 100000 ≤ N) : qk (f_Mod_blanks_0 N  N v0 h) (fun r => q_U L W h0 π r ∧ (∀ a k, ¬ (a = v0 ∧ (k = 41)) → vI r a k = vI h a k) ∧ (∀ a j, vA r a j = vA h a j) ∧ (vI h v0 41 ≤ vI r v0 41) ∧ (vI r v0 41 ≤ vI h v0 3 ∨ vI r v0 41 = vI h v0 41)) := by
  have hq := q_qnN hN
  have rg_at := g_Mo_41 T kv0
  refine p_Mod_blanks_0_n (q_lo (M := 251) (by decide) (by decide)) N v0 h T kv0 wM ?_ 
  show 251 - q_n N ≤ _
  rw [hq]
  lia
