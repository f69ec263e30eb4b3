theorem zz_3cf1fb6e3b {a1 : Int32} (h0 : 0 ≤ a1) (h1 : a1 ≤ 60) : a1 < a1 + 1 := by simp only [Int32.le_iff_toInt_le, Int32.lt_iff_toInt_lt, ← Int32.toInt_inj, ne_eq] at *; have b0 := Int32.le_toInt a1; have c0 := Int32.toInt_lt a1; have l0 : (0 : Int32).toInt = 0 := (by decide); have l1 : (60 : Int32).toInt = 60 := (by decide); have l2 : (1 : Int32).toInt = 1 := (by decide); have s0 : (a1 + 1).toInt = a1.toInt + 1 := q_tA (by decide) (by omega) (by omega); omega
theorem zz_7f29c0aec2 {a1 a2 : Int32} (h0 : a1 ≤ a2) (h1 : a2 ≤ a1) (h2 : ¬ (a1 = a2)) (h3 : 0 ≤ a1) (h4 : a1 ≤ 60) : a1 + 1 ≤ 60 := by simp only [Int32.le_iff_toInt_le, Int32.lt_iff_toInt_lt, ← Int32.toInt_inj, ne_eq] at *; have b0 := Int32.le_toInt a1; have c0 := Int32.toInt_lt a1; have l0 : (0 : Int32).toInt = 0 := (by decide); have l1 : (60 : Int32).toInt = 60 := (by decide); have l2 : (1 : Int32).toInt = 1 := (by decide); have s0 : (a1 + 1).toInt = a1.toInt + 1 := q_tA (by decide) (by omega) (by omega); omega
theorem zz_847a5a2a6d {a1 a2 a3 : Int32} (h0 : a1 ≤ a2) (h1 : a2 ≤ a1) (h2 : ¬ (a1 = a2)) : a1 < a3 := by simp only [Int32.le_iff_toInt_le, Int32.lt_iff_toInt_lt, ← Int32.toInt_inj, ne_eq] at *; omega
theorem zz_a3123b90bd {a1 a2 : Int32} (h0 : 0 ≤ a1) (h1 : (0 ≤ a2) ∧ (a2 ≤ 60)) (h2 : ¬ (a2 ≤ a1)) : a1 < a1 + 1 := by simp only [Int32.le_iff_toInt_le, Int32.lt_iff_toInt_lt, ← Int32.toInt_inj, ne_eq] at *; have b0 := Int32.le_toInt a1; have c0 := Int32.toInt_lt a1; have l0 : (0 : Int32).toInt = 0 := (by decide); have l1 : (60 : Int32).toInt = 60 := (by decide); have l2 : (1 : Int32).toInt = 1 := (by decide); have s0 : (a1 + 1).toInt = a1.toInt + 1 := q_tA (by decide) (by omega) (by omega); omega
theorem zz_1190b66d0a {a1 a2 : Int32} (h0 : (0 ≤ a1) ∧ (a1 ≤ 60)) (h1 : ¬ (a1 ≤ a2)) (h2 : 0 ≤ a2) : a2 + 1 ≤ 60 := by simp only [Int32.le_iff_toInt_le, Int32.lt_iff_toInt_lt, ← Int32.toInt_inj, ne_eq] at *; have b0 := Int32.le_toInt a2; have c0 := Int32.toInt_lt a2; have l0 : (0 : Int32).toInt = 0 := (by decide); have l1 : (60 : Int32).toInt = 60 := (by decide); have l2 : (1 : Int32).toInt = 1 := (by decide); have s0 : (a2 + 1).toInt = a2.toInt + 1 := q_tA (by decide) (by omega) (by omega); omega
theorem zz_161095adc3 {a1 a2 a3 a4 : Int32} (h0 : a1 ≤ a2) (h1 : a3 ≤ a1 + 1) (h2 : -100000 ≤ a1) (h3 : (0 ≤ a4) ∧ (a4 ≤ 60)) (h4 : ¬ (a4 ≤ a2)) (h5 : 0 ≤ a2) : a3 ≤ a2 + 1 := by simp only [Int32.le_iff_toInt_le, Int32.lt_iff_toInt_lt, ← Int32.toInt_inj, ne_eq] at *; have b0 := Int32.le_toInt a1; have c0 := Int32.toInt_lt a1; have b1 := Int32.le_toInt a2; have c1 := Int32.toInt_lt a2; have l0 : (1 : Int32).toInt = 1 := (by decide); have l1 : (-100000 : Int32).toInt = -100000 := (by decide); have l2 : (0 : Int32).toInt = 0 := (by decide); have l3 : (60 : Int32).toInt = 60 := (by decide); have s0 : (a1 + 1).toInt = a1.toInt + 1 := q_tA (by decide) (by omega) (by omega); have s1 : (a2 + 1).toInt = a2.toInt + 1 := q_tA (by decide) (by omega) (by omega); omega
set_option maxHeartbeats 2000000 in
theorem p_Mod_cut_2_n {L : q_L} {W : Nat → Prop} {h0 : z_H} {π : Nat → Nat → Option Nat} {N : Nat} {lo : Nat → Int32} (hqn : q_Q lo 61) : ∀ (n : Nat) (v0 : Nat) (v1 : Int32) (h : z_H), q_U L W h0 π h → q_M L π v0 → (∀ a, v0 ≤ a → a < v0 + 46 → W a) → (0 ≤ v1) → (v1 ≤ vI h v0 65) → (v1 ≤ 60) → (vI h v0 68 = 0 ∨ vA h (v0 + 42) (vI h v0 68 - 1) = 10) → (vI h v0 70 ≤ vI h v0 4) → (100000 ≤ N) → (lo n ≤ v1) → qk (f_Mod_cut_2 N  n v0 v1 h) (fun r => q_U L W h0 π r.2 ∧ (r.1 = 0) ∧ (vI h v0 70 ≤ vI r.2 v0 70 ∧ vI r.2 v0 70 ≤ vI h v0 4) ∧ (∀ a k, ¬ (a = v0 ∧ (k = 6 ∨ k = 76 ∨ k = 69 ∨ k = 67 ∨ k = 68 ∨ k = 65 ∨ k = 70 ∨ k = 72 ∨ k = 74)) → vI r.2 a k = vI h a k) ∧ (∀ a j, 0 ≤ j → ¬ (a = v0 + 43 ∨ a = v0 + 41 ∨ a = v0 + 39) → vA r.2 a j = vA h a j) ∧ (vI r.2 v0 68 = 0 ∨ vA r.2 (v0 + 42) (vI r.2 v0 68 - 1) = 10)) := by
  intro n
  induction n with
  | zero => intro v0 v1 h T kv0 wM b0 b1 b2 AP rl hN hms; have hz := hqn.1; exact absurd hms (by grind)
  | succ n ih =>
    intro v0 v1 h T kv0 wM b0 b1 b2 AP rl hN hms
    obtain ⟨hq1, hq2, hq3⟩ := hqn.2 n
    rw [f_Mod_cut_2]
    refine r_Mo_65 T kv0 ?_
    intro x1 ex1 lx1 ux1
    subst ex1
    refine qk_if (fun cc1 => ?_) (fun cc1 => ?_)
    · skip
      unfold f_Mod_cut_27
      refine r_Mo_65 T kv0 ?_
      intro x1i2 ex1i2 lx1i2 ux1i2
      subst ex1i2
      refine qk_if (fun cc3 => ?_) (fun cc3 => ?_)
      · skip
        refine r_Mo_o T kv0 ?_
        refine c_Mod_endCycle (v0 := v0) (v1 := 0) T kv0 wM (by clear ih; exact AP) rl hN ?_
        intro yr9i2 hr9i2 Tr9i2 gr9i2_0 gr9i2_1 gr9i2_2 gr9i2_3 gr9i2_4 gr9i2_5
        dsimp only
        refine qk_some ?_
        exact ⟨Tr9i2, gr9i2_0, gr9i2_2, (by clear ih; show ∀ a k, ¬ (a = v0 ∧ (k = 6 ∨ k = 76 ∨ k = 69 ∨ k = 67 ∨ k = 68 ∨ k = 65 ∨ k = 70 ∨ k = 72 ∨ k = 74)) → vI hr9i2 a k = vI h a k; intro a k n0; rw [gr9i2_3 a k (by omega)]), (by clear ih; show ∀ a j, 0 ≤ j → ¬ (a = v0 + 43 ∨ a = v0 + 41 ∨ a = v0 + 39) → vA hr9i2 a j = vA h a j; intro a j j0 n0; rw [gr9i2_4 a j j0 (by omega)]), (by clear ih; show vI hr9i2 v0 68 = 0 ∨ vA hr9i2 (v0 + 42) (vI hr9i2 v0 68 - 1) = 10; exact gr9i2_5)⟩
      · skip
        refine r_Mo_o T kv0 ?_
        refine c_Mod_tellAppended (v0 := v0) T kv0 wM (by clear ih; exact AP) hN ?_
        intro yr4i2 hr4i2 Tr4i2 gr4i2_0 gr4i2_1 gr4i2_2 gr4i2_3 gr4i2_4
        dsimp only
        refine qk_bs ?_
        refine qk_if (fun cc4 => ?_) (fun cc4 => ?_)
        · skip
          refine qk_some ?_
          have o5 : vI hr4i2 v0 70 = vI h v0 70 := (by rw [gr4i2_2 v0 70 (by omega)])
          exact ⟨Tr4i2, (by show (0 : Int32) = 0; decide), (zz_f8cc4ad1dc o5 rl), (by clear ih; show ∀ a k, ¬ (a = v0 ∧ (k = 6 ∨ k = 76 ∨ k = 69 ∨ k = 67 ∨ k = 68 ∨ k = 65 ∨ k = 70 ∨ k = 72 ∨ k = 74)) → vI hr4i2 a k = vI h a k; intro a k n0; rw [gr4i2_2 a k (by omega)]), (by clear ih; show ∀ a j, 0 ≤ j → ¬ (a = v0 + 43 ∨ a = v0 + 41 ∨ a = v0 + 39) → vA hr4i2 a j = vA h a j; intro a j j0 n0; rw [gr4i2_3 a j j0 (by omega)]), (by clear ih; show vI hr4i2 v0 68 = 0 ∨ vA hr4i2 (v0 + 42) (vI hr4i2 v0 68 - 1) = 10; left; rw [gr4i2_4])⟩
        · skip
          refine qk_bs ?_
          refine qk_mono (p_Mod_cut_56 (v0 := v0) (v1 := v1) (v3 := (v1 + 1)) Tr4i2 kv0 wM b0 (zz_3cf1fb6e3b b0 b2) (zz_7f29c0aec2 b1 cc1 cc3 b0 b2) (zz_847a5a2a6d b1 cc1 cc3) hN) ?_
          rintro ⟨y, hz⟩ ⟨Tz, g0, g1, g2⟩
          try dsimp only at *
          have o7 : vI hz v0 70 = vI h v0 70 := (by rw [g1 v0 70 (by omega), gr4i2_2 v0 70 (by omega)])
          exact ⟨Tz, g0, (zz_f8cc4ad1dc o7 rl), (by clear ih; show ∀ a k, ¬ (a = v0 ∧ (k = 6 ∨ k = 76 ∨ k = 69 ∨ k = 67 ∨ k = 68 ∨ k = 65 ∨ k = 70 ∨ k = 72 ∨ k = 74)) → vI hz a k = vI h a k; intro a k n0; rw [g1 a k (by omega), gr4i2_2 a k (by omega)]), (by clear ih; show ∀ a j, 0 ≤ j → ¬ (a = v0 + 43 ∨ a = v0 + 41 ∨ a = v0 + 39) → vA hz a j = vA h a j; intro a j j0 n0; rw [g2 a j j0 (by omega), gr4i2_3 a j j0 (by omega)]), (by clear ih; show vI hz v0 68 = 0 ∨ vA hz (v0 + 42) (vI hz v0 68 - 1) = 10; left; rw [g1 v0 68 (by omega), gr4i2_4])⟩
    · skip
      refine r_Mo_58 T kv0 ?_
      have o8 := g_Mo_65 T kv0
      refine r_Mo_e39 T kv0 b0 (zz_62da3d8ed5 o8 cc1) ?_
      intro x4 ex4
      subst ex4
      refine qk_if (fun cc9 => ?_) (fun cc9 => ?_)
      · skip
        unfold f_Mod_cut_27
        refine r_Mo_65 T kv0 ?_
        intro x1i10 ex1i10 lx1i10 ux1i10
        subst ex1i10
        refine qk_if (fun cc11 => ?_) (fun cc11 => ?_)
        · skip
          refine r_Mo_o T kv0 ?_
          refine c_Mod_endCycle (v0 := v0) (v1 := 0) T kv0 wM (by clear ih; exact AP) rl hN ?_
          intro yr9i10 hr9i10 Tr9i10 gr9i10_0 gr9i10_1 gr9i10_2 gr9i10_3 gr9i10_4 gr9i10_5
          dsimp only
          refine qk_some ?_
          exact ⟨Tr9i10, gr9i10_0, gr9i10_2, (by clear ih; show ∀ a k, ¬ (a = v0 ∧ (k = 6 ∨ k = 76 ∨ k = 69 ∨ k = 67 ∨ k = 68 ∨ k = 65 ∨ k = 70 ∨ k = 72 ∨ k = 74)) → vI hr9i10 a k = vI h a k; intro a k n0; rw [gr9i10_3 a k (by omega)]), (by clear ih; show ∀ a j, 0 ≤ j → ¬ (a = v0 + 43 ∨ a = v0 + 41 ∨ a = v0 + 39) → vA hr9i10 a j = vA h a j; intro a j j0 n0; rw [gr9i10_4 a j j0 (by omega)]), (by clear ih; show vI hr9i10 v0 68 = 0 ∨ vA hr9i10 (v0 + 42) (vI hr9i10 v0 68 - 1) = 10; exact gr9i10_5)⟩
        · skip
          refine r_Mo_o T kv0 ?_
          refine c_Mod_tellAppended (v0 := v0) T kv0 wM (by clear ih; exact AP) hN ?_
          intro yr4i10 hr4i10 Tr4i10 gr4i10_0 gr4i10_1 gr4i10_2 gr4i10_3 gr4i10_4
          dsimp only
          refine qk_bs ?_
          refine qk_if (fun cc12 => ?_) (fun cc12 => ?_)
          · skip
            refine qk_some ?_
            have o13 : vI hr4i10 v0 70 = vI h v0 70 := (by rw [gr4i10_2 v0 70 (by omega)])
            exact ⟨Tr4i10, (by show (0 : Int32) = 0; decide), (zz_f8cc4ad1dc o13 rl), (by clear ih; show ∀ a k, ¬ (a = v0 ∧ (k = 6 ∨ k = 76 ∨ k = 69 ∨ k = 67 ∨ k = 68 ∨ k = 65 ∨ k = 70 ∨ k = 72 ∨ k = 74)) → vI hr4i10 a k = vI h a k; intro a k n0; rw [gr4i10_2 a k (by omega)]), (by clear ih; show ∀ a j, 0 ≤ j → ¬ (a = v0 + 43 ∨ a = v0 + 41 ∨ a = v0 + 39) → vA hr4i10 a j = vA h a j; intro a j j0 n0; rw [gr4i10_3 a j j0 (by omega)]), (by clear ih; show vI hr4i10 v0 68 = 0 ∨ vA hr4i10 (v0 + 42) (vI hr4i10 v0 68 - 1) = 10; left; rw [gr4i10_4])⟩
          · skip
            refine qk_bs ?_
            have o14 : vI hr4i10 v0 65 = vI h v0 65 := (by rw [gr4i10_2 v0 65 (by omega)])
            refine qk_mono (p_Mod_cut_56 (v0 := v0) (v1 := v1) (v3 := (v1 + 1)) Tr4i10 kv0 wM b0 (zz_a3123b90bd b0 o8 cc1) (zz_1190b66d0a o8 cc1 b0) (zz_2ae5f8c9b4 o14 cc1) hN) ?_
            rintro ⟨y, hz⟩ ⟨Tz, g0, g1, g2⟩
            try dsimp only at *
            have o16 : vI hz v0 70 = vI h v0 70 := (by rw [g1 v0 70 (by omega), gr4i10_2 v0 70 (by omega)])
            exact ⟨Tz, g0, (zz_f8cc4ad1dc o16 rl), (by clear ih; show ∀ a k, ¬ (a = v0 ∧ (k = 6 ∨ k = 76 ∨ k = 69 ∨ k = 67 ∨ k = 68 ∨ k = 65 ∨ k = 70 ∨ k = 72 ∨ k = 74)) → vI hz a k = vI h a k; intro a k n0; rw [g1 a k (by omega), gr4i10_2 a k (by omega)]), (by clear ih; show ∀ a j, 0 ≤ j → ¬ (a = v0 + 43 ∨ a = v0 + 41 ∨ a = v0 + 39) → vA hz a j = vA h a j; intro a j j0 n0; rw [g2 a j j0 (by omega), gr4i10_3 a j j0 (by omega)]), (by clear ih; show vI hz v0 68 = 0 ∨ vA hz (v0 + 42) (vI hz v0 68 - 1) = 10; left; rw [g1 v0 68 (by omega), gr4i10_4])⟩
      · skip
        refine qk_bs ?_
        refine qk_mono (ih (v0) ((v1 + 1)) h T kv0 wM (zz_72c88f69dc b0 o8 cc1) (zz_f53e323b98 cc1 b0 o8) (zz_1190b66d0a o8 cc1 b0) (by clear ih; exact AP) rl hN (zz_161095adc3 hms hq1 hq2 o8 cc1 b0)) ?_
        rintro ⟨y, hz⟩ ⟨Tz, g0, g1, g2, g3, g4⟩
        try dsimp only at *
        exact ⟨Tz, g0, g1, (by clear ih; show ∀ a k, ¬ (a = v0 ∧ (k = 6 ∨ k = 76 ∨ k = 69 ∨ k = 67 ∨ k = 68 ∨ k = 65 ∨ k = 70 ∨ k = 72 ∨ k = 74)) → vI hz a k = vI h a k; intro a k n0; rw [g2 a k (by omega)]), (by clear ih; show ∀ a j, 0 ≤ j → ¬ (a = v0 + 43 ∨ a = v0 + 41 ∨ a = v0 + 39) → vA hz a j = vA h a j; intro a j j0 n0; rw [g3 a j j0 (by omega)]), (by clear ih; show vI hz v0 68 = 0 ∨ vA hz (v0 + 42) (vI hz v0 68 - 1) = 10; exact g4)⟩
theorem p_Mod_cut_2 {L : q_L} {W : Nat → Prop} {h0 : z_H} {π : Nat → Nat → Option Nat} {N : Nat} {h : z_H} {v0 : Nat} {v1 : Int32} (T : q_U L W h0 π h) (kv0 : q_M L π v0) (wM : ∀ a, v0 ≤ a → a < v0 + 46 → W a) (b0 : 0 ≤ v1) (b1 : v1 ≤ vI h v0 65) (b2 : v1 ≤ 60) (AP : vI h v0 68 = 0 ∨ vA h (v0 + 42) (vI h v0 68 - 1) = 10) (rl : vI h v0 70 ≤ vI h v0 4) (hN : 100000 ≤ N) : qk (f_Mod_cut_2 N  N v0 v1 h) (fun r => q_U L W h0 π r.2 ∧ (r.1 = 0) ∧ (vI h v0 70 ≤ vI r.2 v0 70 ∧ vI r.2 v0 70 ≤ vI h v0 4) ∧ (∀ a k, ¬ (a = v0 ∧ (k = 6 ∨ k = 76 ∨ k = 69 ∨ k = 67 ∨ k = 68 ∨ k = 65 ∨ k = 70 ∨ k = 72 ∨ k = 74)) → vI r.2 a k = vI h a k) ∧ (∀ a j, 0 ≤ j → ¬ (a = v0 + 43 ∨ a = v0 + 41 ∨ a = v0 + 39) → vA r.2 a j = vA h a j) ∧ (vI r.2 v0 68 = 0 ∨ vA r.2 (v0 + 42) (vI r.2 v0 68 - 1) = 10)) := by
  have hq := q_qnN hN
  refine p_Mod_cut_2_n (q_lo (M := 61) (by decide) (by decide)) N v0 v1 h T kv0 wM b0 b1 b2 AP rl hN ?_ 
  show 61 - q_n N ≤ _
  rw [hq]
  lia
