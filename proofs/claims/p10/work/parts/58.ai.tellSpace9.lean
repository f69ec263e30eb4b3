theorem zz_dfb12a7768 {a1 : Int32} (h0 : (0 ≤ a1) ∧ (a1 ≤ 400)) : 0 ≤ a1 + 1 := by simp only [Int32.le_iff_toInt_le, Int32.lt_iff_toInt_lt, ← Int32.toInt_inj, ne_eq] at *; have b0 := Int32.le_toInt a1; have c0 := Int32.toInt_lt a1; have l0 : (0 : Int32).toInt = 0 := (by decide); have l1 : (400 : Int32).toInt = 400 := (by decide); have l2 : (1 : Int32).toInt = 1 := (by decide); have s0 : (a1 + 1).toInt = a1.toInt + 1 := q_tA (by decide) (by omega) (by omega); omega
theorem zz_dab65ad405 {a1 a2 : Int32} (h0 : a1 ≤ a2) (h1 : a2 ≤ 60) (h2 : (0 ≤ a1) ∧ (a1 ≤ 400)) : a1 + 1 ≤ 400 := by simp only [Int32.le_iff_toInt_le, Int32.lt_iff_toInt_lt, ← Int32.toInt_inj, ne_eq] at *; have b0 := Int32.le_toInt a1; have c0 := Int32.toInt_lt a1; have l0 : (60 : Int32).toInt = 60 := (by decide); have l1 : (0 : Int32).toInt = 0 := (by decide); have l2 : (400 : Int32).toInt = 400 := (by decide); have l3 : (1 : Int32).toInt = 1 := (by decide); have s0 : (a1 + 1).toInt = a1.toInt + 1 := q_tA (by decide) (by omega) (by omega); omega
theorem zz_5803694929 {a1 a2 : Int32} (h0 : a1 ≤ a2) (h1 : a2 ≤ 60) : a1 < 400 := by simp only [Int32.le_iff_toInt_le, Int32.lt_iff_toInt_lt, ← Int32.toInt_inj, ne_eq] at *; have l0 : (60 : Int32).toInt = 60 := (by decide); have l1 : (400 : Int32).toInt = 400 := (by decide); omega
theorem zz_1a62d12452 {a1 a2 a3 : Int32} (h0 : a1 = a2 + 1) (h1 : a2 ≤ a3) (h2 : (0 ≤ a2) ∧ (a2 ≤ 400)) (h3 : 0 ≤ a3) (h4 : a3 ≤ 60) : a1 ≤ a3 + 1 := by simp only [Int32.le_iff_toInt_le, Int32.lt_iff_toInt_lt, ← Int32.toInt_inj, ne_eq] at *; have b0 := Int32.le_toInt a2; have c0 := Int32.toInt_lt a2; have b1 := Int32.le_toInt a3; have c1 := Int32.toInt_lt a3; have l0 : (1 : Int32).toInt = 1 := (by decide); have l1 : (0 : Int32).toInt = 0 := (by decide); have l2 : (400 : Int32).toInt = 400 := (by decide); have l3 : (60 : Int32).toInt = 60 := (by decide); have s0 : (a2 + 1).toInt = a2.toInt + 1 := q_tA (by decide) (by omega) (by omega); have s1 : (a3 + 1).toInt = a3.toInt + 1 := q_tA (by decide) (by omega) (by omega); omega
theorem zz_f96eb0a13e {a1 a2 : Int32} (h0 : a1 ≤ a2) (h1 : 0 ≤ a2) (h2 : a2 ≤ 60) : a1 ≤ a2 + 1 := by simp only [Int32.le_iff_toInt_le, Int32.lt_iff_toInt_lt, ← Int32.toInt_inj, ne_eq] at *; have b0 := Int32.le_toInt a2; have c0 := Int32.toInt_lt a2; have l0 : (0 : Int32).toInt = 0 := (by decide); have l1 : (60 : Int32).toInt = 60 := (by decide); have l2 : (1 : Int32).toInt = 1 := (by decide); have s0 : (a2 + 1).toInt = a2.toInt + 1 := q_tA (by decide) (by omega) (by omega); omega
set_option maxHeartbeats 1000000 in
theorem p_Mod_tellSpace_9_n {L : q_L} {W : Nat → Prop} {h0 : z_H} {π : Nat → Nat → Option Nat} {N : Nat} {lo : Nat → Int32} (hqn : q_Q lo 61) : ∀ (n : Nat) (v0 : Nat) (v1 : Int32) (v2 : Int32) (v3 : Int32) (h : z_H), q_U L W h0 π h → q_M L π v0 → (∀ a, v0 ≤ a → a < v0 + 46 → W a) → (0 ≤ v3) → (v3 ≤ 60) → (vI h v0 67 ≤ v3) → (100000 ≤ N) → (lo n ≤ v3) → qk (f_Mod_tellSpace_9 N  n v0 v1 v2 v3 h) (fun r => q_U L W h0 π r.2 ∧ (r.1 = 0 ∨ r.1 = 1) ∧ (r.1 = 0 → vI r.2 v0 76 = 1) ∧ (∀ a k, ¬ (a = v0 ∧ (k = 6 ∨ k = 76 ∨ k = 69 ∨ k = 67)) → vI r.2 a k = vI h a k) ∧ (∀ a j, 0 ≤ j → ¬ (a = v0 + 43 ∨ a = v0 + 41) → vA r.2 a j = vA h a j)) := by
  intro n
  induction n with
  | zero => intro v0 v1 v2 v3 h T kv0 wM a0 a1 w hN hms; have hz := hqn.1; exact absurd hms (by grind)
  | succ n ih =>
    intro v0 v1 v2 v3 h T kv0 wM a0 a1 w hN hms
    obtain ⟨hq1, hq2, hq3⟩ := hqn.2 n
    rw [f_Mod_tellSpace_9]
    refine r_Mo_65 T kv0 ?_
    intro x1 ex1 lx1 ux1
    subst ex1
    refine qk_if (fun cc1 => ?_) (fun cc1 => ?_)
    · skip
      unfold f_Mod_tellSpace_74
      refine r_Mo_o T kv0 ?_
      refine c_Mod_tell (v0 := v0) T kv0 wM hN ?_
      intro yr2i2 hr2i2 Tr2i2 gr2i2_0 gr2i2_1 gr2i2_2 gr2i2_3
      dsimp only
      refine qk_zB (by clear ih; first | with_reducible assumption | grind | lia) ?_
      refine qk_some ?_
      exact ⟨Tr2i2, (zz_2eca02bf2d gr2i2_0), (zz_89d5dbace5 gr2i2_1), (by clear ih; show ∀ a k, ¬ (a = v0 ∧ (k = 6 ∨ k = 76 ∨ k = 69 ∨ k = 67)) → vI hr2i2 a k = vI h a k; intro a k n0; rw [gr2i2_2 a k (by omega)]), (by clear ih; show ∀ a j, 0 ≤ j → ¬ (a = v0 + 43 ∨ a = v0 + 41) → vA hr2i2 a j = vA h a j; intro a j j0 n0; rw [gr2i2_3 a j j0 (by omega)])⟩
    · skip
      refine qk_if (fun cc3 => ?_) (fun cc3 => ?_)
      · skip
        unfold f_Mod_tellSpace_74
        refine r_Mo_o T kv0 ?_
        refine c_Mod_tell (v0 := v0) T kv0 wM hN ?_
        intro yr2i4 hr2i4 Tr2i4 gr2i4_0 gr2i4_1 gr2i4_2 gr2i4_3
        dsimp only
        refine qk_zB (by clear ih; first | with_reducible assumption | grind | lia) ?_
        refine qk_some ?_
        exact ⟨Tr2i4, (zz_2eca02bf2d gr2i4_0), (zz_89d5dbace5 gr2i4_1), (by clear ih; show ∀ a k, ¬ (a = v0 ∧ (k = 6 ∨ k = 76 ∨ k = 69 ∨ k = 67)) → vI hr2i4 a k = vI h a k; intro a k n0; rw [gr2i4_2 a k (by omega)]), (by clear ih; show ∀ a j, 0 ≤ j → ¬ (a = v0 + 43 ∨ a = v0 + 41) → vA hr2i4 a j = vA h a j; intro a j j0 n0; rw [gr2i4_3 a j j0 (by omega)])⟩
      · skip
        refine qk_if (fun cc5 => ?_) (fun cc5 => ?_)
        · skip
          unfold f_Mod_tellSpace_41
          refine qk_if (fun cc7 => absurd cc7 (by decide)) (fun _ => ?_)
          refine r_Mo_60 T kv0 ?_
          refine r_Mo_67 T kv0 ?_
          intro x4i6 ex4i6 lx4i6 ux4i6
          subst ex4i6
          have o8 := g_Mo_67 T kv0
          refine w_Mo_67 T kv0 (wM _ (by omega) (by omega)) (zz_dfb12a7768 o8) (zz_dab65ad405 w a1 o8) ?_
          intro h5i6 Th5i6 ih5i6 ah5i6
          refine r_Mo_58 Th5i6 kv0 ?_
          refine r_Mo_e39 Th5i6 kv0 a0 (zz_e867aa2235 a1) ?_
          intro x7i6 ex7i6
          have sx7i6 : (vA h (v0 + 39) v3) = x7i6 := (ex7i6.trans (by rw [ah5i6 (v0 + 39) v3])).symm
          subst sx7i6
          refine w_Mo_e41 Th5i6 kv0 (wM _ (by omega) (by omega)) lx4i6 (zz_5803694929 w a1) ?_
          intro h8i6 Th8i6 ih8i6 ah8i6
          refine qk_bs ?_
          have o9 := g_Mo_65 T kv0
          have o10 : vI h8i6 v0 67 = (vI h v0 67) + 1 := (by rw [ih8i6 v0 67, ih5i6 v0 67, if_pos ⟨rfl, rfl⟩])
          refine qk_mono (ih (v0) (v1) (1) ((v3 + 1)) h8i6 Th8i6 kv0 wM (zz_88232beecb a0 a1) (zz_062b4af88c cc1 o9 a0 a1) (zz_1a62d12452 o10 w o8 a0 a1) hN (zz_906d4321e3 hms hq1 hq2 hq3 a0 a1)) ?_
          rintro ⟨y, hz⟩ ⟨Tz, g0, g1, g2, g3⟩
          try dsimp only at *
          exact ⟨Tz, (zz_2eca02bf2d g0), (zz_89d5dbace5 g1), (by clear ih; show ∀ a k, ¬ (a = v0 ∧ (k = 6 ∨ k = 76 ∨ k = 69 ∨ k = 67)) → vI hz a k = vI h a k; intro a k n0; rw [g2 a k (by omega), ih8i6, ih5i6, if_neg (by omega)]), (by clear ih; show ∀ a j, 0 ≤ j → ¬ (a = v0 + 43 ∨ a = v0 + 41) → vA hz a j = vA h a j; intro a j j0 n0; rw [g3 a j j0 (by omega), ah8i6 a j j0, if_neg (by omega), ah5i6])⟩
        · skip
          refine r_Mo_58 T kv0 ?_
          refine r_Mo_e39 T kv0 a0 (zz_e867aa2235 a1) ?_
          intro x6 ex6
          subst ex6
          refine qk_if (fun cc12 => ?_) (fun cc12 => ?_)
          · skip
            unfold f_Mod_tellSpace_41
            refine qk_if (fun _ => ?_) (fun cc14 => absurd (by decide) cc14)
            refine qk_bs ?_
            have o15 := g_Mo_65 T kv0
            refine qk_mono (ih (v0) (v1) (0) ((v3 + 1)) h T kv0 wM (zz_88232beecb a0 a1) (zz_062b4af88c cc1 o15 a0 a1) (zz_f96eb0a13e w a0 a1) hN (zz_906d4321e3 hms hq1 hq2 hq3 a0 a1)) ?_
            rintro ⟨y, hz⟩ ⟨Tz, g0, g1, g2, g3⟩
            try dsimp only at *
            exact ⟨Tz, (zz_2eca02bf2d g0), (zz_89d5dbace5 g1), (by clear ih; show ∀ a k, ¬ (a = v0 ∧ (k = 6 ∨ k = 76 ∨ k = 69 ∨ k = 67)) → vI hz a k = vI h a k; intro a k n0; rw [g2 a k (by omega)]), (by clear ih; show ∀ a j, 0 ≤ j → ¬ (a = v0 + 43 ∨ a = v0 + 41) → vA hz a j = vA h a j; intro a j j0 n0; rw [g3 a j j0 (by omega)])⟩
          · skip
            unfold f_Mod_tellSpace_41
            refine qk_if (fun cc18 => absurd cc18 (by decide)) (fun _ => ?_)
            refine r_Mo_60 T kv0 ?_
            refine r_Mo_67 T kv0 ?_
            intro x4i17 ex4i17 lx4i17 ux4i17
            subst ex4i17
            have o19 := g_Mo_67 T kv0
            refine w_Mo_67 T kv0 (wM _ (by omega) (by omega)) (zz_dfb12a7768 o19) (zz_dab65ad405 w a1 o19) ?_
            intro h5i17 Th5i17 ih5i17 ah5i17
            refine r_Mo_58 Th5i17 kv0 ?_
            refine r_Mo_e39 Th5i17 kv0 a0 (zz_e867aa2235 a1) ?_
            intro x7i17 ex7i17
            have sx7i17 : (vA h (v0 + 39) v3) = x7i17 := (ex7i17.trans (by rw [ah5i17 (v0 + 39) v3])).symm
            subst sx7i17
            refine w_Mo_e41 Th5i17 kv0 (wM _ (by omega) (by omega)) lx4i17 (zz_5803694929 w a1) ?_
            intro h8i17 Th8i17 ih8i17 ah8i17
            refine qk_bs ?_
            have o20 := g_Mo_65 T kv0
            have o21 : vI h8i17 v0 67 = (vI h v0 67) + 1 := (by rw [ih8i17 v0 67, ih5i17 v0 67, if_pos ⟨rfl, rfl⟩])
            refine qk_mono (ih (v0) (v1) (1) ((v3 + 1)) h8i17 Th8i17 kv0 wM (zz_88232beecb a0 a1) (zz_062b4af88c cc1 o20 a0 a1) (zz_1a62d12452 o21 w o19 a0 a1) hN (zz_906d4321e3 hms hq1 hq2 hq3 a0 a1)) ?_
            rintro ⟨y, hz⟩ ⟨Tz, g0, g1, g2, g3⟩
            try dsimp only at *
            exact ⟨Tz, (zz_2eca02bf2d g0), (zz_89d5dbace5 g1), (by clear ih; show ∀ a k, ¬ (a = v0 ∧ (k = 6 ∨ k = 76 ∨ k = 69 ∨ k = 67)) → vI hz a k = vI h a k; intro a k n0; rw [g2 a k (by omega), ih8i17, ih5i17, if_neg (by omega)]), (by clear ih; show ∀ a j, 0 ≤ j → ¬ (a = v0 + 43 ∨ a = v0 + 41) → vA hz a j = vA h a j; intro a j j0 n0; rw [g3 a j j0 (by omega), ah8i17 a j j0, if_neg (by omega), ah5i17])⟩
theorem p_Mod_tellSpace_9 {L : q_L} {W : Nat → Prop} {h0 : z_H} {π : Nat → Nat → Option Nat} {N : Nat} {h : z_H} {v0 : Nat} {v1 : Int32} {v2 : Int32} {v3 : Int32} (T : q_U L W h0 π h) (kv0 : q_M L π v0) (wM : ∀ a, v0 ≤ a → a < v0 + 46 → W a) (a0 : 0 ≤ v3) (a1 : v3 ≤ 60) (w : vI h v0 67 ≤ v3) (hN : 100000 ≤ N) : qk (f_Mod_tellSpace_9 N  N v0 v1 v2 v3 h) (fun r => q_U L W h0 π r.2 ∧ (r.1 = 0 ∨ r.1 = 1) ∧ (r.1 = 0 → vI r.2 v0 76 = 1) ∧ (∀ a k, ¬ (a = v0 ∧ (k = 6 ∨ k = 76 ∨ k = 69 ∨ k = 67)) → vI r.2 a k = vI h a k) ∧ (∀ a j, 0 ≤ j → ¬ (a = v0 + 43 ∨ a = v0 + 41) → vA r.2 a j = vA h a j)) := by
  have hq := q_qnN hN
  refine p_Mod_tellSpace_9_n (q_lo (M := 61) (by decide) (by decide)) N v0 v1 v2 v3 h T kv0 wM a0 a1 w hN ?_ 
  show 61 - q_n N ≤ _
  rw [hq]
  lia
