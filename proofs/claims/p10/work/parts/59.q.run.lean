theorem zz_3346fd386b {a1 a2 : Int32} (h0 : a1 = 1) : (a1 = 0) → (a2 ≠ 0) := by simp only [Int32.le_iff_toInt_le, Int32.lt_iff_toInt_lt, ← Int32.toInt_inj, ne_eq] at *; have l0 : (1 : Int32).toInt = 1 := (by decide); have l1 : (0 : Int32).toInt = 0 := (by decide); omega
theorem zz_f19e07baa7 {a1 a2 a3 : Int32} (h0 : a1 = a2) (h1 : ¬ (a2 = 0)) : (a3 = 0) → (a1 ≠ 0) := by simp only [Int32.le_iff_toInt_le, Int32.lt_iff_toInt_lt, ← Int32.toInt_inj, ne_eq] at *; have l0 : (0 : Int32).toInt = 0 := (by decide); omega
set_option maxHeartbeats 4000000 in
theorem p_Mod_run {L : q_L} {W : Nat → Prop} {h0 : z_H} {π : Nat → Nat → Option Nat} {N : Nat} {h : z_H} {v0 : Nat} (T : q_U L W h0 π h) (kv0 : q_M L π v0) (wM : ∀ a, v0 ≤ a → a < v0 + 46 → W a) (LV : vI h v0 8 ≠ 0 → q_LV h v0 (vI h v0 7)) (hN : 100000 ≤ N) : qk (f_Mod_run N v0 h) (fun r => q_U L W h0 π r.2 ∧ (∀ a k, ¬ (a = v0 ∧ (k = 6 ∨ k = 76 ∨ k = 69 ∨ k = 67 ∨ k = 68 ∨ k = 65 ∨ k = 66 ∨ k = 70 ∨ k = 72 ∨ k = 73 ∨ k = 74 ∨ k = 54 ∨ k = 55 ∨ k = 56 ∨ k = 57 ∨ k = 71 ∨ k = 75)) → vI r.2 a k = vI h a k) ∧ (∀ a j, 0 ≤ j → ¬ (a = v0 + 43 ∨ a = v0 + 41 ∨ a = v0 + 39 ∨ a = v0 + 40 ∨ a = v0 + 42 ∨ a = v0 + 36 ∨ a = v0 + 37 ∨ a = v0 + 38 ∨ a = v0 + 45) → vA r.2 a j = vA h a j)) := by
  unfold f_Mod_run
  refine r_Mo_8 T kv0 ?_
  intro x1 ex1
  subst ex1
  refine qk_if (fun cc1 => ?_) (fun cc1 => ?_)
  · skip
    refine r_Mo_o T kv0 ?_
    refine c_Mod_fail (v0 := v0) (v1 := 1) T kv0 wM ?_
    intro yr18 hr18 Tr18 gr18_0 gr18_1 gr18_2
    dsimp only
    refine qk_some ?_
    exact ⟨Tr18, (by show ∀ a k, ¬ (a = v0 ∧ (k = 6 ∨ k = 76 ∨ k = 69 ∨ k = 67 ∨ k = 68 ∨ k = 65 ∨ k = 66 ∨ k = 70 ∨ k = 72 ∨ k = 73 ∨ k = 74 ∨ k = 54 ∨ k = 55 ∨ k = 56 ∨ k = 57 ∨ k = 71 ∨ k = 75)) → vI hr18 a k = vI h a k; intro a k n0; rw [gr18_1 a k, if_neg (by omega)]), (by show ∀ a j, 0 ≤ j → ¬ (a = v0 + 43 ∨ a = v0 + 41 ∨ a = v0 + 39 ∨ a = v0 + 40 ∨ a = v0 + 42 ∨ a = v0 + 36 ∨ a = v0 + 37 ∨ a = v0 + 38 ∨ a = v0 + 45) → vA hr18 a j = vA h a j; intro a j j0 n0; rw [gr18_2 a j])⟩
  · skip
    refine w_Mo_6 T kv0 (wM _ (by omega) (by omega)) ?_
    intro h3 Th3 ih3 ah3
    refine w_Mo_65 Th3 kv0 (wM _ (by omega) (by omega)) (by show (0 : Int32) ≤ 0; decide) (by show (0 : Int32) ≤ 60; decide) ?_
    intro h4 Th4 ih4 ah4
    refine w_Mo_66 Th4 kv0 (wM _ (by omega) (by omega)) (by show (0 : Int32) ≤ 0; decide) (by show (0 : Int32) ≤ 60; decide) ?_
    intro h5 Th5 ih5 ah5
    refine w_Mo_68 Th5 kv0 (wM _ (by omega) (by omega)) (by show (0 : Int32) ≤ 0; decide) (by show (0 : Int32) ≤ 200; decide) ?_
    intro h6 Th6 ih6 ah6
    refine w_Mo_69 Th6 kv0 (wM _ (by omega) (by omega)) (by show (0 : Int32) ≤ 0; decide) (by show (0 : Int32) ≤ 600; decide) ?_
    intro h7 Th7 ih7 ah7
    refine w_Mo_70 Th7 kv0 (wM _ (by omega) (by omega)) (by show (0 : Int32) ≤ 0; decide) (by show (0 : Int32) ≤ 12; decide) ?_
    intro h8 Th8 ih8 ah8
    refine w_Mo_71 Th8 kv0 (wM _ (by omega) (by omega)) (by show (0 : Int32) ≤ 0; decide) (by show (0 : Int32) ≤ 200; decide) ?_
    intro h9 Th9 ih9 ah9
    refine w_Mo_72 Th9 kv0 (wM _ (by omega) (by omega)) ?_
    intro h10 Th10 ih10 ah10
    refine w_Mo_73 Th10 kv0 (wM _ (by omega) (by omega)) ?_
    intro h11 Th11 ih11 ah11
    refine w_Mo_74 Th11 kv0 (wM _ (by omega) (by omega)) ?_
    intro h12 Th12 ih12 ah12
    refine r_Mo_4 Th12 kv0 ?_
    intro x13 ex13 lx13 ux13
    have sx13 : (vI h v0 4) = x13 := (ex13.trans (by rw [ih12 v0 4, if_neg (fun z => absurd z.2 (by decide)), ih11 v0 4, if_neg (fun z => absurd z.2 (by decide)), ih10 v0 4, if_neg (fun z => absurd z.2 (by decide)), ih9 v0 4, if_neg (fun z => absurd z.2 (by decide)), ih8 v0 4, if_neg (fun z => absurd z.2 (by decide)), ih7 v0 4, if_neg (fun z => absurd z.2 (by decide)), ih6 v0 4, if_neg (fun z => absurd z.2 (by decide)), ih5 v0 4, if_neg (fun z => absurd z.2 (by decide)), ih4 v0 4, if_neg (fun z => absurd z.2 (by decide)), ih3 v0 4, if_neg (fun z => absurd z.2 (by decide))])).symm
    subst sx13
    refine qk_if (fun cc2 => ?_) (fun cc2 => ?_)
    · skip
      refine w_Mo_76 Th12 kv0 (wM _ (by omega) (by omega)) ?_
      intro h16 Th16 ih16 ah16
      have o3 : vI h16 v0 70 = 0 := (by rw [ih16 v0 70, if_neg (fun z => absurd z.2 (by decide)), ih12 v0 70, if_neg (fun z => absurd z.2 (by decide)), ih11 v0 70, if_neg (fun z => absurd z.2 (by decide)), ih10 v0 70, if_neg (fun z => absurd z.2 (by decide)), ih9 v0 70, if_neg (fun z => absurd z.2 (by decide)), ih8 v0 70, if_pos ⟨rfl, rfl⟩])
      have o4 : vI h16 v0 68 = 0 := (by rw [ih16 v0 68, if_neg (fun z => absurd z.2 (by decide)), ih12 v0 68, if_neg (fun z => absurd z.2 (by decide)), ih11 v0 68, if_neg (fun z => absurd z.2 (by decide)), ih10 v0 68, if_neg (fun z => absurd z.2 (by decide)), ih9 v0 68, if_neg (fun z => absurd z.2 (by decide)), ih8 v0 68, if_neg (fun z => absurd z.2 (by decide)), ih7 v0 68, if_neg (fun z => absurd z.2 (by decide)), ih6 v0 68, if_pos ⟨rfl, rfl⟩])
      have o5 : vI h16 v0 76 = 1 := (by rw [ih16 v0 76, if_pos ⟨rfl, rfl⟩])
      refine qk_mono (p_Mod_run_81 (v0 := v0) (v1 := 0) Th16 kv0 wM (by show (0 : Int32) ≤ 0; decide) (by show (0 : Int32) ≤ 40; decide) (by rw [ih16 v0 7, if_neg (fun z => absurd z.2 (by decide)), ih12 v0 7, if_neg (fun z => absurd z.2 (by decide)), ih11 v0 7, if_neg (fun z => absurd z.2 (by decide)), ih10 v0 7, if_neg (fun z => absurd z.2 (by decide)), ih9 v0 7, if_neg (fun z => absurd z.2 (by decide)), ih8 v0 7, if_neg (fun z => absurd z.2 (by decide)), ih7 v0 7, if_neg (fun z => absurd z.2 (by decide)), ih6 v0 7, if_neg (fun z => absurd z.2 (by decide)), ih5 v0 7, if_neg (fun z => absurd z.2 (by decide)), ih4 v0 7, if_neg (fun z => absurd z.2 (by decide)), ih3 v0 7, if_neg (fun z => absurd z.2 (by decide))]; exact q_LV_run (LV (zz_36c4603e00 cc1)) (g_Mo_7 T kv0).1 (g_Mo_7 T kv0).2 (g_Mo_e19 T kv0 (vI h v0 7)).2 (g_Mo_e22 T kv0 (vI h v0 7)).1 (g_Mo_e22 T kv0 (vI h v0 7)).2 (fun a j j0 na => by rw [ah16, ah12, ah11, ah10, ah9, ah8, ah7, ah6, ah5, ah4, ah3])) (zz_042e269fe6 o3) (zz_042e269fe6 o4) (zz_3346fd386b o5) hN) ?_
      rintro ⟨y, hz⟩ ⟨Tz, g0, g1⟩
      try dsimp only at *
      exact ⟨Tz, (by show ∀ a k, ¬ (a = v0 ∧ (k = 6 ∨ k = 76 ∨ k = 69 ∨ k = 67 ∨ k = 68 ∨ k = 65 ∨ k = 66 ∨ k = 70 ∨ k = 72 ∨ k = 73 ∨ k = 74 ∨ k = 54 ∨ k = 55 ∨ k = 56 ∨ k = 57 ∨ k = 71 ∨ k = 75)) → vI hz a k = vI h a k; intro a k n0; rw [g0 a k (by omega), ih16, if_neg (by omega), ih12, if_neg (by omega), ih11, if_neg (by omega), ih10, if_neg (by omega), ih9, if_neg (by omega), ih8, if_neg (by omega), ih7, if_neg (by omega), ih6, if_neg (by omega), ih5, if_neg (by omega), ih4, if_neg (by omega), ih3, if_neg (by omega)]), (by show ∀ a j, 0 ≤ j → ¬ (a = v0 + 43 ∨ a = v0 + 41 ∨ a = v0 + 39 ∨ a = v0 + 40 ∨ a = v0 + 42 ∨ a = v0 + 36 ∨ a = v0 + 37 ∨ a = v0 + 38 ∨ a = v0 + 45) → vA hz a j = vA h a j; intro a j j0 n0; rw [g1 a j j0 (by omega), ah16, ah12, ah11, ah10, ah9, ah8, ah7, ah6, ah5, ah4, ah3])⟩
    · skip
      refine w_Mo_76 Th12 kv0 (wM _ (by omega) (by omega)) ?_
      intro h15 Th15 ih15 ah15
      have o7 : vI h15 v0 70 = 0 := (by rw [ih15 v0 70, if_neg (fun z => absurd z.2 (by decide)), ih12 v0 70, if_neg (fun z => absurd z.2 (by decide)), ih11 v0 70, if_neg (fun z => absurd z.2 (by decide)), ih10 v0 70, if_neg (fun z => absurd z.2 (by decide)), ih9 v0 70, if_neg (fun z => absurd z.2 (by decide)), ih8 v0 70, if_pos ⟨rfl, rfl⟩])
      have o8 : vI h15 v0 68 = 0 := (by rw [ih15 v0 68, if_neg (fun z => absurd z.2 (by decide)), ih12 v0 68, if_neg (fun z => absurd z.2 (by decide)), ih11 v0 68, if_neg (fun z => absurd z.2 (by decide)), ih10 v0 68, if_neg (fun z => absurd z.2 (by decide)), ih9 v0 68, if_neg (fun z => absurd z.2 (by decide)), ih8 v0 68, if_neg (fun z => absurd z.2 (by decide)), ih7 v0 68, if_neg (fun z => absurd z.2 (by decide)), ih6 v0 68, if_pos ⟨rfl, rfl⟩])
      have o9 : vI h15 v0 4 = vI h v0 4 := (by rw [ih15 v0 4, if_neg (fun z => absurd z.2 (by decide)), ih12 v0 4, if_neg (fun z => absurd z.2 (by decide)), ih11 v0 4, if_neg (fun z => absurd z.2 (by decide)), ih10 v0 4, if_neg (fun z => absurd z.2 (by decide)), ih9 v0 4, if_neg (fun z => absurd z.2 (by decide)), ih8 v0 4, if_neg (fun z => absurd z.2 (by decide)), ih7 v0 4, if_neg (fun z => absurd z.2 (by decide)), ih6 v0 4, if_neg (fun z => absurd z.2 (by decide)), ih5 v0 4, if_neg (fun z => absurd z.2 (by decide)), ih4 v0 4, if_neg (fun z => absurd z.2 (by decide)), ih3 v0 4, if_neg (fun z => absurd z.2 (by decide))])
      refine qk_mono (p_Mod_run_81 (v0 := v0) (v1 := 0) Th15 kv0 wM (by show (0 : Int32) ≤ 0; decide) (by show (0 : Int32) ≤ 40; decide) (by rw [ih15 v0 7, if_neg (fun z => absurd z.2 (by decide)), ih12 v0 7, if_neg (fun z => absurd z.2 (by decide)), ih11 v0 7, if_neg (fun z => absurd z.2 (by decide)), ih10 v0 7, if_neg (fun z => absurd z.2 (by decide)), ih9 v0 7, if_neg (fun z => absurd z.2 (by decide)), ih8 v0 7, if_neg (fun z => absurd z.2 (by decide)), ih7 v0 7, if_neg (fun z => absurd z.2 (by decide)), ih6 v0 7, if_neg (fun z => absurd z.2 (by decide)), ih5 v0 7, if_neg (fun z => absurd z.2 (by decide)), ih4 v0 7, if_neg (fun z => absurd z.2 (by decide)), ih3 v0 7, if_neg (fun z => absurd z.2 (by decide))]; exact q_LV_run (LV (zz_36c4603e00 cc1)) (g_Mo_7 T kv0).1 (g_Mo_7 T kv0).2 (g_Mo_e19 T kv0 (vI h v0 7)).2 (g_Mo_e22 T kv0 (vI h v0 7)).1 (g_Mo_e22 T kv0 (vI h v0 7)).2 (fun a j j0 na => by rw [ah15, ah12, ah11, ah10, ah9, ah8, ah7, ah6, ah5, ah4, ah3])) (zz_042e269fe6 o7) (zz_042e269fe6 o8) (zz_f19e07baa7 o9 cc2) hN) ?_
      rintro ⟨y, hz⟩ ⟨Tz, g0, g1⟩
      try dsimp only at *
      exact ⟨Tz, (by show ∀ a k, ¬ (a = v0 ∧ (k = 6 ∨ k = 76 ∨ k = 69 ∨ k = 67 ∨ k = 68 ∨ k = 65 ∨ k = 66 ∨ k = 70 ∨ k = 72 ∨ k = 73 ∨ k = 74 ∨ k = 54 ∨ k = 55 ∨ k = 56 ∨ k = 57 ∨ k = 71 ∨ k = 75)) → vI hz a k = vI h a k; intro a k n0; rw [g0 a k (by omega), ih15, if_neg (by omega), ih12, if_neg (by omega), ih11, if_neg (by omega), ih10, if_neg (by omega), ih9, if_neg (by omega), ih8, if_neg (by omega), ih7, if_neg (by omega), ih6, if_neg (by omega), ih5, if_neg (by omega), ih4, if_neg (by omega), ih3, if_neg (by omega)]), (by show ∀ a j, 0 ≤ j → ¬ (a = v0 + 43 ∨ a = v0 + 41 ∨ a = v0 + 39 ∨ a = v0 + 40 ∨ a = v0 + 42 ∨ a = v0 + 36 ∨ a = v0 + 37 ∨ a = v0 + 38 ∨ a = v0 + 45) → vA hz a j = vA h a j; intro a j j0 n0; rw [g1 a j j0 (by omega), ah15, ah12, ah11, ah10, ah9, ah8, ah7, ah6, ah5, ah4, ah3])⟩
theorem c_Mod_run {L : q_L} {W : Nat → Prop} {h0 : z_H} {π : Nat → Nat → Option Nat} {N : Nat} {h : z_H} {v0 : Nat} {β : Type} {f : Int32 × z_H → Option β} {Q : β → Prop} (T : q_U L W h0 π h) (kv0 : q_M L π v0) (wM : ∀ a, v0 ≤ a → a < v0 + 46 → W a) (LV : vI h v0 8 ≠ 0 → q_LV h v0 (vI h v0 7)) (hN : 100000 ≤ N) (H : ∀ y h', q_U L W h0 π h' → (∀ a k, ¬ (a = v0 ∧ (k = 6 ∨ k = 76 ∨ k = 69 ∨ k = 67 ∨ k = 68 ∨ k = 65 ∨ k = 66 ∨ k = 70 ∨ k = 72 ∨ k = 73 ∨ k = 74 ∨ k = 54 ∨ k = 55 ∨ k = 56 ∨ k = 57 ∨ k = 71 ∨ k = 75)) → vI h' a k = vI h a k) → (∀ a j, 0 ≤ j → ¬ (a = v0 + 43 ∨ a = v0 + 41 ∨ a = v0 + 39 ∨ a = v0 + 40 ∨ a = v0 + 42 ∨ a = v0 + 36 ∨ a = v0 + 37 ∨ a = v0 + 38 ∨ a = v0 + 45) → vA h' a j = vA h a j) → qk (f (y, h')) Q) : qk (z_b (f_Mod_run N v0 h) f) Q := by
  refine qk_b (p_Mod_run T kv0 wM LV hN) ?_
  rintro ⟨y, hz⟩ ⟨Tz, g0, g1⟩
  exact H y hz Tz g0 g1
