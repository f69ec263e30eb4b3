theorem zz_f855ea66fe {a1 : Int32} (h0 : a1 = -1) : (-1 ≤ a1) ∧ (a1 ≤ 25) := by simp only [Int32.le_iff_toInt_le, Int32.lt_iff_toInt_lt, ← Int32.toInt_inj, ne_eq] at *; have l0 : (-1 : Int32).toInt = -1 := (by decide); have l1 : (25 : Int32).toInt = 25 := (by decide); omega
theorem zz_2065b23ca0 {a1 a2 a3 a4 a5 a6 : Int32} (h0 : (a1 = -1) → (a2 ≤ a3)) (h1 : (a1 ≠ -1) → (a1 = a4)) (h2 : (a5 ≠ -1) → (a3 < a2)) (h3 : (a5 ≠ -1) → (a5 = a4)) (h4 : (a6 = 0) ↔ ((a5 < 97) ∨ (122 < a5))) (h5 : ¬ (a6 = 0)) (h6 : (-1 ≤ a1) ∧ (a1 ≤ 126)) : -1 ≤ a1 - 97 := by simp only [Int32.le_iff_toInt_le, Int32.lt_iff_toInt_lt, ← Int32.toInt_inj, ne_eq] at *; have l0 : (-1 : Int32).toInt = -1 := (by decide); have l1 : (0 : Int32).toInt = 0 := (by decide); have l2 : (97 : Int32).toInt = 97 := (by decide); have l3 : (122 : Int32).toInt = 122 := (by decide); have l4 : (126 : Int32).toInt = 126 := (by decide); have s0 : (a1 - 97).toInt = a1.toInt - 97 := q_tS (by decide) (by omega) (by omega); omega
theorem zz_e68a3b601e {a1 : Int32} (h0 : (-1 ≤ a1) ∧ (a1 ≤ 126)) : a1 - 97 ≤ 40 := by simp only [Int32.le_iff_toInt_le, Int32.lt_iff_toInt_lt, ← Int32.toInt_inj, ne_eq] at *; have l0 : (-1 : Int32).toInt = -1 := (by decide); have l1 : (126 : Int32).toInt = 126 := (by decide); have l2 : (97 : Int32).toInt = 97 := (by decide); have l3 : (40 : Int32).toInt = 40 := (by decide); have s0 : (a1 - 97).toInt = a1.toInt - 97 := q_tS (by decide) (by omega) (by omega); omega
theorem zz_d6d5d8e3e1 {a1 a2 a3 a4 a5 a6 a7 : Int32} (h0 : a1 = a2 - 97) (h1 : (a2 = -1) → (a3 ≤ a4)) (h2 : (a2 ≠ -1) → (a2 = a5)) (h3 : (a6 ≠ -1) → (a4 < a3)) (h4 : (a6 ≠ -1) → (a6 = a5)) (h5 : (a7 = 0) ↔ ((a6 < 97) ∨ (122 < a6))) (h6 : ¬ (a7 = 0)) (h7 : (-1 ≤ a2) ∧ (a2 ≤ 126)) : (-1 ≤ a1) ∧ (a1 ≤ 25) := by simp only [Int32.le_iff_toInt_le, Int32.lt_iff_toInt_lt, ← Int32.toInt_inj, ne_eq] at *; have l0 : (97 : Int32).toInt = 97 := (by decide); have l1 : (-1 : Int32).toInt = -1 := (by decide); have l2 : (0 : Int32).toInt = 0 := (by decide); have l3 : (122 : Int32).toInt = 122 := (by decide); have l4 : (126 : Int32).toInt = 126 := (by decide); have l5 : (25 : Int32).toInt = 25 := (by decide); have s0 : (a2 - 97).toInt = a2.toInt - 97 := q_tS (by decide) (by omega) (by omega); omega
theorem zz_2f2669720f {a1 a2 a3 a4 a5 a6 a7 a8 : Int32} (h0 : a1 = a2 + 1) (h1 : a3 = a4) (h2 : a5 = a2) (h3 : (a6 ≠ -1) → (a5 < a3)) (h4 : (a7 = 0) ↔ ((a6 < 97) ∨ (122 < a6))) (h5 : ¬ (a7 = 0)) (h6 : (0 ≤ a2) ∧ (a2 ≤ 250)) : (a8 = 0) → ((a2 ≤ a1) ∧ (a1 ≤ a4)) := by simp only [Int32.le_iff_toInt_le, Int32.lt_iff_toInt_lt, ← Int32.toInt_inj, ne_eq] at *; have l0 : (1 : Int32).toInt = 1 := (by decide); have l1 : (-1 : Int32).toInt = -1 := (by decide); have l2 : (0 : Int32).toInt = 0 := (by decide); have l3 : (97 : Int32).toInt = 97 := (by decide); have l4 : (122 : Int32).toInt = 122 := (by decide); have l5 : (250 : Int32).toInt = 250 := (by decide); have s0 : (a2 + 1).toInt = a2.toInt + 1 := q_tA (by decide) (by omega) (by omega); omega
set_option maxHeartbeats 1000000 in
theorem p_Mod_branch {L : q_L} {W : Nat → Prop} {h0 : z_H} {π : Nat → Nat → Option Nat} {N : Nat} {h : z_H} {v0 : Nat} {v1 : Int32} (T : q_U L W h0 π h) (kv0 : q_M L π v0) (wM : ∀ a, v0 ≤ a → a < v0 + 46 → W a) (s0 : 0 ≤ v1) (s1 : v1 < 80) (bd : vI h v0 48 = 0) (hl : vI h v0 41 ≤ vI h v0 3) : qk (f_Mod_branch N v0 v1 h) (fun r => q_U L W h0 π r ∧ (∀ a k, ¬ (a = v0 ∧ (k = 5 ∨ k = 48 ∨ k = 41)) → vI r a k = vI h a k) ∧ (∀ a j, 0 ≤ j → ¬ (a = v0 + 13 ∨ a = v0 + 15) → vA r a j = vA h a j) ∧ (∀ j, 0 ≤ j → j ≠ v1 → vA r (v0 + 13) j = vA h (v0 + 13) j) ∧ (-1 ≤ vA r (v0 + 13) v1 ∧ vA r (v0 + 13) v1 ≤ 25) ∧ (vI r v0 48 = 0 → vI h v0 41 ≤ vI r v0 41 ∧ vI r v0 41 ≤ vI h v0 3) ∧ (vI h v0 41 ≤ vI r v0 41 ∧ vI r v0 41 ≤ 242)) := by
  unfold f_Mod_branch
  refine r_Mo_18 T kv0 ?_
  refine w_Mo_e13 T kv0 (wM _ (by omega) (by omega)) s0 s1 (by decide) (by decide) ?_
  intro h2 Th2 ih2 ah2
  refine r_Mo_20 Th2 kv0 ?_
  refine r_Mo_41 Th2 kv0 ?_
  intro x4 ex4 lx4 ux4
  have sx4 : (vI h v0 41) = x4 := (ex4.trans (by rw [ih2 v0 41])).symm
  subst sx4
  refine w_Mo_e15 Th2 kv0 (wM _ (by omega) (by omega)) s0 s1 ?_
  intro h5 Th5 ih5 ah5
  refine r_Mo_o Th5 kv0 ?_
  refine c_Mod_here2 (v0 := v0) Th5 kv0 ?_
  intro yr7 gr7_0 gr7_1 gr7_2 gr7_3 gr7_4
  dsimp only
  refine c_Mod_in (v0 := (yr7)) (v1 := 97) (v2 := 122) Th5 ?_
  intro yr8 gr8_0 gr8_1
  dsimp only
  refine qk_if (fun cc1 => ?_) (fun cc1 => ?_)
  · skip
    unfold f_Mod_branch_56
    refine r_Mo_o Th5 kv0 ?_
    refine c_Mod_closed (v0 := v0) Th5 kv0 wM ?_
    intro r2i2 Tr2i2 gr2i2_0 gr2i2_1 gr2i2_2
    refine qk_some ?_
    have o3 : vA r2i2 (v0 + 13) v1 = -1 := (by rw [gr2i2_1 (v0 + 13) v1, ah5 (v0 + 13) v1 s0, if_neg (fun z => absurd z.1 (by omega)), ah2 (v0 + 13) v1 s0, if_pos ⟨rfl, rfl⟩])
    have o4 : vI r2i2 v0 41 = vI h v0 41 := (by rw [gr2i2_0 v0 41 (by omega), ih5 v0 41, ih2 v0 41])
    have o5 := g_Mo_3 T kv0
    exact ⟨Tr2i2, (by show ∀ a k, ¬ (a = v0 ∧ (k = 5 ∨ k = 48 ∨ k = 41)) → vI r2i2 a k = vI h a k; intro a k n0; rw [gr2i2_0 a k (by omega), ih5, ih2]), (by show ∀ a j, 0 ≤ j → ¬ (a = v0 + 13 ∨ a = v0 + 15) → vA r2i2 a j = vA h a j; intro a j j0 n0; rw [gr2i2_1 a j, ah5 a j j0, if_neg (by omega), ah2 a j j0, if_neg (by omega)]), (by show ∀ j, 0 ≤ j → j ≠ v1 → vA r2i2 (v0 + 13) j = vA h (v0 + 13) j; intro j j0 n0; rw [gr2i2_1 (v0 + 13) j, ah5 (v0 + 13) j j0, if_neg (fun z => absurd z.1 (by omega)), ah2 (v0 + 13) j j0, if_neg (fun z => absurd z.2 (zz_946771669d n0))]), (zz_f855ea66fe o3), (zz_5e072afda4 o4 hl), (zz_b80cbdc3f2 o4 hl o5)⟩
  · skip
    refine r_Mo_18 Th5 kv0 ?_
    refine r_Mo_o Th5 kv0 ?_
    refine c_Mod_here2 (v0 := v0) Th5 kv0 ?_
    intro yr12 gr12_0 gr12_1 gr12_2 gr12_3 gr12_4
    dsimp only
    refine w_Mo_e13 Th5 kv0 (wM _ (by omega) (by omega)) s0 s1 (zz_2065b23ca0 gr12_1 gr12_4 gr7_2 gr7_4 gr8_1 cc1 gr12_0) (zz_e68a3b601e gr12_0) ?_
    intro h13 Th13 ih13 ah13
    refine r_Mo_41 Th13 kv0 ?_
    intro x14 ex14 lx14 ux14
    have sx14 : (vI h v0 41) = x14 := (ex14.trans (by rw [ih13 v0 41, ih5 v0 41, ih2 v0 41])).symm
    subst sx14
    have o6 := g_Mo_41 T kv0
    have o7 := g_Mo_3 T kv0
    refine w_Mo_41 Th13 kv0 (wM _ (by omega) (by omega)) (zz_5664edf06b o6) (zz_940fdb52d9 hl o7 o6) ?_
    intro h15 Th15 ih15 ah15
    unfold f_Mod_branch_56
    refine r_Mo_o Th15 kv0 ?_
    refine c_Mod_closed (v0 := v0) Th15 kv0 wM ?_
    intro r2i8 Tr2i8 gr2i8_0 gr2i8_1 gr2i8_2
    refine qk_some ?_
    have o9 : vA r2i8 (v0 + 13) v1 = yr12 - 97 := (by rw [gr2i8_1 (v0 + 13) v1, ah15 (v0 + 13) v1, ah13 (v0 + 13) v1 s0, if_pos ⟨rfl, rfl⟩])
    have o10 : vI r2i8 v0 41 = (vI h v0 41) + 1 := (by rw [gr2i8_0 v0 41 (by omega), ih15 v0 41, if_pos ⟨rfl, rfl⟩])
    have o11 : vI h5 v0 3 = vI h v0 3 := (by rw [ih5 v0 3, ih2 v0 3])
    have o12 : vI h5 v0 41 = vI h v0 41 := (by rw [ih5 v0 41, ih2 v0 41])
    exact ⟨Tr2i8, (by show ∀ a k, ¬ (a = v0 ∧ (k = 5 ∨ k = 48 ∨ k = 41)) → vI r2i8 a k = vI h a k; intro a k n0; rw [gr2i8_0 a k (by omega), ih15, if_neg (by omega), ih13, ih5, ih2]), (by show ∀ a j, 0 ≤ j → ¬ (a = v0 + 13 ∨ a = v0 + 15) → vA r2i8 a j = vA h a j; intro a j j0 n0; rw [gr2i8_1 a j, ah15, ah13 a j j0, if_neg (by omega), ah5 a j j0, if_neg (by omega), ah2 a j j0, if_neg (by omega)]), (by show ∀ j, 0 ≤ j → j ≠ v1 → vA r2i8 (v0 + 13) j = vA h (v0 + 13) j; intro j j0 n0; rw [gr2i8_1 (v0 + 13) j, ah15 (v0 + 13) j, ah13 (v0 + 13) j j0, if_neg (fun z => absurd z.2 (zz_946771669d n0)), ah5 (v0 + 13) j j0, if_neg (fun z => absurd z.1 (by omega)), ah2 (v0 + 13) j j0, if_neg (fun z => absurd z.2 (zz_946771669d n0))]), (zz_d6d5d8e3e1 o9 gr12_1 gr12_4 gr7_2 gr7_4 gr8_1 cc1 gr12_0), (zz_2f2669720f o10 o11 o12 gr7_2 gr8_1 cc1 o6), (zz_c9220fc479 o10 hl o7 o6)⟩
theorem c_Mod_branch {L : q_L} {W : Nat → Prop} {h0 : z_H} {π : Nat → Nat → Option Nat} {N : Nat} {h : z_H} {v0 : Nat} {v1 : Int32} {β : Type} {f : z_H → Option β} {Q : β → Prop} (T : q_U L W h0 π h) (kv0 : q_M L π v0) (wM : ∀ a, v0 ≤ a → a < v0 + 46 → W a) (s0 : 0 ≤ v1) (s1 : v1 < 80) (bd : vI h v0 48 = 0) (hl : vI h v0 41 ≤ vI h v0 3) (H : ∀ h', q_U L W h0 π h' → (∀ a k, ¬ (a = v0 ∧ (k = 5 ∨ k = 48 ∨ k = 41)) → vI h' a k = vI h a k) → (∀ a j, 0 ≤ j → ¬ (a = v0 + 13 ∨ a = v0 + 15) → vA h' a j = vA h a j) → (∀ j, 0 ≤ j → j ≠ v1 → vA h' (v0 + 13) j = vA h (v0 + 13) j) → (-1 ≤ vA h' (v0 + 13) v1 ∧ vA h' (v0 + 13) v1 ≤ 25) → (vI h' v0 48 = 0 → vI h v0 41 ≤ vI h' v0 41 ∧ vI h' v0 41 ≤ vI h v0 3) → (vI h v0 41 ≤ vI h' v0 41 ∧ vI h' v0 41 ≤ 242) → qk (f h') Q) : qk (z_b (f_Mod_branch N v0 v1 h) f) Q := by
  refine qk_b (p_Mod_branch T kv0 wM s0 s1 bd hl) ?_
  rintro hz ⟨Tz, g0, g1, g2, g3, g4, g5⟩
  exact H hz Tz g0 g1 g2 g3 g4 g5
