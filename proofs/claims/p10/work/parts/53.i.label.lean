theorem zz_b80cbdc3f2 {a1 a2 a3 : Int32} (h0 : a1 = a2) (h1 : a2 ≤ a3) (h2 : (0 ≤ a3) ∧ (a3 ≤ 240)) : (a2 ≤ a1) ∧ (a1 ≤ 242) := by simp only [Int32.le_iff_toInt_le, Int32.lt_iff_toInt_lt, ← Int32.toInt_inj, ne_eq] at *; have l0 : (0 : Int32).toInt = 0 := (by decide); have l1 : (240 : Int32).toInt = 240 := (by decide); have l2 : (242 : Int32).toInt = 242 := (by decide); omega
theorem zz_e047b3b654 {a1 a2 : Int32} (h0 : (a1 = 0) ↔ ((a2 < 97) ∨ (122 < a2))) (h1 : ¬ (a1 = 0)) (h2 : (-1 ≤ a2) ∧ (a2 ≤ 126)) : 0 ≤ a2 - 97 := by simp only [Int32.le_iff_toInt_le, Int32.lt_iff_toInt_lt, ← Int32.toInt_inj, ne_eq] at *; have l0 : (0 : Int32).toInt = 0 := (by decide); have l1 : (97 : Int32).toInt = 97 := (by decide); have l2 : (122 : Int32).toInt = 122 := (by decide); have l3 : (-1 : Int32).toInt = -1 := (by decide); have l4 : (126 : Int32).toInt = 126 := (by decide); have s0 : (a2 - 97).toInt = a2.toInt - 97 := q_tS (by decide) (by omega) (by omega); omega
theorem zz_d9a2dfa1b1 {a1 a2 : Int32} (h0 : (a1 = 0) ↔ ((a2 < 97) ∨ (122 < a2))) (h1 : ¬ (a1 = 0)) (h2 : (-1 ≤ a2) ∧ (a2 ≤ 126)) : a2 - 97 < 26 := by simp only [Int32.le_iff_toInt_le, Int32.lt_iff_toInt_lt, ← Int32.toInt_inj, ne_eq] at *; have l0 : (0 : Int32).toInt = 0 := (by decide); have l1 : (97 : Int32).toInt = 97 := (by decide); have l2 : (122 : Int32).toInt = 122 := (by decide); have l3 : (-1 : Int32).toInt = -1 := (by decide); have l4 : (126 : Int32).toInt = 126 := (by decide); have l5 : (26 : Int32).toInt = 26 := (by decide); have s0 : (a2 - 97).toInt = a2.toInt - 97 := q_tS (by decide) (by omega) (by omega); omega
theorem zz_ae34f80434 {a1 : Int32} (h0 : 0 ≤ a1) : -1 ≤ a1 := by simp only [Int32.le_iff_toInt_le, Int32.lt_iff_toInt_lt, ← Int32.toInt_inj, ne_eq] at *; have l0 : (0 : Int32).toInt = 0 := (by decide); have l1 : (-1 : Int32).toInt = -1 := (by decide); omega
theorem zz_3f9376314e {a1 : Int32} (h0 : a1 < 80) : a1 ≤ 79 := by simp only [Int32.le_iff_toInt_le, Int32.lt_iff_toInt_lt, ← Int32.toInt_inj, ne_eq] at *; have l0 : (80 : Int32).toInt = 80 := (by decide); have l1 : (79 : Int32).toInt = 79 := (by decide); omega
theorem zz_ca95de156e {a1 a2 a3 a4 a5 a6 : Int32} (h0 : a1 = a2 + 1) (h1 : (a3 ≠ -1) → (a2 < a4)) (h2 : (a5 = 0) ↔ ((a3 < 97) ∨ (122 < a3))) (h3 : ¬ (a5 = 0)) (h4 : (0 ≤ a2) ∧ (a2 ≤ 250)) : (a6 = 0) → ((a2 ≤ a1) ∧ (a1 ≤ a4)) := by simp only [Int32.le_iff_toInt_le, Int32.lt_iff_toInt_lt, ← Int32.toInt_inj, ne_eq] at *; have l0 : (1 : Int32).toInt = 1 := (by decide); have l1 : (-1 : Int32).toInt = -1 := (by decide); have l2 : (0 : Int32).toInt = 0 := (by decide); have l3 : (97 : Int32).toInt = 97 := (by decide); have l4 : (122 : Int32).toInt = 122 := (by decide); have l5 : (250 : Int32).toInt = 250 := (by decide); have s0 : (a2 + 1).toInt = a2.toInt + 1 := q_tA (by decide) (by omega) (by omega); omega
theorem zz_c9220fc479 {a1 a2 a3 : Int32} (h0 : a1 = a2 + 1) (h1 : a2 ≤ a3) (h2 : (0 ≤ a3) ∧ (a3 ≤ 240)) (h3 : (0 ≤ a2) ∧ (a2 ≤ 250)) : (a2 ≤ a1) ∧ (a1 ≤ 242) := by simp only [Int32.le_iff_toInt_le, Int32.lt_iff_toInt_lt, ← Int32.toInt_inj, ne_eq] at *; have l0 : (1 : Int32).toInt = 1 := (by decide); have l1 : (0 : Int32).toInt = 0 := (by decide); have l2 : (240 : Int32).toInt = 240 := (by decide); have l3 : (250 : Int32).toInt = 250 := (by decide); have l4 : (242 : Int32).toInt = 242 := (by decide); have s0 : (a2 + 1).toInt = a2.toInt + 1 := q_tA (by decide) (by omega) (by omega); omega
set_option maxHeartbeats 1000000 in
theorem p_Mod_label {L : q_L} {W : Nat → Prop} {h0 : z_H} {π : Nat → Nat → Option Nat} {N : Nat} {h : z_H} {v0 : Nat} {v1 : Int32} {v2 : Int32} (T : q_U L W h0 π h) (kv0 : q_M L π v0) (wM : ∀ a, v0 ≤ a → a < v0 + 46 → W a) (s0 : 0 ≤ v1) (s1 : v1 < 80) (bd : vI h v0 48 = 0) (hl : vI h v0 41 ≤ vI h v0 3) : qk (f_Mod_label N v0 v1 v2 h) (fun r => q_U L W h0 π r ∧ (∀ a k, ¬ (a = v0 ∧ (k = 5 ∨ k = 48 ∨ k = 41)) → vI r a k = vI h a k) ∧ (∀ a j, 0 ≤ j → ¬ (a = v0 + 34) → vA r a j = vA h a j) ∧ (∀ j, 0 ≤ j → vA r (v0 + 34) j = vA h (v0 + 34) j ∨ vA r (v0 + 34) j = v1) ∧ (vI r v0 48 = 0 → vI h v0 41 ≤ vI r v0 41 ∧ vI r v0 41 ≤ vI h v0 3) ∧ (vI h v0 41 ≤ vI r v0 41 ∧ vI r v0 41 ≤ 242)) := by
  unfold f_Mod_label
  refine r_Mo_o T kv0 ?_
  refine c_Mod_here2 (v0 := v0) T kv0 ?_
  intro yr2 gr2_0 gr2_1 gr2_2 gr2_3 gr2_4
  dsimp only
  refine qk_bs ?_
  refine qk_if (fun cc1 => ?_) (fun cc1 => ?_)
  · skip
    refine r_Mo_41 T kv0 ?_
    intro x20 ex20 lx20 ux20
    subst ex20
    refine r_Mo_o T kv0 ?_
    refine c_Mod_wrong (v0 := v0) (v1 := ((vI h v0 41) - 1)) T kv0 wM ?_
    intro r22 Tr22 gr22_0 gr22_1 gr22_2
    refine qk_some ?_
    have o2 : vI r22 v0 41 = vI h v0 41 := (by rw [gr22_0 v0 41 (by omega)])
    have o3 := g_Mo_3 T kv0
    exact ⟨Tr22, (by show ∀ a k, ¬ (a = v0 ∧ (k = 5 ∨ k = 48 ∨ k = 41)) → vI r22 a k = vI h a k; intro a k n0; rw [gr22_0 a k (by omega)]), (by show ∀ a j, 0 ≤ j → ¬ (a = v0 + 34) → vA r22 a j = vA h a j; intro a j j0 n0; rw [gr22_2 a j]), (by show ∀ j, 0 ≤ j → vA r22 (v0 + 34) j = vA h (v0 + 34) j ∨ vA r22 (v0 + 34) j = v1; intro j j0; left; rw [gr22_2 (v0 + 34) j]), (zz_fec31642e6 gr22_1), (zz_b80cbdc3f2 o2 hl o3)⟩
  · skip
    refine c_Mod_in (v0 := (yr2)) (v1 := 97) (v2 := 122) T ?_
    intro yr5 gr5_0 gr5_1
    dsimp only
    refine qk_if (fun cc4 => ?_) (fun cc4 => ?_)
    · skip
      refine qk_if (fun cc5 => ?_) (fun cc5 => ?_)
      · skip
        refine r_Mo_3 T kv0 ?_
        intro x19 ex19 lx19 ux19
        subst ex19
        unfold f_Mod_label_48
        refine r_Mo_o T kv0 ?_
        refine c_Mod_wrong (v0 := v0) (v1 := (vI h v0 3)) T kv0 wM ?_
        intro r2i6 Tr2i6 gr2i6_0 gr2i6_1 gr2i6_2
        unfold f_Mod_label_97
        refine r_Mo_o Tr2i6 kv0 ?_
        refine c_Mod_closed (v0 := v0) Tr2i6 kv0 wM ?_
        intro r2i7 Tr2i7 gr2i7_0 gr2i7_1 gr2i7_2
        refine qk_some ?_
        have o8 : vI r2i7 v0 41 = vI h v0 41 := (by rw [gr2i7_0 v0 41 (by omega), gr2i6_0 v0 41 (by omega)])
        have o9 := g_Mo_3 T kv0
        exact ⟨Tr2i7, (by show ∀ a k, ¬ (a = v0 ∧ (k = 5 ∨ k = 48 ∨ k = 41)) → vI r2i7 a k = vI h a k; intro a k n0; rw [gr2i7_0 a k (by omega), gr2i6_0 a k (by omega)]), (by show ∀ a j, 0 ≤ j → ¬ (a = v0 + 34) → vA r2i7 a j = vA h a j; intro a j j0 n0; rw [gr2i7_1 a j, gr2i6_2 a j]), (by show ∀ j, 0 ≤ j → vA r2i7 (v0 + 34) j = vA h (v0 + 34) j ∨ vA r2i7 (v0 + 34) j = v1; intro j j0; left; rw [gr2i7_1 (v0 + 34) j, gr2i6_2 (v0 + 34) j]), (zz_5e072afda4 o8 hl), (zz_b80cbdc3f2 o8 hl o9)⟩
      · skip
        refine r_Mo_41 T kv0 ?_
        intro x18 ex18 lx18 ux18
        subst ex18
        unfold f_Mod_label_48
        refine r_Mo_o T kv0 ?_
        refine c_Mod_wrong (v0 := v0) (v1 := (vI h v0 41)) T kv0 wM ?_
        intro r2i10 Tr2i10 gr2i10_0 gr2i10_1 gr2i10_2
        unfold f_Mod_label_97
        refine r_Mo_o Tr2i10 kv0 ?_
        refine c_Mod_closed (v0 := v0) Tr2i10 kv0 wM ?_
        intro r2i11 Tr2i11 gr2i11_0 gr2i11_1 gr2i11_2
        refine qk_some ?_
        have o12 : vI r2i11 v0 41 = vI h v0 41 := (by rw [gr2i11_0 v0 41 (by omega), gr2i10_0 v0 41 (by omega)])
        have o13 := g_Mo_3 T kv0
        exact ⟨Tr2i11, (by show ∀ a k, ¬ (a = v0 ∧ (k = 5 ∨ k = 48 ∨ k = 41)) → vI r2i11 a k = vI h a k; intro a k n0; rw [gr2i11_0 a k (by omega), gr2i10_0 a k (by omega)]), (by show ∀ a j, 0 ≤ j → ¬ (a = v0 + 34) → vA r2i11 a j = vA h a j; intro a j j0 n0; rw [gr2i11_1 a j, gr2i10_2 a j]), (by show ∀ j, 0 ≤ j → vA r2i11 (v0 + 34) j = vA h (v0 + 34) j ∨ vA r2i11 (v0 + 34) j = v1; intro j j0; left; rw [gr2i11_1 (v0 + 34) j, gr2i10_2 (v0 + 34) j]), (zz_5e072afda4 o12 hl), (zz_b80cbdc3f2 o12 hl o13)⟩
    · skip
      refine r_Mo_39 T kv0 ?_
      refine r_Mo_e34 T kv0 (zz_e047b3b654 gr5_1 cc4 gr2_0) (zz_d9a2dfa1b1 gr5_1 cc4 gr2_0) ?_
      intro x8 ex8 lx8 ux8
      subst ex8
      refine qk_if (fun cc14 => ?_) (fun cc14 => ?_)
      · skip
        refine r_Mo_39 T kv0 ?_
        refine w_Mo_e34 T kv0 (wM _ (by omega) (by omega)) (zz_e047b3b654 gr5_1 cc4 gr2_0) (zz_d9a2dfa1b1 gr5_1 cc4 gr2_0) (zz_ae34f80434 s0) (zz_3f9376314e s1) ?_
        intro h11 Th11 ih11 ah11
        refine r_Mo_41 Th11 kv0 ?_
        intro x12 ex12 lx12 ux12
        have sx12 : (vI h v0 41) = x12 := (ex12.trans (by rw [ih11 v0 41])).symm
        subst sx12
        have o15 := g_Mo_41 T kv0
        have o16 := g_Mo_3 T kv0
        refine w_Mo_41 Th11 kv0 (wM _ (by omega) (by omega)) (zz_5664edf06b o15) (zz_940fdb52d9 hl o16 o15) ?_
        intro h13 Th13 ih13 ah13
        unfold f_Mod_label_97
        refine r_Mo_o Th13 kv0 ?_
        refine c_Mod_closed (v0 := v0) Th13 kv0 wM ?_
        intro r2i17 Tr2i17 gr2i17_0 gr2i17_1 gr2i17_2
        refine qk_some ?_
        have o18 : vI r2i17 v0 41 = (vI h v0 41) + 1 := (by rw [gr2i17_0 v0 41 (by omega), ih13 v0 41, if_pos ⟨rfl, rfl⟩])
        exact ⟨Tr2i17, (by show ∀ a k, ¬ (a = v0 ∧ (k = 5 ∨ k = 48 ∨ k = 41)) → vI r2i17 a k = vI h a k; intro a k n0; rw [gr2i17_0 a k (by omega), ih13, if_neg (by omega), ih11]), (by show ∀ a j, 0 ≤ j → ¬ (a = v0 + 34) → vA r2i17 a j = vA h a j; intro a j j0 n0; rw [gr2i17_1 a j, ah13, ah11 a j j0, if_neg (by omega)]), (by show ∀ j, 0 ≤ j → vA r2i17 (v0 + 34) j = vA h (v0 + 34) j ∨ vA r2i17 (v0 + 34) j = v1; intro j j0; rw [gr2i17_1 (v0 + 34) j, ah13 (v0 + 34) j]; rw [ah11 (v0 + 34) j j0]; by_cases q : ((v0 + 34) = (v0 + 34) ∧ j = ((yr2) - 97)); (right; rw [if_pos q]); (left; rw [if_neg q])), (zz_ca95de156e o18 gr2_2 gr5_1 cc4 o15), (zz_c9220fc479 o18 hl o16 o15)⟩
      · skip
        refine r_Mo_41 T kv0 ?_
        intro x14 ex14 lx14 ux14
        subst ex14
        refine r_Mo_o T kv0 ?_
        refine c_Mod_wrong (v0 := v0) (v1 := (vI h v0 41)) T kv0 wM ?_
        intro r16 Tr16 gr16_0 gr16_1 gr16_2
        unfold f_Mod_label_97
        refine r_Mo_o Tr16 kv0 ?_
        refine c_Mod_closed (v0 := v0) Tr16 kv0 wM ?_
        intro r2i19 Tr2i19 gr2i19_0 gr2i19_1 gr2i19_2
        refine qk_some ?_
        have o20 : vI r2i19 v0 41 = vI h v0 41 := (by rw [gr2i19_0 v0 41 (by omega), gr16_0 v0 41 (by omega)])
        have o21 := g_Mo_3 T kv0
        exact ⟨Tr2i19, (by show ∀ a k, ¬ (a = v0 ∧ (k = 5 ∨ k = 48 ∨ k = 41)) → vI r2i19 a k = vI h a k; intro a k n0; rw [gr2i19_0 a k (by omega), gr16_0 a k (by omega)]), (by show ∀ a j, 0 ≤ j → ¬ (a = v0 + 34) → vA r2i19 a j = vA h a j; intro a j j0 n0; rw [gr2i19_1 a j, gr16_2 a j]), (by show ∀ j, 0 ≤ j → vA r2i19 (v0 + 34) j = vA h (v0 + 34) j ∨ vA r2i19 (v0 + 34) j = v1; intro j j0; left; rw [gr2i19_1 (v0 + 34) j, gr16_2 (v0 + 34) j]), (zz_5e072afda4 o20 hl), (zz_b80cbdc3f2 o20 hl o21)⟩
theorem c_Mod_label {L : q_L} {W : Nat → Prop} {h0 : z_H} {π : Nat → Nat → Option Nat} {N : Nat} {h : z_H} {v0 : Nat} {v1 : Int32} {v2 : Int32} {β : Type} {f : z_H → Option β} {Q : β → Prop} (T : q_U L W h0 π h) (kv0 : q_M L π v0) (wM : ∀ a, v0 ≤ a → a < v0 + 46 → W a) (s0 : 0 ≤ v1) (s1 : v1 < 80) (bd : vI h v0 48 = 0) (hl : vI h v0 41 ≤ vI h v0 3) (H : ∀ h', q_U L W h0 π h' → (∀ a k, ¬ (a = v0 ∧ (k = 5 ∨ k = 48 ∨ k = 41)) → vI h' a k = vI h a k) → (∀ a j, 0 ≤ j → ¬ (a = v0 + 34) → vA h' a j = vA h a j) → (∀ j, 0 ≤ j → vA h' (v0 + 34) j = vA h (v0 + 34) j ∨ vA h' (v0 + 34) j = v1) → (vI h' v0 48 = 0 → vI h v0 41 ≤ vI h' v0 41 ∧ vI h' v0 41 ≤ vI h v0 3) → (vI h v0 41 ≤ vI h' v0 41 ∧ vI h' v0 41 ≤ 242) → qk (f h') Q) : qk (z_b (f_Mod_label N v0 v1 v2 h) f) Q := by
  refine qk_b (p_Mod_label T kv0 wM s0 s1 bd hl) ?_
  rintro hz ⟨Tz, g0, g1, g2, g3, g4⟩
  exact H hz Tz g0 g1 g2 g3 g4
