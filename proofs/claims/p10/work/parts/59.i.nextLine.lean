theorem zz_ade52561c1  : ((0 : Int32) ≤ 0) ∧ ((0 : Int32) ≤ 41) := by lia
theorem zz_3726482fda {a1 a2 a3 a4 : Int32} (h0 : a1 = a2) (h1 : (a3 ≤ a2) ∧ (a2 ≤ a4)) : (a3 ≤ a1) ∧ (a1 ≤ a4) := by simp only [Int32.le_iff_toInt_le, Int32.lt_iff_toInt_lt, ← Int32.toInt_inj, ne_eq] at *; omega
theorem zz_ee6cfc14b1 {a1 a2 a3 a4 : Int32} (h0 : a1 = a2) (h1 : a2 ≤ a3) (h2 : ¬ (a2 = a3)) (h3 : a4 = a1 + 1) (h4 : (0 ≤ a2) ∧ (a2 ≤ 12)) : (a2 ≤ a4) ∧ (a4 ≤ a3) := by simp only [Int32.le_iff_toInt_le, Int32.lt_iff_toInt_lt, ← Int32.toInt_inj, ne_eq] at *; have b0 := Int32.le_toInt a1; have c0 := Int32.toInt_lt a1; have l0 : (1 : Int32).toInt = 1 := (by decide); have l1 : (0 : Int32).toInt = 0 := (by decide); have l2 : (12 : Int32).toInt = 12 := (by decide); have s0 : (a1 + 1).toInt = a1.toInt + 1 := q_tA (by decide) (by omega) (by omega); omega
theorem zz_73bffb421b {a1 a2 : Int32} (h0 : a1 ≤ a2) (h1 : (0 ≤ a2) ∧ (a2 ≤ 12)) (h2 : ¬ (a1 = a2)) : a1 < 12 := by simp only [Int32.le_iff_toInt_le, Int32.lt_iff_toInt_lt, ← Int32.toInt_inj, ne_eq] at *; have l0 : (0 : Int32).toInt = 0 := (by decide); have l1 : (12 : Int32).toInt = 12 := (by decide); omega
theorem zz_13d3234f0e {a1 : Int32} (h0 : (0 ≤ a1) ∧ (a1 ≤ 24)) : a1 ≤ 24 := by simp only [Int32.le_iff_toInt_le, Int32.lt_iff_toInt_lt, ← Int32.toInt_inj, ne_eq] at *; have l0 : (0 : Int32).toInt = 0 := (by decide); have l1 : (24 : Int32).toInt = 24 := (by decide); omega
theorem zz_5256f8253d {a1 a2 a3 a4 : Int32} (h0 : a1 = a2) (h1 : a3 = a4) (h2 : a2 ≤ a4) (h3 : ¬ (a2 = a4)) : a1 < a3 := by simp only [Int32.le_iff_toInt_le, Int32.lt_iff_toInt_lt, ← Int32.toInt_inj, ne_eq] at *; omega
theorem zz_631956c8e2 {a1 a2 a3 : Int32} (h0 : a1 = a2) (h1 : a2 + 1 + a3 ≤ 60) (h2 : (0 ≤ a2) ∧ (a2 ≤ 60)) (h3 : (0 ≤ a3) ∧ (a3 ≤ 24)) : a1 + 1 + a3 ≤ 60 := by simp only [Int32.le_iff_toInt_le, Int32.lt_iff_toInt_lt, ← Int32.toInt_inj, ne_eq] at *; have b0 := Int32.le_toInt a2; have c0 := Int32.toInt_lt a2; have b1 := Int32.le_toInt a3; have c1 := Int32.toInt_lt a3; have b2 := Int32.le_toInt a1; have c2 := Int32.toInt_lt a1; have l0 : (1 : Int32).toInt = 1 := (by decide); have l1 : (60 : Int32).toInt = 60 := (by decide); have l2 : (0 : Int32).toInt = 0 := (by decide); have l3 : (24 : Int32).toInt = 24 := (by decide); have s0 : (a2 + 1).toInt = a2.toInt + 1 := q_tA (by decide) (by omega) (by omega); have s1 : (a2 + 1 + a3).toInt = (a2 + 1).toInt + a3.toInt := q_tA rfl (by omega) (by omega); have s2 : (a1 + 1).toInt = a1.toInt + 1 := q_tA (by decide) (by omega) (by omega); have s3 : (a1 + 1 + a3).toInt = (a1 + 1).toInt + a3.toInt := q_tA rfl (by omega) (by omega); omega
set_option maxHeartbeats 2000000 in
theorem p_Mod_nextLine {L : q_L} {W : Nat → Prop} {h0 : z_H} {π : Nat → Nat → Option Nat} {N : Nat} {h : z_H} {v0 : Nat} {v1 : Int32} {v2 : Int32} (T : q_U L W h0 π h) (kv0 : q_M L π v0) (wM : ∀ a, v0 ≤ a → a < v0 + 46 → W a) (s0 : 0 ≤ v1) (s1 : v1 < 80) (k0 : 0 ≤ v2) (k1 : v2 ≤ 40) (AP : vI h v0 68 = 0 ∨ vA h (v0 + 42) (vI h v0 68 - 1) = 10) (rl : vI h v0 70 ≤ vI h v0 4) (hN : 100000 ≤ N) : qk (f_Mod_nextLine N v0 v1 v2 h) (fun r => q_U L W h0 π r.2 ∧ (0 ≤ r.1 ∧ r.1 ≤ 41) ∧ (vI h v0 70 ≤ vI r.2 v0 70 ∧ vI r.2 v0 70 ≤ vI h v0 4) ∧ (∀ a k, ¬ (a = v0 ∧ (k = 6 ∨ k = 76 ∨ k = 69 ∨ k = 67 ∨ k = 68 ∨ k = 65 ∨ k = 70 ∨ k = 72 ∨ k = 74)) → vI r.2 a k = vI h a k) ∧ (∀ a j, 0 ≤ j → ¬ (a = v0 + 43 ∨ a = v0 + 41 ∨ a = v0 + 39) → vA r.2 a j = vA h a j) ∧ (vI r.2 v0 68 = 0 ∨ vA r.2 (v0 + 42) (vI r.2 v0 68 - 1) = 10)) := by
  unfold f_Mod_nextLine
  refine r_Mo_70 T kv0 ?_
  intro x1 ex1 lx1 ux1
  subst ex1
  refine r_Mo_4 T kv0 ?_
  intro x2 ex2 lx2 ux2
  subst ex2
  refine qk_if (fun cc1 => ?_) (fun cc1 => ?_)
  · skip
    refine r_Mo_o T kv0 ?_
    refine c_Mod_endCycle (v0 := v0) (v1 := 1) T kv0 wM (by exact AP) rl hN ?_
    intro yr28 hr28 Tr28 gr28_0 gr28_1 gr28_2 gr28_3 gr28_4 gr28_5
    dsimp only
    refine w_Mo_76 Tr28 kv0 (wM _ (by omega) (by omega)) ?_
    intro h29 Th29 ih29 ah29
    refine qk_some ?_
    have o2 : vI h29 v0 70 = vI hr28 v0 70 := (by rw [ih29 v0 70, if_neg (fun z => absurd z.2 (by decide))])
    have o3 := g_Mo_68 Tr28 kv0
    exact ⟨Th29, (zz_ade52561c1), (zz_3726482fda o2 gr28_2), (by show ∀ a k, ¬ (a = v0 ∧ (k = 6 ∨ k = 76 ∨ k = 69 ∨ k = 67 ∨ k = 68 ∨ k = 65 ∨ k = 70 ∨ k = 72 ∨ k = 74)) → vI h29 a k = vI h a k; intro a k n0; rw [ih29, if_neg (by omega), gr28_3 a k (by omega)]), (by show ∀ a j, 0 ≤ j → ¬ (a = v0 + 43 ∨ a = v0 + 41 ∨ a = v0 + 39) → vA h29 a j = vA h a j; intro a j j0 n0; rw [ah29, gr28_4 a j j0 (by omega)]), (by show vI h29 v0 68 = 0 ∨ vA h29 (v0 + 42) (vI h29 v0 68 - 1) = 10; by_cases z : vI hr28 v0 68 = 0; (left; rw [ih29 v0 68, if_neg (fun z => absurd z.2 (by decide))]; exact z); (right; have jz : 0 ≤ vI hr28 v0 68 - 1 := (zz_e8fb340edd o3 z); rw [ih29 v0 68, if_neg (fun z => absurd z.2 (by decide))]; rw [ah29 (v0 + 42) (vI hr28 v0 68 - 1)]; exact (gr28_5).resolve_left z))⟩
  · skip
    refine r_Mo_9 T kv0 ?_
    refine r_Mo_e4 T kv0 s0 s1 ?_
    intro x5 ex5
    subst ex5
    refine qk_if (fun cc4 => ?_) (fun cc4 => ?_)
    · skip
      refine r_Mo_o T kv0 ?_
      refine c_Mod_tellSpace (v0 := v0) (v1 := 0) T kv0 wM hN ?_
      intro yr22 hr22 Tr22 gr22_0 gr22_1 gr22_2 gr22_3
      dsimp only
      refine qk_if (fun cc5 => ?_) (fun cc5 => ?_)
      · skip
        unfold f_Mod_nextLine_55
        refine qk_if (fun _ => ?_) (fun cc7 => absurd (by decide) cc7)
        unfold f_Mod_nextLine_64
        refine qk_some ?_
        have o9 : vI hr22 v0 70 = vI h v0 70 := (by rw [gr22_2 v0 70 (by omega)])
        have o10 := g_Mo_68 T kv0
        exact ⟨Tr22, (zz_e57b4beb88 k0 k1), (zz_f8cc4ad1dc o9 rl), (by show ∀ a k, ¬ (a = v0 ∧ (k = 6 ∨ k = 76 ∨ k = 69 ∨ k = 67 ∨ k = 68 ∨ k = 65 ∨ k = 70 ∨ k = 72 ∨ k = 74)) → vI hr22 a k = vI h a k; intro a k n0; rw [gr22_2 a k (by omega)]), (by show ∀ a j, 0 ≤ j → ¬ (a = v0 + 43 ∨ a = v0 + 41 ∨ a = v0 + 39) → vA hr22 a j = vA h a j; intro a j j0 n0; rw [gr22_3 a j j0 (by omega)]), (by show vI hr22 v0 68 = 0 ∨ vA hr22 (v0 + 42) (vI hr22 v0 68 - 1) = 10; by_cases z : vI h v0 68 = 0; (left; rw [gr22_2 v0 68 (by omega)]; exact z); (right; have jz : 0 ≤ vI h v0 68 - 1 := (zz_e8fb340edd o10 z); rw [gr22_2 v0 68 (by omega)]; rw [gr22_3 (v0 + 42) (vI h v0 68 - 1) jz (by omega)]; exact (AP).resolve_left z))⟩
      · skip
        refine r_Mo_o Tr22 kv0 ?_
        have o11 := g_Mo_68 T kv0
        refine c_Mod_tellAppended (v0 := v0) Tr22 kv0 wM (by by_cases z : vI h v0 68 = 0; (left; rw [gr22_2 v0 68 (by omega)]; exact z); (right; have jz : 0 ≤ vI h v0 68 - 1 := (zz_e8fb340edd o11 z); rw [gr22_2 v0 68 (by omega)]; rw [gr22_3 (v0 + 42) (vI h v0 68 - 1) jz (by omega)]; exact (AP).resolve_left z)) hN ?_
        intro yr25 hr25 Tr25 gr25_0 gr25_1 gr25_2 gr25_3 gr25_4
        dsimp only
        refine qk_if (fun cc12 => ?_) (fun cc12 => ?_)
        · skip
          unfold f_Mod_nextLine_55
          refine qk_if (fun _ => ?_) (fun cc14 => absurd (by decide) cc14)
          unfold f_Mod_nextLine_64
          refine qk_some ?_
          have o16 : vI hr25 v0 70 = vI h v0 70 := (by rw [gr25_2 v0 70 (by omega), gr22_2 v0 70 (by omega)])
          exact ⟨Tr25, (zz_e57b4beb88 k0 k1), (zz_f8cc4ad1dc o16 rl), (by show ∀ a k, ¬ (a = v0 ∧ (k = 6 ∨ k = 76 ∨ k = 69 ∨ k = 67 ∨ k = 68 ∨ k = 65 ∨ k = 70 ∨ k = 72 ∨ k = 74)) → vI hr25 a k = vI h a k; intro a k n0; rw [gr25_2 a k (by omega), gr22_2 a k (by omega)]), (by show ∀ a j, 0 ≤ j → ¬ (a = v0 + 43 ∨ a = v0 + 41 ∨ a = v0 + 39) → vA hr25 a j = vA h a j; intro a j j0 n0; rw [gr25_3 a j j0 (by omega), gr22_3 a j j0 (by omega)]), (by show vI hr25 v0 68 = 0 ∨ vA hr25 (v0 + 42) (vI hr25 v0 68 - 1) = 10; left; rw [gr25_4])⟩
        · skip
          unfold f_Mod_nextLine_55
          refine qk_if (fun cc18 => absurd cc18 (by decide)) (fun _ => ?_)
          refine r_Mo_o Tr25 kv0 ?_
          have o19 : vI hr25 v0 70 = vI h v0 70 := (by rw [gr25_2 v0 70 (by omega), gr22_2 v0 70 (by omega)])
          have o20 := g_Mo_4 T kv0
          refine c_Mod_readLine (v0 := v0) Tr25 kv0 wM (zz_64d610aec5 o19 rl o20 cc1) hN ?_
          intro r3i17 Tr3i17 gr3i17_0 gr3i17_1 gr3i17_2
          unfold f_Mod_nextLine_64
          refine qk_some ?_
          have o22 := g_Mo_70 T kv0
          exact ⟨Tr3i17, (zz_e57b4beb88 k0 k1), (zz_ee6cfc14b1 o19 rl cc1 gr3i17_2 o22), (by show ∀ a k, ¬ (a = v0 ∧ (k = 6 ∨ k = 76 ∨ k = 69 ∨ k = 67 ∨ k = 68 ∨ k = 65 ∨ k = 70 ∨ k = 72 ∨ k = 74)) → vI r3i17 a k = vI h a k; intro a k n0; rw [gr3i17_0 a k (by omega), gr25_2 a k (by omega), gr22_2 a k (by omega)]), (by show ∀ a j, 0 ≤ j → ¬ (a = v0 + 43 ∨ a = v0 + 41 ∨ a = v0 + 39) → vA r3i17 a j = vA h a j; intro a j j0 n0; rw [gr3i17_1 a j j0 (by omega), gr25_3 a j j0 (by omega), gr22_3 a j j0 (by omega)]), (by show vI r3i17 v0 68 = 0 ∨ vA r3i17 (v0 + 42) (vI r3i17 v0 68 - 1) = 10; left; rw [gr3i17_0 v0 68 (by omega), gr25_4])⟩
    · skip
      refine r_Mo_1 T kv0 ?_
      refine r_Mo_70 T kv0 ?_
      intro x8 ex8 lx8 ux8
      subst ex8
      have o23 := g_Mo_4 T kv0
      refine r_Mo_e2 T kv0 lx8 (zz_73bffb421b rl o23 cc1) ?_
      intro x9 ex9 lx9 ux9
      subst ex9
      refine r_Mo_65 T kv0 ?_
      intro x10 ex10 lx10 ux10
      subst ex10
      refine qk_if (fun cc24 => ?_) (fun cc24 => ?_)
      · skip
        refine r_Mo_o T kv0 ?_
        refine c_Mod_tellAppended (v0 := v0) T kv0 wM (by exact AP) hN ?_
        intro yr13 hr13 Tr13 gr13_0 gr13_1 gr13_2 gr13_3 gr13_4
        dsimp only
        refine qk_bs ?_
        refine qk_if (fun cc25 => ?_) (fun cc25 => ?_)
        · skip
          refine qk_some ?_
          have o26 : vI hr13 v0 70 = vI h v0 70 := (by rw [gr13_2 v0 70 (by omega)])
          exact ⟨Tr13, (zz_ade52561c1), (zz_f8cc4ad1dc o26 rl), (by show ∀ a k, ¬ (a = v0 ∧ (k = 6 ∨ k = 76 ∨ k = 69 ∨ k = 67 ∨ k = 68 ∨ k = 65 ∨ k = 70 ∨ k = 72 ∨ k = 74)) → vI hr13 a k = vI h a k; intro a k n0; rw [gr13_2 a k (by omega)]), (by show ∀ a j, 0 ≤ j → ¬ (a = v0 + 43 ∨ a = v0 + 41 ∨ a = v0 + 39) → vA hr13 a j = vA h a j; intro a j j0 n0; rw [gr13_3 a j j0 (by omega)]), (by show vI hr13 v0 68 = 0 ∨ vA hr13 (v0 + 42) (vI hr13 v0 68 - 1) = 10; left; rw [gr13_4])⟩
        · skip
          refine r_Mo_58 Tr13 kv0 ?_
          refine r_Mo_65 Tr13 kv0 ?_
          intro x17 ex17 lx17 ux17
          have sx17 : (vI h v0 65) = x17 := (ex17.trans (by rw [gr13_2 v0 65 (by omega)])).symm
          subst sx17
          have o27 := g_Mo_65 T kv0
          refine w_Mo_e39 Tr13 kv0 (wM _ (by omega) (by omega)) lx17 (zz_4df39e1e3c o27) ?_
          intro h18 Th18 ih18 ah18
          have o28 := g_Mo_e2 T kv0 (vI h v0 70)
          have o29 : vI h18 v0 70 = vI h v0 70 := (by rw [ih18 v0 70, gr13_2 v0 70 (by omega)])
          have o30 : vI h18 v0 4 = vI h v0 4 := (by rw [ih18 v0 4, gr13_2 v0 4 (by omega)])
          have o31 : vI h18 v0 65 = vI h v0 65 := (by rw [ih18 v0 65, gr13_2 v0 65 (by omega)])
          refine qk_mono (p_Mod_nextLine_125 (v0 := v0) (v2 := v2) (v3 := (vA h (v0 + 2) (vI h v0 70))) (v5 := 0) Th18 kv0 wM k0 k1 (zz_07871f873a o28) (zz_13d3234f0e o28) (by show (0 : Int32) ≤ 0; decide) (by show (0 : Int32) ≤ 24; decide) (zz_5256f8253d o29 o30 rl cc1) (zz_631956c8e2 o31 cc24 o27 o28) hN) ?_
          rintro ⟨y, hz⟩ ⟨Tz, g0, g1, g2, g3⟩
          try dsimp only at *
          exact ⟨Tz, (zz_b94f94fe38 g0), (zz_fffa4a0f78 g1 o29 o30), (by show ∀ a k, ¬ (a = v0 ∧ (k = 6 ∨ k = 76 ∨ k = 69 ∨ k = 67 ∨ k = 68 ∨ k = 65 ∨ k = 70 ∨ k = 72 ∨ k = 74)) → vI hz a k = vI h a k; intro a k n0; rw [g2 a k (by omega), ih18, gr13_2 a k (by omega)]), (by show ∀ a j, 0 ≤ j → ¬ (a = v0 + 43 ∨ a = v0 + 41 ∨ a = v0 + 39) → vA hz a j = vA h a j; intro a j j0 n0; rw [g3 a j j0 (by omega), ah18 a j j0, if_neg (by omega), gr13_3 a j j0 (by omega)]), (by show vI hz v0 68 = 0 ∨ vA hz (v0 + 42) (vI hz v0 68 - 1) = 10; left; rw [g2 v0 68 (by omega), ih18 v0 68, gr13_4])⟩
      · skip
        refine r_Mo_o T kv0 ?_
        refine c_Mod_full (v0 := v0) T kv0 wM ?_
        intro yr20 hr20 Tr20 gr20_0 gr20_1 gr20_2 gr20_3
        dsimp only
        refine qk_some ?_
        have o33 : vI hr20 v0 70 = vI h v0 70 := (by rw [gr20_1 v0 70 (by omega)])
        have o34 := g_Mo_68 T kv0
        exact ⟨Tr20, (zz_ade52561c1), (zz_f8cc4ad1dc o33 rl), (by show ∀ a k, ¬ (a = v0 ∧ (k = 6 ∨ k = 76 ∨ k = 69 ∨ k = 67 ∨ k = 68 ∨ k = 65 ∨ k = 70 ∨ k = 72 ∨ k = 74)) → vI hr20 a k = vI h a k; intro a k n0; rw [gr20_1 a k (by omega)]), (by show ∀ a j, 0 ≤ j → ¬ (a = v0 + 43 ∨ a = v0 + 41 ∨ a = v0 + 39) → vA hr20 a j = vA h a j; intro a j j0 n0; rw [gr20_2 a j]), (by show vI hr20 v0 68 = 0 ∨ vA hr20 (v0 + 42) (vI hr20 v0 68 - 1) = 10; by_cases z : vI h v0 68 = 0; (left; rw [gr20_1 v0 68 (by omega)]; exact z); (right; have jz : 0 ≤ vI h v0 68 - 1 := (zz_e8fb340edd o34 z); rw [gr20_1 v0 68 (by omega)]; rw [gr20_2 (v0 + 42) (vI h v0 68 - 1)]; exact (AP).resolve_left z))⟩
theorem c_Mod_nextLine {L : q_L} {W : Nat → Prop} {h0 : z_H} {π : Nat → Nat → Option Nat} {N : Nat} {h : z_H} {v0 : Nat} {v1 : Int32} {v2 : Int32} {β : Type} {f : Int32 × z_H → Option β} {Q : β → Prop} (T : q_U L W h0 π h) (kv0 : q_M L π v0) (wM : ∀ a, v0 ≤ a → a < v0 + 46 → W a) (s0 : 0 ≤ v1) (s1 : v1 < 80) (k0 : 0 ≤ v2) (k1 : v2 ≤ 40) (AP : vI h v0 68 = 0 ∨ vA h (v0 + 42) (vI h v0 68 - 1) = 10) (rl : vI h v0 70 ≤ vI h v0 4) (hN : 100000 ≤ N) (H : ∀ y h', q_U L W h0 π h' → (0 ≤ y ∧ y ≤ 41) → (vI h v0 70 ≤ vI h' v0 70 ∧ vI h' v0 70 ≤ vI h v0 4) → (∀ a k, ¬ (a = v0 ∧ (k = 6 ∨ k = 76 ∨ k = 69 ∨ k = 67 ∨ k = 68 ∨ k = 65 ∨ k = 70 ∨ k = 72 ∨ k = 74)) → vI h' a k = vI h a k) → (∀ a j, 0 ≤ j → ¬ (a = v0 + 43 ∨ a = v0 + 41 ∨ a = v0 + 39) → vA h' a j = vA h a j) → (vI h' v0 68 = 0 ∨ vA h' (v0 + 42) (vI h' v0 68 - 1) = 10) → qk (f (y, h')) Q) : qk (z_b (f_Mod_nextLine N v0 v1 v2 h) f) Q := by
  refine qk_b (p_Mod_nextLine T kv0 wM s0 s1 k0 k1 AP rl hN) ?_
  rintro ⟨y, hz⟩ ⟨Tz, g0, g1, g2, g3, g4⟩
  exact H y hz Tz g0 g1 g2 g3 g4
