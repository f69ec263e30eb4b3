theorem c_Mod_measure {L : q_L} {W : Nat → Prop} {h0 : z_H} {π : Nat → Nat → Option Nat} {N : Nat} {h : z_H} {v0 : Int64} {v2 : Int32} {β : Type} {f : Int32 × z_H → Option β} {Q : β → Prop} (T : q_U L W h0 π h)  (hN : 100000 ≤ N) (H : ∀ y, (y = if q_okc v0 v2 8 = 1 then q_cn v0 8 else -1) → qk (f (y, h)) Q) : qk (z_b (f_Mod_measure N v0 v2 h) f) Q := by
  refine qk_b (p_Mod_measure T  hN) ?_
  rintro ⟨y, hz⟩ ⟨hy, g0⟩
  try dsimp only at *
  subst hy
  exact H y g0
theorem c_Mod_addTo {L : q_L} {W : Nat → Prop} {h0 : z_H} {π : Nat → Nat → Option Nat} {N : Nat} {h : z_H} {v0 : Nat} {v1 : Int32} {v2 : Int64} {β : Type} {f : z_H → Option β} {Q : β → Prop} (T : q_U L W h0 π h) (kv0 : q_M L π v0) (wM : ∀ a, v0 ≤ a → a < v0 + 46 → W a) (b0 : 0 ≤ v1) (b1 : v1 < 12) (rm : vA h (v0 + 2) v1 + q_cn v2 8 ≤ 24) (hN : 100000 ≤ N) (H : ∀ h', q_U L W h0 π h' → (∀ a k, vI h' a k = vI h a k) → (∀ a j, 0 ≤ j → a ≠ v0 + 3 → vA h' a j = if a = v0 + 2 ∧ j = v1 then vA h (v0 + 2) v1 + q_cn v2 8 else vA h a j) → qk (f h') Q) : qk (z_b (f_Mod_addTo N v0 v1 v2 h) f) Q := by
  refine qk_b (p_Mod_addTo T kv0 wM b0 b1 rm hN) ?_
  rintro hz ⟨Tz, g0, g1⟩
  exact H hz Tz g0 g1
theorem zz_465d553903 {a1 a2 a3 : Int32} (h0 : a1 = (if a2 = 1 then a3 else -1)) (h1 : 0 ≤ a1) : a2 = 1 := by split at h0 <;> (simp only [Int32.le_iff_toInt_le, Int32.lt_iff_toInt_lt, ← Int32.toInt_inj, ne_eq] at *; have l0 : (1 : Int32).toInt = 1 := (by decide); have l1 : (-1 : Int32).toInt = -1 := (by decide); have l2 : (0 : Int32).toInt = 0 := (by decide); omega)
theorem zz_170aa0ecd6 {a1 a2 a3 a4 a5 : Int32} (h0 : a1 = a2) (h1 : a3 = (if a4 = 1 then a5 else -1)) (h2 : a2 + a3 ≤ 240) (h3 : 0 ≤ a3) (h4 : (0 ≤ a2) ∧ (a2 ≤ 240)) (h5 : (0 ≤ a5) ∧ (a5 ≤ 8)) : a1 + a5 ≤ 240 := by split at h1 <;> (simp only [Int32.le_iff_toInt_le, Int32.lt_iff_toInt_lt, ← Int32.toInt_inj, ne_eq] at *; have b0 := Int32.le_toInt a2; have c0 := Int32.toInt_lt a2; have b1 := Int32.le_toInt a3; have c1 := Int32.toInt_lt a3; have b2 := Int32.le_toInt a1; have c2 := Int32.toInt_lt a1; have b3 := Int32.le_toInt a5; have c3 := Int32.toInt_lt a5; have l0 : (1 : Int32).toInt = 1 := (by decide); have l1 : (-1 : Int32).toInt = -1 := (by decide); have l2 : (240 : Int32).toInt = 240 := (by decide); have l3 : (0 : Int32).toInt = 0 := (by decide); have l4 : (8 : Int32).toInt = 8 := (by decide); have s0 : (a2 + a3).toInt = a2.toInt + a3.toInt := q_tA rfl (by omega) (by omega); have s1 : (a1 + a5).toInt = a1.toInt + a5.toInt := q_tA rfl (by omega) (by omega); omega)
theorem zz_25880ec27a {a1 a2 a3 a4 a5 a6 : Int32} (h0 : a1 = (if a2 = 1 then a3 else -1)) (h1 : 0 ≤ a1) : (a2 = 0) → ((a4 = 1) ∧ (a5 = a6)) := by split at h0 <;> (simp only [Int32.le_iff_toInt_le, Int32.lt_iff_toInt_lt, ← Int32.toInt_inj, ne_eq] at *; have l0 : (1 : Int32).toInt = 1 := (by decide); have l1 : (-1 : Int32).toInt = -1 := (by decide); have l2 : (0 : Int32).toInt = 0 := (by decide); omega)
theorem zz_54981fe7bf {a1 a2 a3 a4 a5 a6 : Int32} (h0 : (a1 = 0) ∨ (a1 = 1)) (h1 : a2 = (if a1 = 1 then a3 else -1)) (h2 : a4 + a2 ≤ 240) (h3 : (0 ≤ a4) ∧ (a4 ≤ 240)) (h4 : 0 ≤ a2) (h5 : (0 ≤ a3) ∧ (a3 ≤ 8)) : (a1 ≠ 0) → ((240 < a4 + a3) → ((a5 = 2) ∧ (a6 = a4))) := by split at h1 <;> (simp only [Int32.le_iff_toInt_le, Int32.lt_iff_toInt_lt, ← Int32.toInt_inj, ne_eq] at *; have b0 := Int32.le_toInt a4; have c0 := Int32.toInt_lt a4; have b1 := Int32.le_toInt a2; have c1 := Int32.toInt_lt a2; have b2 := Int32.le_toInt a3; have c2 := Int32.toInt_lt a3; have l0 : (0 : Int32).toInt = 0 := (by decide); have l1 : (1 : Int32).toInt = 1 := (by decide); have l2 : (-1 : Int32).toInt = -1 := (by decide); have l3 : (240 : Int32).toInt = 240 := (by decide); have l4 : (8 : Int32).toInt = 8 := (by decide); have l5 : (2 : Int32).toInt = 2 := (by decide); have s0 : (a4 + a2).toInt = a4.toInt + a2.toInt := q_tA rfl (by omega) (by omega); have s1 : (a4 + a3).toInt = a4.toInt + a3.toInt := q_tA rfl (by omega) (by omega); omega)
theorem zz_9b54293fd8 {a1 a2 a3 a4 a5 a6 a7 : Int32} (h0 : a1 = 0) (h1 : a2 = a3 + a4) (h2 : a3 = a5) (h3 : a6 = a3 + a4) (h4 : (0 ≤ a4) ∧ (a4 ≤ 8)) (h5 : (0 ≤ a5) ∧ (a5 ≤ 240)) : (a7 ≠ 0) → ((a5 + a4 ≤ 240) → ((a1 = 0) ∧ ((a6 = a5 + a4) ∧ (a2 = a5 + a4)))) := by simp only [Int32.le_iff_toInt_le, Int32.lt_iff_toInt_lt, ← Int32.toInt_inj, ne_eq] at *; have b0 := Int32.le_toInt a3; have c0 := Int32.toInt_lt a3; have b1 := Int32.le_toInt a4; have c1 := Int32.toInt_lt a4; have b2 := Int32.le_toInt a5; have c2 := Int32.toInt_lt a5; have l0 : (0 : Int32).toInt = 0 := (by decide); have l1 : (8 : Int32).toInt = 8 := (by decide); have l2 : (240 : Int32).toInt = 240 := (by decide); have s0 : (a3 + a4).toInt = a3.toInt + a4.toInt := q_tA rfl (by omega) (by omega); have s1 : (a5 + a4).toInt = a5.toInt + a4.toInt := q_tA rfl (by omega) (by omega); omega
theorem zz_98714d88ba {a1 a2 a3 a4 a5 a6 : Int32} (h0 : (0 ≤ a1) ∧ (a1 ≤ 240)) (h1 : a2 = (if a3 = 1 then a4 else -1)) (h2 : ¬ (a1 + a2 ≤ 240)) (h3 : 0 ≤ a2) (h4 : (0 ≤ a4) ∧ (a4 ≤ 8)) : (a3 = 0) → ((a5 = 1) ∧ (a6 = a1)) := by split at h1 <;> (simp only [Int32.le_iff_toInt_le, Int32.lt_iff_toInt_lt, ← Int32.toInt_inj, ne_eq] at *; have b0 := Int32.le_toInt a1; have c0 := Int32.toInt_lt a1; have b1 := Int32.le_toInt a2; have c1 := Int32.toInt_lt a2; have l0 : (0 : Int32).toInt = 0 := (by decide); have l1 : (240 : Int32).toInt = 240 := (by decide); have l2 : (1 : Int32).toInt = 1 := (by decide); have l3 : (-1 : Int32).toInt = -1 := (by decide); have l4 : (8 : Int32).toInt = 8 := (by decide); have s0 : (a1 + a2).toInt = a1.toInt + a2.toInt := q_tA rfl (by omega) (by omega); omega)
theorem zz_746011279c {a1 a2 a3 a4 a5 : Int32} (h0 : a1 = 2) (h1 : a2 = a3) (h2 : (0 ≤ a3) ∧ (a3 ≤ 240)) (h3 : (0 ≤ a4) ∧ (a4 ≤ 8)) : (a5 ≠ 0) → ((240 < a3 + a4) → ((a1 = 2) ∧ (a2 = a3))) := by simp only [Int32.le_iff_toInt_le, Int32.lt_iff_toInt_lt, ← Int32.toInt_inj, ne_eq] at *; have b0 := Int32.le_toInt a3; have c0 := Int32.toInt_lt a3; have b1 := Int32.le_toInt a4; have c1 := Int32.toInt_lt a4; have l0 : (2 : Int32).toInt = 2 := (by decide); have l1 : (0 : Int32).toInt = 0 := (by decide); have l2 : (240 : Int32).toInt = 240 := (by decide); have l3 : (8 : Int32).toInt = 8 := (by decide); have s0 : (a3 + a4).toInt = a3.toInt + a4.toInt := q_tA rfl (by omega) (by omega); omega
theorem zz_639ac17346 {a1 a2 a3 a4 a5 a6 a7 : Int32} (h0 : (0 ≤ a1) ∧ (a1 ≤ 240)) (h1 : a2 = (if a3 = 1 then a4 else -1)) (h2 : ¬ (a1 + a2 ≤ 240)) (h3 : 0 ≤ a2) (h4 : (0 ≤ a4) ∧ (a4 ≤ 8)) : (a3 ≠ 0) → ((a1 + a4 ≤ 240) → ((a5 = 0) ∧ ((a6 = a1 + a4) ∧ (a7 = a1 + a4)))) := by split at h1 <;> (simp only [Int32.le_iff_toInt_le, Int32.lt_iff_toInt_lt, ← Int32.toInt_inj, ne_eq] at *; have b0 := Int32.le_toInt a1; have c0 := Int32.toInt_lt a1; have b1 := Int32.le_toInt a2; have c1 := Int32.toInt_lt a2; have b2 := Int32.le_toInt a4; have c2 := Int32.toInt_lt a4; have l0 : (0 : Int32).toInt = 0 := (by decide); have l1 : (240 : Int32).toInt = 240 := (by decide); have l2 : (1 : Int32).toInt = 1 := (by decide); have l3 : (-1 : Int32).toInt = -1 := (by decide); have l4 : (8 : Int32).toInt = 8 := (by decide); have s0 : (a1 + a2).toInt = a1.toInt + a2.toInt := q_tA rfl (by omega) (by omega); have s1 : (a1 + a4).toInt = a1.toInt + a4.toInt := q_tA rfl (by omega) (by omega); omega)
theorem zz_5c1968c7cd {a1 a2 a3 a4 : Int32} (h0 : a1 = 1) (h1 : a2 = a3) : (a4 = 0) → ((a1 = 1) ∧ (a2 = a3)) := by simp only [Int32.le_iff_toInt_le, Int32.lt_iff_toInt_lt, ← Int32.toInt_inj, ne_eq] at *; have l0 : (1 : Int32).toInt = 1 := (by decide); have l1 : (0 : Int32).toInt = 0 := (by decide); omega
theorem zz_762867a076 {a1 a2 a3 a4 a5 a6 : Int32} (h0 : (0 ≤ a1) ∧ (a1 ≤ 240)) (h1 : (a2 = 0) ∨ (a2 = 1)) (h2 : a3 = (if a2 = 1 then a4 else -1)) (h3 : ¬ (0 ≤ a3)) (h4 : (0 ≤ a4) ∧ (a4 ≤ 8)) : (a2 ≠ 0) → ((240 < a1 + a4) → ((a5 = 2) ∧ (a6 = a1))) := by split at h2 <;> (simp only [Int32.le_iff_toInt_le, Int32.lt_iff_toInt_lt, ← Int32.toInt_inj, ne_eq] at *; have b0 := Int32.le_toInt a1; have c0 := Int32.toInt_lt a1; have b1 := Int32.le_toInt a4; have c1 := Int32.toInt_lt a4; have l0 : (0 : Int32).toInt = 0 := (by decide); have l1 : (240 : Int32).toInt = 240 := (by decide); have l2 : (1 : Int32).toInt = 1 := (by decide); have l3 : (-1 : Int32).toInt = -1 := (by decide); have l4 : (8 : Int32).toInt = 8 := (by decide); have l5 : (2 : Int32).toInt = 2 := (by decide); have s0 : (a1 + a4).toInt = a1.toInt + a4.toInt := q_tA rfl (by omega) (by omega); omega)
theorem zz_90741b5bbb {a1 a2 a3 a4 a5 a6 a7 : Int32} (h0 : (0 ≤ a1) ∧ (a1 ≤ 8)) (h1 : (a2 = 0) ∨ (a2 = 1)) (h2 : a3 = (if a2 = 1 then a1 else -1)) (h3 : ¬ (0 ≤ a3)) (h4 : (0 ≤ a4) ∧ (a4 ≤ 240)) : (a2 ≠ 0) → ((a4 + a1 ≤ 240) → ((a5 = 0) ∧ ((a6 = a4 + a1) ∧ (a7 = a4 + a1)))) := by split at h2 <;> (simp only [Int32.le_iff_toInt_le, Int32.lt_iff_toInt_lt, ← Int32.toInt_inj, ne_eq] at *; have b0 := Int32.le_toInt a4; have c0 := Int32.toInt_lt a4; have b1 := Int32.le_toInt a1; have c1 := Int32.toInt_lt a1; have l0 : (0 : Int32).toInt = 0 := (by decide); have l1 : (8 : Int32).toInt = 8 := (by decide); have l2 : (1 : Int32).toInt = 1 := (by decide); have l3 : (-1 : Int32).toInt = -1 := (by decide); have l4 : (240 : Int32).toInt = 240 := (by decide); have s0 : (a4 + a1).toInt = a4.toInt + a1.toInt := q_tA rfl (by omega) (by omega); omega)
set_option maxHeartbeats 2000000 in
theorem p_Mod_script {L : q_L} {W : Nat → Prop} {h0 : z_H} {π : Nat → Nat → Option Nat} {N : Nat} {h : z_H} {v0 : Nat} {v1 : Int64} (T : q_U L W h0 π h) (kv0 : q_M L π v0) (wM : ∀ a, v0 ≤ a → a < v0 + 46 → W a) (hN : 100000 ≤ N) : qk (f_Mod_script N v0 v1 h) (fun r => q_U L W h0 π r.2 ∧ (q_okc v1 1 8 = 0 → vI r.2 v0 6 = 1 ∧ vI r.2 v0 3 = vI h v0 3) ∧ (q_okc v1 1 8 ≠ 0 → 240 < vI h v0 3 + q_cn v1 8 → vI r.2 v0 6 = 2 ∧ vI r.2 v0 3 = vI h v0 3) ∧ (q_okc v1 1 8 ≠ 0 → vI h v0 3 + q_cn v1 8 ≤ 240 → vI r.2 v0 6 = 0 ∧ r.1 = vI h v0 3 + q_cn v1 8 ∧ vI r.2 v0 3 = vI h v0 3 + q_cn v1 8) ∧ (∀ a k, ¬ (a = v0 ∧ (k = 3 ∨ k = 6)) → vI r.2 a k = vI h a k) ∧ (∀ a j, 0 ≤ j → ¬ (a = v0 + 1) → vA r.2 a j = vA h a j)) := by
  have hcn_v1 : 0 ≤ q_cn v1 8 ∧ q_cn v1 8 ≤ 8 := q_cnr_8 v1
  have hok_v1 : q_okc v1 1 8 = 0 ∨ q_okc v1 1 8 = 1 := q_ok01_8 v1 1
  unfold f_Mod_script
  refine c_Mod_measure (v0 := v1) (v2 := 1) T hN ?_
  intro yr1 gr1_0
  dsimp only
  refine qk_bs ?_
  refine qk_if (fun cc1 => ?_) (fun cc1 => ?_)
  · skip
    refine r_Mo_3 T kv0 ?_
    intro x4 ex4 lx4 ux4
    subst ex4
    refine qk_if (fun cc2 => ?_) (fun cc2 => ?_)
    · skip
      refine w_Mo_6 T kv0 (wM _ (by omega) (by omega)) ?_
      intro h6 Th6 ih6 ah6
      have o3 : vI h6 v0 3 = vI h v0 3 := (by rw [ih6 v0 3, if_neg (fun z => absurd z.2 (by decide))])
      have o4 := g_Mo_3 T kv0
      refine qk_mono (p_Mod_script_43 (v0 := v0) (v1 := v1) Th6 kv0 wM (zz_465d553903 gr1_0 cc1) (zz_170aa0ecd6 o3 gr1_0 cc2 cc1 o4 hcn_v1) hN) ?_
      rintro ⟨y, hz⟩ ⟨Tz, g0, g1, g2⟩
      try dsimp only at *
      have o6 : vI hz v0 6 = 0 := (by rw [g1 v0 6, if_neg (fun z => absurd z.2 (by decide)), ih6 v0 6, if_pos ⟨rfl, rfl⟩])
      have o7 : vI hz v0 3 = (vI h6 v0 3) + (q_cn v1 8) := (by rw [g1 v0 3, if_pos ⟨rfl, rfl⟩])
      exact ⟨Tz, (zz_25880ec27a gr1_0 cc1), (zz_54981fe7bf hok_v1 gr1_0 cc2 o4 cc1 hcn_v1), (zz_9b54293fd8 o6 o7 o3 g0 hcn_v1 o4), (by show ∀ a k, ¬ (a = v0 ∧ (k = 3 ∨ k = 6)) → vI hz a k = vI h a k; intro a k n0; rw [g1 a k, if_neg (by omega), ih6, if_neg (by omega)]), (by show ∀ a j, 0 ≤ j → ¬ (a = v0 + 1) → vA hz a j = vA h a j; intro a j j0 n0; rw [g2 a j j0 (by omega), ah6])⟩
    · skip
      refine r_Mo_o T kv0 ?_
      refine c_Mod_fail (v0 := v0) (v1 := 2) T kv0 wM ?_
      intro yr8 hr8 Tr8 gr8_0 gr8_1 gr8_2
      dsimp only
      refine qk_some ?_
      have o8 := g_Mo_3 T kv0
      have o9 : vI hr8 v0 6 = 2 := (by rw [gr8_1 v0 6, if_pos ⟨rfl, rfl⟩])
      have o10 : vI hr8 v0 3 = vI h v0 3 := (by rw [gr8_1 v0 3, if_neg (fun z => absurd z.2 (by decide))])
      exact ⟨Tr8, (zz_98714d88ba o8 gr1_0 cc2 cc1 hcn_v1), (zz_746011279c o9 o10 o8 hcn_v1), (zz_639ac17346 o8 gr1_0 cc2 cc1 hcn_v1), (by show ∀ a k, ¬ (a = v0 ∧ (k = 3 ∨ k = 6)) → vI hr8 a k = vI h a k; intro a k n0; rw [gr8_1 a k, if_neg (by omega)]), (by show ∀ a j, 0 ≤ j → ¬ (a = v0 + 1) → vA hr8 a j = vA h a j; intro a j j0 n0; rw [gr8_2 a j])⟩
  · skip
    refine r_Mo_o T kv0 ?_
    refine c_Mod_fail (v0 := v0) (v1 := 1) T kv0 wM ?_
    intro yr10 hr10 Tr10 gr10_0 gr10_1 gr10_2
    dsimp only
    refine qk_some ?_
    have o11 : vI hr10 v0 6 = 1 := (by rw [gr10_1 v0 6, if_pos ⟨rfl, rfl⟩])
    have o12 : vI hr10 v0 3 = vI h v0 3 := (by rw [gr10_1 v0 3, if_neg (fun z => absurd z.2 (by decide))])
    have o13 := g_Mo_3 T kv0
    exact ⟨Tr10, (zz_5c1968c7cd o11 o12), (zz_762867a076 o13 hok_v1 gr1_0 cc1 hcn_v1), (zz_90741b5bbb hcn_v1 hok_v1 gr1_0 cc1 o13), (by show ∀ a k, ¬ (a = v0 ∧ (k = 3 ∨ k = 6)) → vI hr10 a k = vI h a k; intro a k n0; rw [gr10_1 a k, if_neg (by omega)]), (by show ∀ a j, 0 ≤ j → ¬ (a = v0 + 1) → vA hr10 a j = vA h a j; intro a j j0 n0; rw [gr10_2 a j])⟩
theorem c_Mod_script {L : q_L} {W : Nat → Prop} {h0 : z_H} {π : Nat → Nat → Option Nat} {N : Nat} {h : z_H} {v0 : Nat} {v1 : Int64} {β : Type} {f : Int32 × z_H → Option β} {Q : β → Prop} (T : q_U L W h0 π h) (kv0 : q_M L π v0) (wM : ∀ a, v0 ≤ a → a < v0 + 46 → W a) (hN : 100000 ≤ N) (H : ∀ y h', q_U L W h0 π h' → (q_okc v1 1 8 = 0 → vI h' v0 6 = 1 ∧ vI h' v0 3 = vI h v0 3) → (q_okc v1 1 8 ≠ 0 → 240 < vI h v0 3 + q_cn v1 8 → vI h' v0 6 = 2 ∧ vI h' v0 3 = vI h v0 3) → (q_okc v1 1 8 ≠ 0 → vI h v0 3 + q_cn v1 8 ≤ 240 → vI h' v0 6 = 0 ∧ y = vI h v0 3 + q_cn v1 8 ∧ vI h' v0 3 = vI h v0 3 + q_cn v1 8) → (∀ a k, ¬ (a = v0 ∧ (k = 3 ∨ k = 6)) → vI h' a k = vI h a k) → (∀ a j, 0 ≤ j → ¬ (a = v0 + 1) → vA h' a j = vA h a j) → qk (f (y, h')) Q) : qk (z_b (f_Mod_script N v0 v1 h) f) Q := by
  refine qk_b (p_Mod_script T kv0 wM hN) ?_
  rintro ⟨y, hz⟩ ⟨Tz, g0, g1, g2, g3, g4⟩
  exact H y hz Tz g0 g1 g2 g3 g4
