theorem zz_7928bd9f87 {a1 a2 a3 a4 a5 a6 a7 a8 : Int32} (h0 : (a1 = 0) ↔ ((a2 < 0) ∨ (1 < a2))) (h1 : a1 = 0) : (a2 = 0) → ((a3 = 0) ∧ ((a4 = a5) ∧ ((a6 = 0) ∧ (a7 = a8)))) := by simp only [Int32.le_iff_toInt_le, Int32.lt_iff_toInt_lt, ← Int32.toInt_inj, ne_eq] at *; have l0 : (0 : Int32).toInt = 0 := (by decide); have l1 : (1 : Int32).toInt = 1 := (by decide); omega
theorem zz_14bb4f9ed9 {a1 a2 a3 a4 a5 a6 a7 a8 : Int32} (h0 : (a1 = 0) ↔ ((a2 < 0) ∨ (1 < a2))) (h1 : a1 = 0) : (a2 = 1) → ((a3 = 0) ∧ ((a4 = a5) ∧ ((a6 = 0) ∧ (a7 = a8)))) := by simp only [Int32.le_iff_toInt_le, Int32.lt_iff_toInt_lt, ← Int32.toInt_inj, ne_eq] at *; have l0 : (0 : Int32).toInt = 0 := (by decide); have l1 : (1 : Int32).toInt = 1 := (by decide); omega
theorem zz_fc7442ef36 {a1 a2 a3 a4 a5 a6 : Int32} (h0 : a1 = 1) (h1 : a2 = a3) (h2 : a4 = a5) : (a6 ≠ 0) → ((a6 ≠ 1) → ((a1 = 1) ∧ ((a2 = a3) ∧ (a4 = a5)))) := by simp only [Int32.le_iff_toInt_le, Int32.lt_iff_toInt_lt, ← Int32.toInt_inj, ne_eq] at *; have l0 : (1 : Int32).toInt = 1 := (by decide); have l1 : (0 : Int32).toInt = 0 := (by decide); omega
theorem zz_0e6137bdd9 {a1 a2 a3 a4 a5 a6 : Int32} (h0 : a1 = 0) (h1 : a2 = 0) (h2 : a3 = a4) : (a5 = 0) → ((a1 = 0) ∧ ((a6 = a6) ∧ ((a2 = 0) ∧ (a3 = a4)))) := by lia
theorem zz_a884a96076 {a1 a2 a3 a4 a5 a6 : Int32} (h0 : a1 = 0) : (a1 = 1) → ((a2 = 0) ∧ ((a3 = a4) ∧ ((a5 = 0) ∧ (a6 = a3)))) := by simp only [Int32.le_iff_toInt_le, Int32.lt_iff_toInt_lt, ← Int32.toInt_inj, ne_eq] at *; have l0 : (0 : Int32).toInt = 0 := (by decide); have l1 : (1 : Int32).toInt = 1 := (by decide); omega
theorem zz_b1a66d8d28 {a1 a2 a3 a4 a5 a6 : Int32} (h0 : a1 = 0) : (a1 ≠ 0) → ((a1 ≠ 1) → ((a2 = 1) ∧ ((a3 = a4) ∧ (a5 = a6)))) := by simp only [Int32.le_iff_toInt_le, Int32.lt_iff_toInt_lt, ← Int32.toInt_inj, ne_eq] at *; have l0 : (0 : Int32).toInt = 0 := (by decide); have l1 : (1 : Int32).toInt = 1 := (by decide); omega
theorem zz_1bb363ce8f {a1 a2 a3 a4 a5 a6 : Int32} (h0 : ¬ (a1 = 0)) : (a1 = 0) → ((a2 = 0) ∧ ((a3 = a3) ∧ ((a4 = 0) ∧ (a5 = a6)))) := by lia
theorem zz_9d8c287e25 {a1 a2 a3 a4 a5 a6 : Int32} (h0 : ¬ (a1 = 0)) : (a1 = 0) → ((a2 = 0) ∧ ((a3 = a4) ∧ ((a5 = 0) ∧ (a6 = a3)))) := by simp only [Int32.le_iff_toInt_le, Int32.lt_iff_toInt_lt, ← Int32.toInt_inj, ne_eq] at *; have l0 : (0 : Int32).toInt = 0 := (by decide); omega
theorem zz_d613a53847 {a1 a2 a3 a4 a5 a6 : Int32} (h0 : a1 = 0) : (a1 = 1) → ((a2 = 0) ∧ ((a3 = a3) ∧ ((a4 = 0) ∧ (a5 = a6)))) := by lia
theorem zz_b9fc38b637 {a1 a2 a3 a4 a5 a6 : Int32} (h0 : a1 = 0) (h1 : a2 = 0) (h2 : a3 = a4) : (a5 = 1) → ((a1 = 0) ∧ ((a6 = a6) ∧ ((a2 = 0) ∧ (a3 = a4)))) := by lia
theorem zz_d1e5ec97e8 {a1 a2 a3 a4 a5 a6 a7 : Int32} (h0 : (a1 = 0) ↔ ((a2 < 0) ∨ (1 < a2))) (h1 : ¬ (a1 = 0)) : (a2 ≠ 0) → ((a2 ≠ 1) → ((a3 = 1) ∧ ((a4 = a5) ∧ (a6 = a7)))) := by simp only [Int32.le_iff_toInt_le, Int32.lt_iff_toInt_lt, ← Int32.toInt_inj, ne_eq] at *; have l0 : (0 : Int32).toInt = 0 := (by decide); have l1 : (1 : Int32).toInt = 1 := (by decide); omega
set_option maxHeartbeats 1000000 in
theorem p_Mod_clear {L : q_L} {W : Nat → Prop} {h0 : z_H} {π : Nat → Nat → Option Nat} {N : Nat} {h : z_H} {v0 : Nat} {v1 : Int32} (T : q_U L W h0 π h) (kv0 : q_M L π v0) (wM : ∀ a, v0 ≤ a → a < v0 + 46 → W a) : qk (f_Mod_clear N v0 v1 h) (fun r => q_U L W h0 π r.2 ∧ (v1 = 0 → vI r.2 v0 6 = 0 ∧ r.1 = vI h v0 3 ∧ vI r.2 v0 3 = 0 ∧ vI r.2 v0 4 = vI h v0 4) ∧ (v1 = 1 → vI r.2 v0 6 = 0 ∧ r.1 = vI h v0 4 ∧ vI r.2 v0 4 = 0 ∧ vI r.2 v0 3 = vI h v0 3) ∧ (v1 ≠ 0 → v1 ≠ 1 → vI r.2 v0 6 = 1 ∧ vI r.2 v0 3 = vI h v0 3 ∧ vI r.2 v0 4 = vI h v0 4) ∧ (∀ a k, ¬ (a = v0 ∧ (k = 3 ∨ k = 4 ∨ k = 6)) → vI r.2 a k = vI h a k) ∧ (∀ a j, 0 ≤ j → vA r.2 a j = vA h a j)) := by
  unfold f_Mod_clear
  refine c_Mod_in (v0 := v1) (v1 := 0) (v2 := 1) T ?_
  intro yr1 gr1_0 gr1_1
  dsimp only
  refine qk_if (fun cc1 => ?_) (fun cc1 => ?_)
  · skip
    refine r_Mo_o T kv0 ?_
    refine c_Mod_fail (v0 := v0) (v1 := 1) T kv0 wM ?_
    intro yr8 hr8 Tr8 gr8_0 gr8_1 gr8_2
    dsimp only
    refine qk_some ?_
    have o2 : vI hr8 v0 6 = 1 := (by rw [gr8_1 v0 6, if_pos ⟨rfl, rfl⟩])
    have o3 : vI hr8 v0 3 = vI h v0 3 := (by rw [gr8_1 v0 3, if_neg (fun z => absurd z.2 (by decide))])
    have o4 : vI hr8 v0 4 = vI h v0 4 := (by rw [gr8_1 v0 4, if_neg (fun z => absurd z.2 (by decide))])
    exact ⟨Tr8, (zz_7928bd9f87 gr1_1 cc1), (zz_14bb4f9ed9 gr1_1 cc1), (zz_fc7442ef36 o2 o3 o4), (by show ∀ a k, ¬ (a = v0 ∧ (k = 3 ∨ k = 4 ∨ k = 6)) → vI hr8 a k = vI h a k; intro a k n0; rw [gr8_1 a k, if_neg (by omega)]), (by show ∀ a j, 0 ≤ j → vA hr8 a j = vA h a j; intro a j j0; rw [gr8_2 a j])⟩
  · skip
    refine w_Mo_6 T kv0 (wM _ (by omega) (by omega)) ?_
    intro h3 Th3 ih3 ah3
    refine qk_if (fun cc5 => ?_) (fun cc5 => ?_)
    · skip
      refine r_Mo_3 Th3 kv0 ?_
      intro x6 ex6 lx6 ux6
      have sx6 : (vI h v0 3) = x6 := (ex6.trans (by rw [ih3 v0 3, if_neg (fun z => absurd z.2 (by decide))])).symm
      subst sx6
      unfold f_Mod_clear_35
      refine qk_if (fun cc7 => ?_) (fun cc7 => ?_)
      · skip
        refine w_Mo_3 Th3 kv0 (wM _ (by omega) (by omega)) (by show (0 : Int32) ≤ 0; decide) (by show (0 : Int32) ≤ 240; decide) ?_
        intro h3i6 Th3i6 ih3i6 ah3i6
        refine qk_some ?_
        have o8 : vI h3i6 v0 6 = 0 := (by rw [ih3i6 v0 6, if_neg (fun z => absurd z.2 (by decide)), ih3 v0 6, if_pos ⟨rfl, rfl⟩])
        have o9 : vI h3i6 v0 3 = 0 := (by rw [ih3i6 v0 3, if_pos ⟨rfl, rfl⟩])
        have o10 : vI h3i6 v0 4 = vI h v0 4 := (by rw [ih3i6 v0 4, if_neg (fun z => absurd z.2 (by decide)), ih3 v0 4, if_neg (fun z => absurd z.2 (by decide))])
        exact ⟨Th3i6, (zz_0e6137bdd9 o8 o9 o10), (zz_a884a96076 cc7), (zz_b1a66d8d28 cc7), (by show ∀ a k, ¬ (a = v0 ∧ (k = 3 ∨ k = 4 ∨ k = 6)) → vI h3i6 a k = vI h a k; intro a k n0; rw [ih3i6, if_neg (by omega), ih3, if_neg (by omega)]), (by show ∀ a j, 0 ≤ j → vA h3i6 a j = vA h a j; intro a j j0; rw [ah3i6, ah3])⟩
      · skip
        refine w_Mo_4 Th3 kv0 (wM _ (by omega) (by omega)) (by show (0 : Int32) ≤ 0; decide) (by show (0 : Int32) ≤ 12; decide) ?_
        intro h2i6 Th2i6 ih2i6 ah2i6
        refine qk_some ?_
        exact ⟨Th2i6, (zz_1bb363ce8f cc7), (zz_a884a96076 cc5), (zz_b1a66d8d28 cc5), (by show ∀ a k, ¬ (a = v0 ∧ (k = 3 ∨ k = 4 ∨ k = 6)) → vI h2i6 a k = vI h a k; intro a k n0; rw [ih2i6, if_neg (by omega), ih3, if_neg (by omega)]), (by show ∀ a j, 0 ≤ j → vA h2i6 a j = vA h a j; intro a j j0; rw [ah2i6, ah3])⟩
    · skip
      refine r_Mo_4 Th3 kv0 ?_
      intro x5 ex5 lx5 ux5
      have sx5 : (vI h v0 4) = x5 := (ex5.trans (by rw [ih3 v0 4, if_neg (fun z => absurd z.2 (by decide))])).symm
      subst sx5
      unfold f_Mod_clear_35
      refine qk_if (fun cc12 => ?_) (fun cc12 => ?_)
      · skip
        refine w_Mo_3 Th3 kv0 (wM _ (by omega) (by omega)) (by show (0 : Int32) ≤ 0; decide) (by show (0 : Int32) ≤ 240; decide) ?_
        intro h3i11 Th3i11 ih3i11 ah3i11
        refine qk_some ?_
        exact ⟨Th3i11, (zz_9d8c287e25 cc5), (zz_d613a53847 cc12), (zz_b1a66d8d28 cc12), (by show ∀ a k, ¬ (a = v0 ∧ (k = 3 ∨ k = 4 ∨ k = 6)) → vI h3i11 a k = vI h a k; intro a k n0; rw [ih3i11, if_neg (by omega), ih3, if_neg (by omega)]), (by show ∀ a j, 0 ≤ j → vA h3i11 a j = vA h a j; intro a j j0; rw [ah3i11, ah3])⟩
      · skip
        refine w_Mo_4 Th3 kv0 (wM _ (by omega) (by omega)) (by show (0 : Int32) ≤ 0; decide) (by show (0 : Int32) ≤ 12; decide) ?_
        intro h2i11 Th2i11 ih2i11 ah2i11
        refine qk_some ?_
        have o13 : vI h2i11 v0 6 = 0 := (by rw [ih2i11 v0 6, if_neg (fun z => absurd z.2 (by decide)), ih3 v0 6, if_pos ⟨rfl, rfl⟩])
        have o14 : vI h2i11 v0 4 = 0 := (by rw [ih2i11 v0 4, if_pos ⟨rfl, rfl⟩])
        have o15 : vI h2i11 v0 3 = vI h v0 3 := (by rw [ih2i11 v0 3, if_neg (fun z => absurd z.2 (by decide)), ih3 v0 3, if_neg (fun z => absurd z.2 (by decide))])
        exact ⟨Th2i11, (zz_9d8c287e25 cc5), (zz_b9fc38b637 o13 o14 o15), (zz_d1e5ec97e8 gr1_1 cc1), (by show ∀ a k, ¬ (a = v0 ∧ (k = 3 ∨ k = 4 ∨ k = 6)) → vI h2i11 a k = vI h a k; intro a k n0; rw [ih2i11, if_neg (by omega), ih3, if_neg (by omega)]), (by show ∀ a j, 0 ≤ j → vA h2i11 a j = vA h a j; intro a j j0; rw [ah2i11, ah3])⟩
theorem c_Mod_clear {L : q_L} {W : Nat → Prop} {h0 : z_H} {π : Nat → Nat → Option Nat} {N : Nat} {h : z_H} {v0 : Nat} {v1 : Int32} {β : Type} {f : Int32 × z_H → Option β} {Q : β → Prop} (T : q_U L W h0 π h) (kv0 : q_M L π v0) (wM : ∀ a, v0 ≤ a → a < v0 + 46 → W a) (H : ∀ y h', q_U L W h0 π h' → (v1 = 0 → vI h' v0 6 = 0 ∧ y = vI h v0 3 ∧ vI h' v0 3 = 0 ∧ vI h' v0 4 = vI h v0 4) → (v1 = 1 → vI h' v0 6 = 0 ∧ y = vI h v0 4 ∧ vI h' v0 4 = 0 ∧ vI h' v0 3 = vI h v0 3) → (v1 ≠ 0 → v1 ≠ 1 → vI h' v0 6 = 1 ∧ vI h' v0 3 = vI h v0 3 ∧ vI h' v0 4 = vI h v0 4) → (∀ a k, ¬ (a = v0 ∧ (k = 3 ∨ k = 4 ∨ k = 6)) → vI h' a k = vI h a k) → (∀ a j, 0 ≤ j → vA h' a j = vA h a j) → qk (f (y, h')) Q) : qk (z_b (f_Mod_clear N v0 v1 h) f) Q := by
  refine qk_b (p_Mod_clear T kv0 wM) ?_
  rintro ⟨y, hz⟩ ⟨Tz, g0, g1, g2, g3, g4⟩
  exact H y hz Tz g0 g1 g2 g3 g4
