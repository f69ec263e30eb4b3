theorem zz_cdb8bc068a {a1 a2 a3 : Int32} (h0 : a1 = a2) (h1 : (a3 = 0) → (a2 = 1)) : (a3 = 0) → (a1 = 1) := by simp only [Int32.le_iff_toInt_le, Int32.lt_iff_toInt_lt, ← Int32.toInt_inj, ne_eq] at *; have l0 : (0 : Int32).toInt = 0 := (by decide); have l1 : (1 : Int32).toInt = 1 := (by decide); omega
theorem zz_2ae5f8c9b4 {a1 a2 a3 : Int32} (h0 : a1 = a2) (h1 : ¬ (a2 ≤ a3)) : a3 < a1 := by simp only [Int32.le_iff_toInt_le, Int32.lt_iff_toInt_lt, ← Int32.toInt_inj, ne_eq] at *; omega
theorem zz_fc246845bb {a1 a2 : Int32} (h0 : a1 = 0) (h1 : 0 ≤ a2) : a1 ≤ a2 := by simp only [Int32.le_iff_toInt_le, Int32.lt_iff_toInt_lt, ← Int32.toInt_inj, ne_eq] at *; have l0 : (0 : Int32).toInt = 0 := (by decide); omega
theorem zz_4a073cd94c {a1 a2 a3 : Int32} (h0 : (a1 < a2) ∧ (a2 ≤ a3)) (h1 : 0 ≤ a1) : 0 ≤ a2 := by simp only [Int32.le_iff_toInt_le, Int32.lt_iff_toInt_lt, ← Int32.toInt_inj, ne_eq] at *; have l0 : (0 : Int32).toInt = 0 := (by decide); omega
theorem zz_a57537a4ca {a1 a2 a3 a4 a5 : Int32} (h0 : a1 = a2) (h1 : (a3 < a4) ∧ (a4 ≤ a5)) (h2 : a5 = a2) : a4 ≤ a1 := by simp only [Int32.le_iff_toInt_le, Int32.lt_iff_toInt_lt, ← Int32.toInt_inj, ne_eq] at *; omega
theorem zz_1d0c3f840f {a1 a2 a3 a4 a5 : Int32} (h0 : a1 ≤ a2) (h1 : a3 ≤ a1 + 1) (h2 : (a2 < a4) ∧ (a4 ≤ a5)) (h3 : -100000 ≤ a1) (h4 : a1 ≤ 100000) : a3 ≤ a4 := by simp only [Int32.le_iff_toInt_le, Int32.lt_iff_toInt_lt, ← Int32.toInt_inj, ne_eq] at *; have b0 := Int32.le_toInt a1; have c0 := Int32.toInt_lt a1; have l0 : (1 : Int32).toInt = 1 := (by decide); have l1 : (-100000 : Int32).toInt = -100000 := (by decide); have l2 : (100000 : Int32).toInt = 100000 := (by decide); have s0 : (a1 + 1).toInt = a1.toInt + 1 := q_tA (by decide) (by omega) (by omega); omega
set_option maxHeartbeats 1000000 in
theorem p_Mod_tellAppended_4_n {L : q_L} {W : Nat → Prop} {h0 : z_H} {π : Nat → Nat → Option Nat} {N : Nat} {lo : Nat → Int32} (hqn : q_Q lo 201) : ∀ (n : Nat) (v0 : Nat) (v1 : Int32) (v2 : Int32) (h : z_H), q_U L W h0 π h → q_M L π v0 → (∀ a, v0 ≤ a → a < v0 + 46 → W a) → (0 ≤ v1) → (v1 ≤ vI h v0 68) → (v2 = 0 ∨ v2 = 1) → (v2 = 0 → vI h v0 76 = 1) → (vI h v0 68 = 0 ∨ vA h (v0 + 42) (vI h v0 68 - 1) = 10) → (100000 ≤ N) → (lo n ≤ v1) → qk (f_Mod_tellAppended_4 N  n v0 v1 v2 h) (fun r => q_U L W h0 π r.2 ∧ (r.1 = 0 ∨ r.1 = 1) ∧ (r.1 = 0 → vI r.2 v0 76 = 1) ∧ (∀ a k, ¬ (a = v0 ∧ (k = 6 ∨ k = 76 ∨ k = 69 ∨ k = 67 ∨ k = 68)) → vI r.2 a k = vI h a k) ∧ (∀ a j, 0 ≤ j → ¬ (a = v0 + 43 ∨ a = v0 + 41) → vA r.2 a j = vA h a j) ∧ (vI r.2 v0 68 = 0)) := by
  intro n
  induction n with
  | zero => intro v0 v1 v2 h T kv0 wM a0 a1 g0 g1 AP hN hms; have rg_ap := g_Mo_68 T kv0; have hz := hqn.1; exact absurd hms (by grind)
  | succ n ih =>
    intro v0 v1 v2 h T kv0 wM a0 a1 g0 g1 AP hN hms
    obtain ⟨hq1, hq2, hq3⟩ := hqn.2 n
    rw [f_Mod_tellAppended_4]
    refine r_Mo_68 T kv0 ?_
    intro x1 ex1 lx1 ux1
    subst ex1
    refine qk_if (fun cc1 => ?_) (fun cc1 => ?_)
    · skip
      unfold f_Mod_tellAppended_71
      refine w_Mo_68 T kv0 (wM _ (by omega) (by omega)) (by show (0 : Int32) ≤ 0; decide) (by show (0 : Int32) ≤ 200; decide) ?_
      intro h1i2 Th1i2 ih1i2 ah1i2
      refine qk_zB (by clear ih; first | with_reducible assumption | grind | lia) ?_
      refine qk_some ?_
      have o3 : vI h1i2 v0 76 = vI h v0 76 := (by rw [ih1i2 v0 76, if_neg (fun z => absurd z.2 (by decide))])
      have o4 : vI h1i2 v0 68 = 0 := (by rw [ih1i2 v0 68, if_pos ⟨rfl, rfl⟩])
      exact ⟨Th1i2, (zz_2eca02bf2d g0), (zz_cdb8bc068a o3 g1), (by clear ih; show ∀ a k, ¬ (a = v0 ∧ (k = 6 ∨ k = 76 ∨ k = 69 ∨ k = 67 ∨ k = 68)) → vI h1i2 a k = vI h a k; intro a k n0; rw [ih1i2, if_neg (by omega)]), (by clear ih; show ∀ a j, 0 ≤ j → ¬ (a = v0 + 43 ∨ a = v0 + 41) → vA h1i2 a j = vA h a j; intro a j j0 n0; rw [ah1i2]), (zz_042e269fe6 o4)⟩
    · skip
      refine qk_if (fun cc5 => ?_) (fun cc5 => ?_)
      · skip
        unfold f_Mod_tellAppended_71
        refine w_Mo_68 T kv0 (wM _ (by omega) (by omega)) (by show (0 : Int32) ≤ 0; decide) (by show (0 : Int32) ≤ 200; decide) ?_
        intro h1i6 Th1i6 ih1i6 ah1i6
        refine qk_zB (by clear ih; first | with_reducible assumption | grind | lia) ?_
        refine qk_some ?_
        have o7 : vI h1i6 v0 76 = vI h v0 76 := (by rw [ih1i6 v0 76, if_neg (fun z => absurd z.2 (by decide))])
        have o8 : vI h1i6 v0 68 = 0 := (by rw [ih1i6 v0 68, if_pos ⟨rfl, rfl⟩])
        exact ⟨Th1i6, (zz_54b14867a3 cc5), (zz_cdb8bc068a o7 g1), (by clear ih; show ∀ a k, ¬ (a = v0 ∧ (k = 6 ∨ k = 76 ∨ k = 69 ∨ k = 67 ∨ k = 68)) → vI h1i6 a k = vI h a k; intro a k n0; rw [ih1i6, if_neg (by omega)]), (by clear ih; show ∀ a j, 0 ≤ j → ¬ (a = v0 + 43 ∨ a = v0 + 41) → vA h1i6 a j = vA h a j; intro a j j0 n0; rw [ah1i6]), (zz_042e269fe6 o8)⟩
      · skip
        refine w_Mo_67 T kv0 (wM _ (by omega) (by omega)) (by show (0 : Int32) ≤ 0; decide) (by show (0 : Int32) ≤ 400; decide) ?_
        intro h4 Th4 ih4 ah4
        have o9 : vI h4 v0 68 = vI h v0 68 := (by rw [ih4 v0 68, if_neg (fun z => absurd z.2 (by decide))])
        have o10 : vI h4 v0 67 = 0 := (by rw [ih4 v0 67, if_pos ⟨rfl, rfl⟩])
        have o11 := g_Mo_68 T kv0
        refine p_Mod_tellAppended_21 (v0 := v0) (v1 := v1) Th4 kv0 wM a0 (zz_2ae5f8c9b4 o9 cc1) (zz_fc246845bb o10 a0) (by clear ih; by_cases z : vI h v0 68 = 0; (left; rw [ih4 v0 68, if_neg (fun z => absurd z.2 (by decide))]; exact z); (right; have jz : 0 ≤ vI h v0 68 - 1 := (zz_e8fb340edd o11 z); rw [ih4 v0 68, if_neg (fun z => absurd z.2 (by decide))]; rw [ah4 (v0 + 42) (vI h v0 68 - 1)]; exact (AP).resolve_left z)) hN ?_
        · intro x_w12 y1_w12 h_w12 Tw12 gw12_0 gw12_1 gw12_2 gw12_3 gw12_4
          have o13 : vI h_w12 v0 68 = vI h v0 68 := (by rw [gw12_0 v0 68 (by omega), ih4 v0 68, if_neg (fun z => absurd z.2 (by decide))])
          refine qk_mono (ih (v0) (x_w12) (y1_w12) h_w12 Tw12 kv0 wM (zz_4a073cd94c gw12_2 a0) (zz_a57537a4ca o13 gw12_2 o9) (zz_2eca02bf2d gw12_3) (zz_89d5dbace5 gw12_4) (by clear ih; by_cases z : vI h v0 68 = 0; (left; rw [gw12_0 v0 68 (by omega), ih4 v0 68, if_neg (fun z => absurd z.2 (by decide))]; exact z); (right; have jz : 0 ≤ vI h v0 68 - 1 := (zz_e8fb340edd o11 z); rw [gw12_0 v0 68 (by omega), ih4 v0 68, if_neg (fun z => absurd z.2 (by decide))]; rw [gw12_1 (v0 + 42) (vI h v0 68 - 1) jz (by omega), ah4 (v0 + 42) (vI h v0 68 - 1)]; exact (AP).resolve_left z)) hN (zz_1d0c3f840f hms hq1 gw12_2 hq2 hq3)) ?_
          rintro ⟨y, hz⟩ ⟨Tz, g0, g1, g2, g3, g4⟩
          try dsimp only at *
          exact ⟨Tz, (zz_2eca02bf2d g0), (zz_89d5dbace5 g1), (by clear ih; show ∀ a k, ¬ (a = v0 ∧ (k = 6 ∨ k = 76 ∨ k = 69 ∨ k = 67 ∨ k = 68)) → vI hz a k = vI h a k; intro a k n0; rw [g2 a k (by omega), gw12_0 a k (by omega), ih4, if_neg (by omega)]), (by clear ih; show ∀ a j, 0 ≤ j → ¬ (a = v0 + 43 ∨ a = v0 + 41) → vA hz a j = vA h a j; intro a j j0 n0; rw [g3 a j j0 (by omega), gw12_1 a j j0 (by omega), ah4]), g4⟩
theorem p_Mod_tellAppended_4 {L : q_L} {W : Nat → Prop} {h0 : z_H} {π : Nat → Nat → Option Nat} {N : Nat} {h : z_H} {v0 : Nat} {v1 : Int32} {v2 : Int32} (T : q_U L W h0 π h) (kv0 : q_M L π v0) (wM : ∀ a, v0 ≤ a → a < v0 + 46 → W a) (a0 : 0 ≤ v1) (a1 : v1 ≤ vI h v0 68) (g0 : v2 = 0 ∨ v2 = 1) (g1 : v2 = 0 → vI h v0 76 = 1) (AP : vI h v0 68 = 0 ∨ vA h (v0 + 42) (vI h v0 68 - 1) = 10) (hN : 100000 ≤ N) : qk (f_Mod_tellAppended_4 N  N v0 v1 v2 h) (fun r => q_U L W h0 π r.2 ∧ (r.1 = 0 ∨ r.1 = 1) ∧ (r.1 = 0 → vI r.2 v0 76 = 1) ∧ (∀ a k, ¬ (a = v0 ∧ (k = 6 ∨ k = 76 ∨ k = 69 ∨ k = 67 ∨ k = 68)) → vI r.2 a k = vI h a k) ∧ (∀ a j, 0 ≤ j → ¬ (a = v0 + 43 ∨ a = v0 + 41) → vA r.2 a j = vA h a j) ∧ (vI r.2 v0 68 = 0)) := by
  have hq := q_qnN hN
  have rg_ap := g_Mo_68 T kv0
  refine p_Mod_tellAppended_4_n (q_lo (M := 201) (by decide) (by decide)) N v0 v1 v2 h T kv0 wM a0 a1 g0 g1 AP hN ?_ 
  show 201 - q_n N ≤ _
  rw [hq]
  lia
