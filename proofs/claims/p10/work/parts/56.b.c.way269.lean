theorem zz_bb25b93de8 {a1 a2 : Int32} (h0 : a1 ≤ a2) : (a1 ≤ a1) ∧ (a1 ≤ a2) := by lia
theorem zz_62da3d8ed5 {a1 a2 : Int32} (h0 : (0 ≤ a1) ∧ (a1 ≤ 60)) (h1 : ¬ (a1 ≤ a2)) : a2 < 64 := by simp only [Int32.le_iff_toInt_le, Int32.lt_iff_toInt_lt, ← Int32.toInt_inj, ne_eq] at *; have l0 : (0 : Int32).toInt = 0 := (by decide); have l1 : (60 : Int32).toInt = 60 := (by decide); have l2 : (64 : Int32).toInt = 64 := (by decide); omega
theorem zz_72c88f69dc {a1 a2 : Int32} (h0 : 0 ≤ a1) (h1 : (0 ≤ a2) ∧ (a2 ≤ 60)) (h2 : ¬ (a2 ≤ a1)) : 0 ≤ a1 + 1 := by simp only [Int32.le_iff_toInt_le, Int32.lt_iff_toInt_lt, ← Int32.toInt_inj, ne_eq] at *; have b0 := Int32.le_toInt a1; have c0 := Int32.toInt_lt a1; have l0 : (0 : Int32).toInt = 0 := (by decide); have l1 : (60 : Int32).toInt = 60 := (by decide); have l2 : (1 : Int32).toInt = 1 := (by decide); have s0 : (a1 + 1).toInt = a1.toInt + 1 := q_tA (by decide) (by omega) (by omega); omega
theorem zz_f53e323b98 {a1 a2 : Int32} (h0 : ¬ (a1 ≤ a2)) (h1 : 0 ≤ a2) (h2 : (0 ≤ a1) ∧ (a1 ≤ 60)) : a2 + 1 ≤ a1 := by simp only [Int32.le_iff_toInt_le, Int32.lt_iff_toInt_lt, ← Int32.toInt_inj, ne_eq] at *; have b0 := Int32.le_toInt a2; have c0 := Int32.toInt_lt a2; have l0 : (0 : Int32).toInt = 0 := (by decide); have l1 : (60 : Int32).toInt = 60 := (by decide); have l2 : (1 : Int32).toInt = 1 := (by decide); have s0 : (a2 + 1).toInt = a2.toInt + 1 := q_tA (by decide) (by omega) (by omega); omega
theorem zz_66adc92e5d {a1 : Int32} (h0 : 0 ≤ a1) (h1 : a1 ≤ 61) : 0 ≤ a1 + 1 := by simp only [Int32.le_iff_toInt_le, Int32.lt_iff_toInt_lt, ← Int32.toInt_inj, ne_eq] at *; have b0 := Int32.le_toInt a1; have c0 := Int32.toInt_lt a1; have l0 : (0 : Int32).toInt = 0 := (by decide); have l1 : (61 : Int32).toInt = 61 := (by decide); have l2 : (1 : Int32).toInt = 1 := (by decide); have s0 : (a1 + 1).toInt = a1.toInt + 1 := q_tA (by decide) (by omega) (by omega); omega
theorem zz_df7557f46e {a1 a2 : Int32} (h0 : ¬ (a1 ≤ a2)) (h1 : a1 ≤ 61) (h2 : 0 ≤ a2) (h3 : a2 ≤ 61) : a2 + 1 ≤ 61 := by simp only [Int32.le_iff_toInt_le, Int32.lt_iff_toInt_lt, ← Int32.toInt_inj, ne_eq] at *; have b0 := Int32.le_toInt a2; have c0 := Int32.toInt_lt a2; have l0 : (61 : Int32).toInt = 61 := (by decide); have l1 : (0 : Int32).toInt = 0 := (by decide); have l2 : (1 : Int32).toInt = 1 := (by decide); have s0 : (a2 + 1).toInt = a2.toInt + 1 := q_tA (by decide) (by omega) (by omega); omega
theorem zz_c56b706add {a1 a2 a3 : Int32} (h0 : a1 ≤ a2) (h1 : a3 ≤ a1 + 1) (h2 : -100000 ≤ a1) (h3 : a1 ≤ 100000) (h4 : 0 ≤ a2) (h5 : a2 ≤ 61) : a3 ≤ a2 + 1 := by simp only [Int32.le_iff_toInt_le, Int32.lt_iff_toInt_lt, ← Int32.toInt_inj, ne_eq] at *; have b0 := Int32.le_toInt a1; have c0 := Int32.toInt_lt a1; have b1 := Int32.le_toInt a2; have c1 := Int32.toInt_lt a2; have l0 : (1 : Int32).toInt = 1 := (by decide); have l1 : (-100000 : Int32).toInt = -100000 := (by decide); have l2 : (100000 : Int32).toInt = 100000 := (by decide); have l3 : (0 : Int32).toInt = 0 := (by decide); have l4 : (61 : Int32).toInt = 61 := (by decide); have s0 : (a1 + 1).toInt = a1.toInt + 1 := q_tA (by decide) (by omega) (by omega); have s1 : (a2 + 1).toInt = a2.toInt + 1 := q_tA (by decide) (by omega) (by omega); omega
theorem zz_4eee7d3f71 {a1 a2 a3 : Int32} (h0 : (a1 + 1 ≤ a2) ∧ (a2 ≤ a3)) (h1 : 0 ≤ a1) (h2 : (0 ≤ a3) ∧ (a3 ≤ 60)) (h3 : ¬ (a3 ≤ a1)) : (a1 ≤ a2) ∧ (a2 ≤ a3) := by simp only [Int32.le_iff_toInt_le, Int32.lt_iff_toInt_lt, ← Int32.toInt_inj, ne_eq] at *; have b0 := Int32.le_toInt a1; have c0 := Int32.toInt_lt a1; have l0 : (1 : Int32).toInt = 1 := (by decide); have l1 : (0 : Int32).toInt = 0 := (by decide); have l2 : (60 : Int32).toInt = 60 := (by decide); have s0 : (a1 + 1).toInt = a1.toInt + 1 := q_tA (by decide) (by omega) (by omega); omega
set_option maxHeartbeats 2000000 in
theorem p_Mod_way_269_n {L : q_L} {W : Nat → Prop} {h0 : z_H} {π : Nat → Nat → Option Nat} {N : Nat} {Q : Int32 × z_H → Prop} {k80 : Nat → Int32 → Int32 → Int32 → Int32 → Int32 → Int32 → z_H → Option (Int32 × z_H)} {lo : Nat → Int32} (hqn : q_Q lo 62) : ∀ (n : Nat) (v0 : Nat) (v1 : Int32) (v3 : Int32) (v4 : Int32) (v5 : Int32) (v6 : Int32) (v7 : Int32) (v10 : Int32) (v11 : Int32) (h : z_H), q_U L W h0 π h → q_M L π v0 → (∀ a, v0 ≤ a → a < v0 + 46 → W a) → (0 ≤ v5) → (v5 ≤ vI h v0 54) → (0 ≤ v7) → (v7 < 520) → (0 ≤ v11) → (v11 ≤ 61) → (v10 ≤ 61) → (100000 ≤ N) → (lo n ≤ v11) → (∀ (x : Int32) (z : Int32) (h1 : z_H), q_U L W h0 π h1 → (∀ a k, vI h1 a k = vI h a k) → (∀ a j, vA h1 a j = vA h a j) → (z = v7 + 1) → (v5 ≤ x ∧ x ≤ vI h v0 54) → (q_rst v0 h1 = q_rst v0 h) → qk (k80 v0 v1 v3 v4 x v6 z h1) Q) → (∀ (y : Int32) (h1 : z_H), q_U L W h0 π h1 → (y = -1) → (∀ a k, ¬ (a = v0 ∧ (k = 55)) → vI h1 a k = vI h a k) → (∀ a j, vA h1 a j = vA h a j) → (q_rst v0 h1 = q_rst v0 h) → Q (y, h1)) → qk (f_Mod_way_269 N k80 n v0 v1 v3 v4 v5 v6 v7 v10 v11 h) Q := by
  intro n
  induction n with
  | zero => intro v0 v1 v3 v4 v5 v6 v7 v10 v11 h T kv0 wM p0 p1 i0 i1 c0 cm n1 hN hms hk80 hret; have hz := hqn.1; exact absurd hms (by clear hk80 hret; grind)
  | succ n ih =>
    intro v0 v1 v3 v4 v5 v6 v7 v10 v11 h T kv0 wM p0 p1 i0 i1 c0 cm n1 hN hms hk80 hret
    obtain ⟨hq1, hq2, hq3⟩ := hqn.2 n
    rw [f_Mod_way_269]
    refine qk_if (fun cc1 => ?_) (fun cc1 => ?_)
    · skip
      refine qk_bs ?_
      exact hk80 v5 (v7 + 1) h T (by show ∀ a k, vI h a k = vI h a k; intro a k ; rfl) (by show ∀ a j, vA h a j = vA h a j; intro a j ; rfl) (zz_6ffb069c56 i0 i1) (zz_bb25b93de8 p1) (by show q_rst v0 h = q_rst v0 h; exact rfl)
    · skip
      refine r_Mo_54 T kv0 ?_
      intro x3 ex3 lx3 ux3
      subst ex3
      refine qk_if (fun cc2 => ?_) (fun cc2 => ?_)
      · skip
        unfold f_Mod_way_306
        refine qk_if (fun _ => ?_) (fun cc4 => absurd (by decide) cc4)
        refine r_Mo_34 T kv0 ?_
        refine r_Mo_e29 T kv0 i0 i1 ?_
        intro x5i3 ex5i3
        subst ex5i3
        refine qk_if (fun cc5 => ?_) (fun cc5 => ?_)
        · skip
          refine qk_some ?_
          exact hret (-1) h T (by decide) (by show ∀ a k, ¬ (a = v0 ∧ (k = 55)) → vI h a k = vI h a k; intro a k n0; rfl) (by show ∀ a j, vA h a j = vA h a j; intro a j ; rfl) (by show q_rst v0 h = q_rst v0 h; exact rfl)
        · skip
          refine w_Mo_55 T kv0 (wM _ (by omega) (by omega)) ?_
          intro h7i3 Th7i3 ih7i3 ah7i3 dh7i3
          refine qk_some ?_
          exact hret (-1) h7i3 Th7i3 (by decide) (by show ∀ a k, ¬ (a = v0 ∧ (k = 55)) → vI h7i3 a k = vI h a k; intro a k n0; rw [ih7i3, if_neg (by omega)]) (by show ∀ a j, vA h7i3 a j = vA h a j; intro a j ; rw [ah7i3]) (by show q_rst v0 h7i3 = q_rst v0 h; exact dh7i3)
      · skip
        refine r_Mo_51 T kv0 ?_
        have o6 := g_Mo_54 T kv0
        refine r_Mo_e36 T kv0 p0 (zz_62da3d8ed5 o6 cc2) ?_
        intro x6 ex6
        subst ex6
        refine r_Mo_o T kv0 ?_
        refine c_Mod_fits (v0 := v0) (v1 := v7) (v2 := (vA h (v0 + 36) v5)) T kv0 i0 i1 ?_
        intro yr8 gr8_0
        dsimp only
        refine qk_if (fun cc7 => ?_) (fun cc7 => ?_)
        · skip
          unfold f_Mod_way_306
          refine qk_if (fun _ => ?_) (fun cc9 => absurd (by decide) cc9)
          refine r_Mo_34 T kv0 ?_
          refine r_Mo_e29 T kv0 i0 i1 ?_
          intro x5i8 ex5i8
          subst ex5i8
          refine qk_if (fun cc10 => ?_) (fun cc10 => ?_)
          · skip
            refine qk_some ?_
            exact hret (-1) h T (by decide) (by show ∀ a k, ¬ (a = v0 ∧ (k = 55)) → vI h a k = vI h a k; intro a k n0; rfl) (by show ∀ a j, vA h a j = vA h a j; intro a j ; rfl) (by show q_rst v0 h = q_rst v0 h; exact rfl)
          · skip
            refine w_Mo_55 T kv0 (wM _ (by omega) (by omega)) ?_
            intro h7i8 Th7i8 ih7i8 ah7i8 dh7i8
            refine qk_some ?_
            exact hret (-1) h7i8 Th7i8 (by decide) (by show ∀ a k, ¬ (a = v0 ∧ (k = 55)) → vI h7i8 a k = vI h a k; intro a k n0; rw [ih7i8, if_neg (by omega)]) (by show ∀ a j, vA h7i8 a j = vA h a j; intro a j ; rw [ah7i8]) (by show q_rst v0 h7i8 = q_rst v0 h; exact dh7i8)
        · skip
          unfold f_Mod_way_306
          refine qk_if (fun cc12 => absurd cc12 (by decide)) (fun _ => ?_)
          refine qk_bs ?_
          refine qk_bs ?_
          refine ih (v0) (v1) (v3) (v4) ((v5 + 1)) (v6) (v7) (v10) ((v11 + 1)) h T kv0 wM (zz_72c88f69dc p0 o6 cc2) (zz_f53e323b98 cc2 p0 o6) i0 i1 (zz_66adc92e5d c0 cm) (zz_df7557f46e cc1 n1 c0 cm) n1 hN (zz_c56b706add hms hq1 hq2 hq3 c0 cm) ?_ ?_
          · intro x_w13 z_w13 h_w13 Tw13 gw13_0 gw13_1 gw13_2 gw13_3 gw13_4
            exact hk80 x_w13 z_w13 h_w13 Tw13 (by show ∀ a k, vI h_w13 a k = vI h a k; intro a k ; rw [gw13_0 a k]) (by show ∀ a j, vA h_w13 a j = vA h a j; intro a j ; rw [gw13_1 a j]) gw13_2 (zz_4eee7d3f71 gw13_3 p0 o6 cc2) (by show q_rst v0 h_w13 = q_rst v0 h; exact gw13_4)
          · intro y_w14 h_w14 Tw14 gw14_0 gw14_1 gw14_2 gw14_3
            exact hret y_w14 h_w14 Tw14 gw14_0 (by show ∀ a k, ¬ (a = v0 ∧ (k = 55)) → vI h_w14 a k = vI h a k; intro a k n0; rw [gw14_1 a k (by omega)]) (by show ∀ a j, vA h_w14 a j = vA h a j; intro a j ; rw [gw14_2 a j]) (by show q_rst v0 h_w14 = q_rst v0 h; exact gw14_3)
theorem p_Mod_way_269 {L : q_L} {W : Nat → Prop} {h0 : z_H} {π : Nat → Nat → Option Nat} {N : Nat} {Q : Int32 × z_H → Prop} {k80 : Nat → Int32 → Int32 → Int32 → Int32 → Int32 → Int32 → z_H → Option (Int32 × z_H)} {h : z_H} {v0 : Nat} {v1 : Int32} {v3 : Int32} {v4 : Int32} {v5 : Int32} {v6 : Int32} {v7 : Int32} {v10 : Int32} {v11 : Int32} (T : q_U L W h0 π h) (kv0 : q_M L π v0) (wM : ∀ a, v0 ≤ a → a < v0 + 46 → W a) (p0 : 0 ≤ v5) (p1 : v5 ≤ vI h v0 54) (i0 : 0 ≤ v7) (i1 : v7 < 520) (c0 : 0 ≤ v11) (cm : v11 ≤ 61) (n1 : v10 ≤ 61) (hN : 100000 ≤ N) (hk80 : (∀ (x : Int32) (z : Int32) (h1 : z_H), q_U L W h0 π h1 → (∀ a k, vI h1 a k = vI h a k) → (∀ a j, vA h1 a j = vA h a j) → (z = v7 + 1) → (v5 ≤ x ∧ x ≤ vI h v0 54) → (q_rst v0 h1 = q_rst v0 h) → qk (k80 v0 v1 v3 v4 x v6 z h1) Q)) (hret : (∀ (y : Int32) (h1 : z_H), q_U L W h0 π h1 → (y = -1) → (∀ a k, ¬ (a = v0 ∧ (k = 55)) → vI h1 a k = vI h a k) → (∀ a j, vA h1 a j = vA h a j) → (q_rst v0 h1 = q_rst v0 h) → Q (y, h1))) : qk (f_Mod_way_269 N k80 N v0 v1 v3 v4 v5 v6 v7 v10 v11 h) Q := by
  have hq := q_qnN hN
  refine p_Mod_way_269_n (q_lo (M := 62) (by decide) (by decide)) N v0 v1 v3 v4 v5 v6 v7 v10 v11 h T kv0 wM p0 p1 i0 i1 c0 cm n1 hN ?_ hk80 hret
  show 62 - q_n N ≤ _
  rw [hq]
  lia
