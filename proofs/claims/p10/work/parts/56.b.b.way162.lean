theorem zz_546e08c198 {a1 : Int32} (h0 : 1 ≤ a1) : 0 ≤ a1 := by simp only [Int32.le_iff_toInt_le, Int32.lt_iff_toInt_lt, ← Int32.toInt_inj, ne_eq] at *; have l0 : (1 : Int32).toInt = 1 := (by decide); have l1 : (0 : Int32).toInt = 0 := (by decide); omega
theorem zz_b82490cbfa {a1 : Int32} (h0 : a1 ≤ 3) : a1 < 4 := by simp only [Int32.le_iff_toInt_le, Int32.lt_iff_toInt_lt, ← Int32.toInt_inj, ne_eq] at *; have l0 : (3 : Int32).toInt = 3 := (by decide); have l1 : (4 : Int32).toInt = 4 := (by decide); omega
theorem zz_6ffb069c56 {a1 : Int32} (h0 : 0 ≤ a1) (h1 : a1 < 520) : a1 + 1 = a1 + 1 := by lia
theorem zz_57fc8332a0 {a1 a2 a3 a4 : Int32} (h0 : a1 ≤ a2) (h1 : a3 + a1 ≤ a4) (h2 : a2 ≤ a1) (h3 : 0 ≤ a1) (h4 : 0 ≤ a3) (h5 : (0 ≤ a4) ∧ (a4 ≤ 60)) (h6 : a3 ≤ a4) (h7 : a1 ≤ 60) (h8 : (-1 ≤ a2) ∧ (a2 ≤ 60)) : (a3 ≤ a3 + a2) ∧ (a3 + a2 ≤ a4) := by simp only [Int32.le_iff_toInt_le, Int32.lt_iff_toInt_lt, ← Int32.toInt_inj, ne_eq] at *; have b0 := Int32.le_toInt a3; have c0 := Int32.toInt_lt a3; have b1 := Int32.le_toInt a1; have c1 := Int32.toInt_lt a1; have b2 := Int32.le_toInt a2; have c2 := Int32.toInt_lt a2; have l0 : (0 : Int32).toInt = 0 := (by decide); have l1 : (60 : Int32).toInt = 60 := (by decide); have l2 : (-1 : Int32).toInt = -1 := (by decide); have s0 : (a3 + a1).toInt = a3.toInt + a1.toInt := q_tA rfl (by omega) (by omega); have s1 : (a3 + a2).toInt = a3.toInt + a2.toInt := q_tA rfl (by omega) (by omega); omega
theorem zz_3dee454698 {a1 a2 a3 a4 : Int32} (h0 : 0 ≤ a1) (h1 : 0 ≤ a2) (h2 : a1 ≤ a3) (h3 : (0 ≤ a3) ∧ (a3 ≤ 60)) (h4 : (-1 ≤ a4) ∧ (a4 ≤ 60)) (h5 : ¬ (a4 ≤ a2)) : 0 ≤ a1 + a2 := by simp only [Int32.le_iff_toInt_le, Int32.lt_iff_toInt_lt, ← Int32.toInt_inj, ne_eq] at *; have b0 := Int32.le_toInt a1; have c0 := Int32.toInt_lt a1; have b1 := Int32.le_toInt a2; have c1 := Int32.toInt_lt a2; have l0 : (0 : Int32).toInt = 0 := (by decide); have l1 : (60 : Int32).toInt = 60 := (by decide); have l2 : (-1 : Int32).toInt = -1 := (by decide); have s0 : (a1 + a2).toInt = a1.toInt + a2.toInt := q_tA rfl (by omega) (by omega); omega
theorem zz_1c4f315a41 {a1 a2 a3 a4 : Int32} (h0 : (0 ≤ a1) ∧ (a1 ≤ 60)) (h1 : ¬ (a1 ≤ a2 + a3)) (h2 : 0 ≤ a2) (h3 : a2 ≤ a1) (h4 : 0 ≤ a3) (h5 : (-1 ≤ a4) ∧ (a4 ≤ 60)) (h6 : ¬ (a4 ≤ a3)) : a2 + a3 < 64 := by simp only [Int32.le_iff_toInt_le, Int32.lt_iff_toInt_lt, ← Int32.toInt_inj, ne_eq] at *; have b0 := Int32.le_toInt a2; have c0 := Int32.toInt_lt a2; have b1 := Int32.le_toInt a3; have c1 := Int32.toInt_lt a3; have l0 : (0 : Int32).toInt = 0 := (by decide); have l1 : (60 : Int32).toInt = 60 := (by decide); have l2 : (-1 : Int32).toInt = -1 := (by decide); have l3 : (64 : Int32).toInt = 64 := (by decide); have s0 : (a2 + a3).toInt = a2.toInt + a3.toInt := q_tA rfl (by omega) (by omega); omega
theorem zz_1e0342208d {a1 a2 a3 : Int32} (h0 : 0 ≤ a1) (h1 : 0 ≤ a2) (h2 : (-1 ≤ a1) ∧ (a1 ≤ 60)) (h3 : (-1 ≤ a3) ∧ (a3 ≤ 60)) (h4 : ¬ (a3 ≤ a2)) : 0 ≤ a1 + a2 := by simp only [Int32.le_iff_toInt_le, Int32.lt_iff_toInt_lt, ← Int32.toInt_inj, ne_eq] at *; have b0 := Int32.le_toInt a1; have c0 := Int32.toInt_lt a1; have b1 := Int32.le_toInt a2; have c1 := Int32.toInt_lt a2; have l0 : (0 : Int32).toInt = 0 := (by decide); have l1 : (-1 : Int32).toInt = -1 := (by decide); have l2 : (60 : Int32).toInt = 60 := (by decide); have s0 : (a1 + a2).toInt = a1.toInt + a2.toInt := q_tA rfl (by omega) (by omega); omega
theorem zz_767e8387ad {a1 a2 a3 a4 a5 : Int32} (h0 : a1 ≤ a2) (h1 : (0 ≤ a3) ∧ (a3 ≤ 60)) (h2 : ¬ (a3 ≤ a2 + a4)) (h3 : 0 ≤ a2) (h4 : a2 ≤ a3) (h5 : 0 ≤ a4) (h6 : (-1 ≤ a5) ∧ (a5 ≤ 60)) (h7 : ¬ (a5 ≤ a4)) (h8 : (-1 ≤ a1) ∧ (a1 ≤ 60)) : a1 + a4 < 64 := by simp only [Int32.le_iff_toInt_le, Int32.lt_iff_toInt_lt, ← Int32.toInt_inj, ne_eq] at *; have b0 := Int32.le_toInt a2; have c0 := Int32.toInt_lt a2; have b1 := Int32.le_toInt a4; have c1 := Int32.toInt_lt a4; have b2 := Int32.le_toInt a1; have c2 := Int32.toInt_lt a1; have l0 : (0 : Int32).toInt = 0 := (by decide); have l1 : (60 : Int32).toInt = 60 := (by decide); have l2 : (-1 : Int32).toInt = -1 := (by decide); have l3 : (64 : Int32).toInt = 64 := (by decide); have s0 : (a2 + a4).toInt = a2.toInt + a4.toInt := q_tA rfl (by omega) (by omega); have s1 : (a1 + a4).toInt = a1.toInt + a4.toInt := q_tA rfl (by omega) (by omega); omega
theorem zz_8efa81966e {a1 a2 : Int32} (h0 : 0 ≤ a1) (h1 : (-1 ≤ a2) ∧ (a2 ≤ 60)) (h2 : ¬ (a2 ≤ a1)) : 0 ≤ a1 + 1 := by simp only [Int32.le_iff_toInt_le, Int32.lt_iff_toInt_lt, ← Int32.toInt_inj, ne_eq] at *; have b0 := Int32.le_toInt a1; have c0 := Int32.toInt_lt a1; have l0 : (0 : Int32).toInt = 0 := (by decide); have l1 : (-1 : Int32).toInt = -1 := (by decide); have l2 : (60 : Int32).toInt = 60 := (by decide); have l3 : (1 : Int32).toInt = 1 := (by decide); have s0 : (a1 + 1).toInt = a1.toInt + 1 := q_tA (by decide) (by omega) (by omega); omega
theorem zz_a0dc7f314a {a1 a2 : Int32} (h0 : ¬ (a1 ≤ a2)) (h1 : 0 ≤ a2) (h2 : (-1 ≤ a1) ∧ (a1 ≤ 60)) : a2 + 1 ≤ a1 := by simp only [Int32.le_iff_toInt_le, Int32.lt_iff_toInt_lt, ← Int32.toInt_inj, ne_eq] at *; have b0 := Int32.le_toInt a2; have c0 := Int32.toInt_lt a2; have l0 : (0 : Int32).toInt = 0 := (by decide); have l1 : (-1 : Int32).toInt = -1 := (by decide); have l2 : (60 : Int32).toInt = 60 := (by decide); have l3 : (1 : Int32).toInt = 1 := (by decide); have s0 : (a2 + 1).toInt = a2.toInt + 1 := q_tA (by decide) (by omega) (by omega); omega
theorem zz_25152a3ced {a1 a2 : Int32} (h0 : (-1 ≤ a1) ∧ (a1 ≤ 60)) (h1 : ¬ (a1 ≤ a2)) (h2 : 0 ≤ a2) : a2 + 1 ≤ 60 := by simp only [Int32.le_iff_toInt_le, Int32.lt_iff_toInt_lt, ← Int32.toInt_inj, ne_eq] at *; have b0 := Int32.le_toInt a2; have c0 := Int32.toInt_lt a2; have l0 : (-1 : Int32).toInt = -1 := (by decide); have l1 : (60 : Int32).toInt = 60 := (by decide); have l2 : (0 : Int32).toInt = 0 := (by decide); have l3 : (1 : Int32).toInt = 1 := (by decide); have s0 : (a2 + 1).toInt = a2.toInt + 1 := q_tA (by decide) (by omega) (by omega); omega
theorem zz_9d418e2576 {a1 a2 a3 a4 : Int32} (h0 : ¬ (a1 ≤ a2 + a3)) (h1 : 0 ≤ a2) (h2 : (0 ≤ a1) ∧ (a1 ≤ 60)) (h3 : a2 ≤ a1) (h4 : 0 ≤ a3) (h5 : (-1 ≤ a4) ∧ (a4 ≤ 60)) (h6 : ¬ (a4 ≤ a3)) : a2 + (a3 + 1) ≤ a1 := by simp only [Int32.le_iff_toInt_le, Int32.lt_iff_toInt_lt, ← Int32.toInt_inj, ne_eq] at *; have b0 := Int32.le_toInt a2; have c0 := Int32.toInt_lt a2; have b1 := Int32.le_toInt a3; have c1 := Int32.toInt_lt a3; have l0 : (0 : Int32).toInt = 0 := (by decide); have l1 : (60 : Int32).toInt = 60 := (by decide); have l2 : (-1 : Int32).toInt = -1 := (by decide); have l3 : (1 : Int32).toInt = 1 := (by decide); have s0 : (a2 + a3).toInt = a2.toInt + a3.toInt := q_tA rfl (by omega) (by omega); have s1 : (a3 + 1).toInt = a3.toInt + 1 := q_tA (by decide) (by omega) (by omega); have s2 : (a2 + (a3 + 1)).toInt = a2.toInt + (a3 + 1).toInt := q_tA rfl (by omega) (by omega); omega
theorem zz_9229900727 {a1 a2 a3 a4 : Int32} (h0 : a1 ≤ a2) (h1 : a3 ≤ a1 + 1) (h2 : -100000 ≤ a1) (h3 : (-1 ≤ a4) ∧ (a4 ≤ 60)) (h4 : ¬ (a4 ≤ a2)) (h5 : 0 ≤ a2) : a3 ≤ a2 + 1 := by simp only [Int32.le_iff_toInt_le, Int32.lt_iff_toInt_lt, ← Int32.toInt_inj, ne_eq] at *; have b0 := Int32.le_toInt a1; have c0 := Int32.toInt_lt a1; have b1 := Int32.le_toInt a2; have c1 := Int32.toInt_lt a2; have l0 : (1 : Int32).toInt = 1 := (by decide); have l1 : (-100000 : Int32).toInt = -100000 := (by decide); have l2 : (-1 : Int32).toInt = -1 := (by decide); have l3 : (60 : Int32).toInt = 60 := (by decide); have l4 : (0 : Int32).toInt = 0 := (by decide); have s0 : (a1 + 1).toInt = a1.toInt + 1 := q_tA (by decide) (by omega) (by omega); have s1 : (a2 + 1).toInt = a2.toInt + 1 := q_tA (by decide) (by omega) (by omega); omega
theorem zz_750b0a3460 {a1 a2 a3 : Int32} (h0 : (a1 ≤ a2) ∧ (a2 ≤ a3)) : (a1 ≤ a2) ∧ (a2 ≤ a3) := by simp only [Int32.le_iff_toInt_le, Int32.lt_iff_toInt_lt, ← Int32.toInt_inj, ne_eq] at *; omega
set_option maxHeartbeats 2000000 in
theorem p_Mod_way_162_n {L : q_L} {W : Nat → Prop} {h0 : z_H} {π : Nat → Nat → Option Nat} {N : Nat} {Q : Int32 × z_H → Prop} {k80 : Nat → Int32 → Int32 → Int32 → Int32 → Int32 → Int32 → z_H → Option (Int32 × z_H)} {lo : Nat → Int32} (hqn : q_Q lo 61) : ∀ (n : Nat) (v0 : Nat) (v1 : Int32) (v3 : Int32) (v4 : Int32) (v5 : Int32) (v6 : Int32) (v7 : Int32) (v9 : Int32) (v10 : Int32) (h : z_H), q_U L W h0 π h → q_M L π v0 → (∀ a, v0 ≤ a → a < v0 + 46 → W a) → (0 ≤ v5) → (v5 ≤ vI h v0 54) → (0 ≤ v7) → (v7 < 520) → (1 ≤ v9) → (v9 ≤ 3) → (0 ≤ vA h (v0 + 37) v9) → (vA h (v0 + 37) v9 ≤ v5) → (0 ≤ v10) → (v10 ≤ vA h (v0 + 38) v9) → (v10 ≤ 60) → (v5 + v10 ≤ vI h v0 54) → (100000 ≤ N) → (lo n ≤ v10) → (∀ (x : Int32) (z : Int32) (h1 : z_H), q_U L W h0 π h1 → (∀ a k, vI h1 a k = vI h a k) → (∀ a j, vA h1 a j = vA h a j) → (z = v7 + 1) → (v5 ≤ x ∧ x ≤ vI h v0 54) → (q_rst v0 h1 = q_rst v0 h) → qk (k80 v0 v1 v3 v4 x v6 z h1) Q) → (∀ (y : Int32) (h1 : z_H), q_U L W h0 π h1 → (y = -1) → (∀ a k, vI h1 a k = vI h a k) → (∀ a j, vA h1 a j = vA h a j) → (q_rst v0 h1 = q_rst v0 h) → Q (y, h1)) → qk (f_Mod_way_162 N k80 n v0 v1 v3 v4 v5 v6 v7 v9 v10 h) Q := by
  intro n
  induction n with
  | zero => intro v0 v1 v3 v4 v5 v6 v7 v9 v10 h T kv0 wM p0 p1 i0 i1 g0 g1 gf0 gf1 c0 c1 cm c2 hN hms hk80 hret; have hz := hqn.1; exact absurd hms (by clear hk80 hret; grind)
  | succ n ih =>
    intro v0 v1 v3 v4 v5 v6 v7 v9 v10 h T kv0 wM p0 p1 i0 i1 g0 g1 gf0 gf1 c0 c1 cm c2 hN hms hk80 hret
    obtain ⟨hq1, hq2, hq3⟩ := hqn.2 n
    rw [f_Mod_way_162]
    refine r_Mo_53 T kv0 ?_
    refine r_Mo_e38 T kv0 (zz_546e08c198 g0) (zz_b82490cbfa g1) ?_
    intro x2 ex2 lx2 ux2
    subst ex2
    refine qk_if (fun cc1 => ?_) (fun cc1 => ?_)
    · skip
      refine r_Mo_53 T kv0 ?_
      refine r_Mo_e38 T kv0 (zz_546e08c198 g0) (zz_b82490cbfa g1) ?_
      intro x5 ex5 lx5 ux5
      subst ex5
      refine qk_bs ?_
      refine qk_bs ?_
      have o2 := g_Mo_54 T kv0
      have o3 := g_Mo_e38 T kv0 v9
      exact hk80 (v5 + (vA h (v0 + 38) v9)) (v7 + 1) h T (by show ∀ a k, vI h a k = vI h a k; intro a k ; rfl) (by show ∀ a j, vA h a j = vA h a j; intro a j ; rfl) (zz_6ffb069c56 i0 i1) (zz_57fc8332a0 c1 c2 cc1 c0 p0 o2 p1 cm o3) (by show q_rst v0 h = q_rst v0 h; exact rfl)
    · skip
      refine r_Mo_54 T kv0 ?_
      intro x8 ex8 lx8 ux8
      subst ex8
      refine qk_if (fun cc4 => ?_) (fun cc4 => ?_)
      · skip
        refine qk_some ?_
        exact hret (-1) h T (by decide) (by show ∀ a k, vI h a k = vI h a k; intro a k ; rfl) (by show ∀ a j, vA h a j = vA h a j; intro a j ; rfl) (by show q_rst v0 h = q_rst v0 h; exact rfl)
      · skip
        refine r_Mo_51 T kv0 ?_
        have o5 := g_Mo_54 T kv0
        have o6 := g_Mo_e38 T kv0 v9
        refine r_Mo_e36 T kv0 (zz_3dee454698 p0 c0 p1 o5 o6 cc1) (zz_1c4f315a41 o5 cc4 p0 p1 c0 o6 cc1) ?_
        intro x11 ex11
        subst ex11
        refine r_Mo_51 T kv0 ?_
        refine r_Mo_52 T kv0 ?_
        refine r_Mo_e37 T kv0 (zz_546e08c198 g0) (zz_b82490cbfa g1) ?_
        intro x14 ex14 lx14 ux14
        subst ex14
        have o7 := g_Mo_e37 T kv0 v9
        refine r_Mo_e36 T kv0 (zz_1e0342208d gf0 c0 o7 o6 cc1) (zz_767e8387ad gf1 o5 cc4 p0 p1 c0 o6 cc1 o7) ?_
        intro x15 ex15
        subst ex15
        refine qk_if (fun cc8 => ?_) (fun cc8 => ?_)
        · skip
          refine qk_bs ?_
          refine ih (v0) (v1) (v3) (v4) (v5) (v6) (v7) (v9) ((v10 + 1)) h T kv0 wM p0 p1 i0 i1 g0 g1 gf0 gf1 (zz_8efa81966e c0 o6 cc1) (zz_a0dc7f314a cc1 c0 o6) (zz_25152a3ced o6 cc1 c0) (zz_9d418e2576 cc4 p0 o5 p1 c0 o6 cc1) hN (zz_9229900727 hms hq1 hq2 o6 cc1 c0) ?_ ?_
          · intro x_w9 z_w9 h_w9 Tw9 gw9_0 gw9_1 gw9_2 gw9_3 gw9_4
            exact hk80 x_w9 z_w9 h_w9 Tw9 (by show ∀ a k, vI h_w9 a k = vI h a k; intro a k ; rw [gw9_0 a k]) (by show ∀ a j, vA h_w9 a j = vA h a j; intro a j ; rw [gw9_1 a j]) gw9_2 (zz_750b0a3460 gw9_3) (by show q_rst v0 h_w9 = q_rst v0 h; exact gw9_4)
          · intro y_w10 h_w10 Tw10 gw10_0 gw10_1 gw10_2 gw10_3
            exact hret y_w10 h_w10 Tw10 gw10_0 (by show ∀ a k, vI h_w10 a k = vI h a k; intro a k ; rw [gw10_1 a k]) (by show ∀ a j, vA h_w10 a j = vA h a j; intro a j ; rw [gw10_2 a j]) (by show q_rst v0 h_w10 = q_rst v0 h; exact gw10_3)
        · skip
          refine qk_some ?_
          exact hret (-1) h T (by decide) (by show ∀ a k, vI h a k = vI h a k; intro a k ; rfl) (by show ∀ a j, vA h a j = vA h a j; intro a j ; rfl) (by show q_rst v0 h = q_rst v0 h; exact rfl)
theorem p_Mod_way_162 {L : q_L} {W : Nat → Prop} {h0 : z_H} {π : Nat → Nat → Option Nat} {N : Nat} {Q : Int32 × z_H → Prop} {k80 : Nat → Int32 → Int32 → Int32 → Int32 → Int32 → Int32 → z_H → Option (Int32 × z_H)} {h : z_H} {v0 : Nat} {v1 : Int32} {v3 : Int32} {v4 : Int32} {v5 : Int32} {v6 : Int32} {v7 : Int32} {v9 : Int32} {v10 : Int32} (T : q_U L W h0 π h) (kv0 : q_M L π v0) (wM : ∀ a, v0 ≤ a → a < v0 + 46 → W a) (p0 : 0 ≤ v5) (p1 : v5 ≤ vI h v0 54) (i0 : 0 ≤ v7) (i1 : v7 < 520) (g0 : 1 ≤ v9) (g1 : v9 ≤ 3) (gf0 : 0 ≤ vA h (v0 + 37) v9) (gf1 : vA h (v0 + 37) v9 ≤ v5) (c0 : 0 ≤ v10) (c1 : v10 ≤ vA h (v0 + 38) v9) (cm : v10 ≤ 60) (c2 : v5 + v10 ≤ vI h v0 54) (hN : 100000 ≤ N) (hk80 : (∀ (x : Int32) (z : Int32) (h1 : z_H), q_U L W h0 π h1 → (∀ a k, vI h1 a k = vI h a k) → (∀ a j, vA h1 a j = vA h a j) → (z = v7 + 1) → (v5 ≤ x ∧ x ≤ vI h v0 54) → (q_rst v0 h1 = q_rst v0 h) → qk (k80 v0 v1 v3 v4 x v6 z h1) Q)) (hret : (∀ (y : Int32) (h1 : z_H), q_U L W h0 π h1 → (y = -1) → (∀ a k, vI h1 a k = vI h a k) → (∀ a j, vA h1 a j = vA h a j) → (q_rst v0 h1 = q_rst v0 h) → Q (y, h1))) : qk (f_Mod_way_162 N k80 N v0 v1 v3 v4 v5 v6 v7 v9 v10 h) Q := by
  have hq := q_qnN hN
  refine p_Mod_way_162_n (q_lo (M := 61) (by decide) (by decide)) N v0 v1 v3 v4 v5 v6 v7 v9 v10 h T kv0 wM p0 p1 i0 i1 g0 g1 gf0 gf1 c0 c1 cm c2 hN ?_ hk80 hret
  show 61 - q_n N ≤ _
  rw [hq]
  lia
