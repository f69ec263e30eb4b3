theorem zz_b48aad4b4b {a1 : Int32} (h0 : 0 ≤ a1) (h1 : a1 ≤ 60) : a1 + 1 = a1 + 1 := by lia
theorem zz_b8e25cf4e7 {a1 a2 : Int32} (h0 : (a1 ≤ 61) ∧ (a2 ≤ 61)) : (a1 ≤ 61) ∧ (a2 ≤ 61) := by simp only [Int32.le_iff_toInt_le, Int32.lt_iff_toInt_lt, ← Int32.toInt_inj, ne_eq] at *; have l0 : (61 : Int32).toInt = 61 := (by decide); omega
theorem zz_d80ad86b4b {a1 : Int32} (h0 : a1 ≤ 60) : a1 ≤ 61 := by simp only [Int32.le_iff_toInt_le, Int32.lt_iff_toInt_lt, ← Int32.toInt_inj, ne_eq] at *; have l0 : (60 : Int32).toInt = 60 := (by decide); have l1 : (61 : Int32).toInt = 61 := (by decide); omega
theorem zz_517f455e9a {a1 a2 a3 a4 : Int32} (h0 : a1 = a2) (h1 : (a3 = -1) ∨ ((a4 ≤ a3) ∧ (a3 ≤ a2))) : (a3 = -1) ∨ ((a4 ≤ a3) ∧ (a3 ≤ a1)) := by simp only [Int32.le_iff_toInt_le, Int32.lt_iff_toInt_lt, ← Int32.toInt_inj, ne_eq] at *; have l0 : (-1 : Int32).toInt = -1 := (by decide); omega
theorem zz_44f3b58424 {a1 : Int32} (h0 : 0 ≤ a1) (h1 : ¬ (0 < a1)) : 0 ≤ a1 + 1 := by simp only [Int32.le_iff_toInt_le, Int32.lt_iff_toInt_lt, ← Int32.toInt_inj, ne_eq] at *; have b0 := Int32.le_toInt a1; have c0 := Int32.toInt_lt a1; have l0 : (0 : Int32).toInt = 0 := (by decide); have l1 : (1 : Int32).toInt = 1 := (by decide); have s0 : (a1 + 1).toInt = a1.toInt + 1 := q_tA (by decide) (by omega) (by omega); omega
theorem zz_a22fe56dce {a1 : Int32} (h0 : ¬ (0 < a1)) (h1 : 0 ≤ a1) : a1 + 1 ≤ 61 := by simp only [Int32.le_iff_toInt_le, Int32.lt_iff_toInt_lt, ← Int32.toInt_inj, ne_eq] at *; have b0 := Int32.le_toInt a1; have c0 := Int32.toInt_lt a1; have l0 : (0 : Int32).toInt = 0 := (by decide); have l1 : (1 : Int32).toInt = 1 := (by decide); have l2 : (61 : Int32).toInt = 61 := (by decide); have s0 : (a1 + 1).toInt = a1.toInt + 1 := q_tA (by decide) (by omega) (by omega); omega
theorem zz_959713af35 {a1 a2 a3 : Int32} (h0 : a1 ≤ a2) (h1 : a3 ≤ a1 + 1) (h2 : -100000 ≤ a1) (h3 : ¬ (0 < a2)) (h4 : 0 ≤ a2) : a3 ≤ a2 + 1 := by simp only [Int32.le_iff_toInt_le, Int32.lt_iff_toInt_lt, ← Int32.toInt_inj, ne_eq] at *; have b0 := Int32.le_toInt a1; have c0 := Int32.toInt_lt a1; have b1 := Int32.le_toInt a2; have c1 := Int32.toInt_lt a2; have l0 : (1 : Int32).toInt = 1 := (by decide); have l1 : (-100000 : Int32).toInt = -100000 := (by decide); have l2 : (0 : Int32).toInt = 0 := (by decide); have s0 : (a1 + 1).toInt = a1.toInt + 1 := q_tA (by decide) (by omega) (by omega); have s1 : (a2 + 1).toInt = a2.toInt + 1 := q_tA (by decide) (by omega) (by omega); omega
theorem zz_a9bee6f25e {a1 a2 : Int32} (h0 : a1 ≤ 60) (h1 : ¬ (0 < a2)) : (a1 ≤ 61) ∧ (a2 ≤ 61) := by simp only [Int32.le_iff_toInt_le, Int32.lt_iff_toInt_lt, ← Int32.toInt_inj, ne_eq] at *; have l0 : (60 : Int32).toInt = 60 := (by decide); have l1 : (0 : Int32).toInt = 0 := (by decide); have l2 : (61 : Int32).toInt = 61 := (by decide); omega
theorem zz_7f760ead83 {a1 a2 : Int32} (h0 : ¬ (a1 < a2)) (h1 : (0 ≤ a1) ∧ (a1 ≤ 60)) (h2 : 0 ≤ a2) (h3 : a2 ≤ 61) : a2 + 1 ≤ 61 := by simp only [Int32.le_iff_toInt_le, Int32.lt_iff_toInt_lt, ← Int32.toInt_inj, ne_eq] at *; have b0 := Int32.le_toInt a2; have c0 := Int32.toInt_lt a2; have l0 : (0 : Int32).toInt = 0 := (by decide); have l1 : (60 : Int32).toInt = 60 := (by decide); have l2 : (61 : Int32).toInt = 61 := (by decide); have l3 : (1 : Int32).toInt = 1 := (by decide); have s0 : (a2 + 1).toInt = a2.toInt + 1 := q_tA (by decide) (by omega) (by omega); omega
theorem zz_f872df5fc7 {a1 a2 : Int32} (h0 : a1 ≤ 60) (h1 : a2 ≤ 61) : (a1 ≤ 61) ∧ (a2 ≤ 61) := by simp only [Int32.le_iff_toInt_le, Int32.lt_iff_toInt_lt, ← Int32.toInt_inj, ne_eq] at *; have l0 : (60 : Int32).toInt = 60 := (by decide); have l1 : (61 : Int32).toInt = 61 := (by decide); omega
set_option maxHeartbeats 2000000 in
theorem p_Mod_find_61_n {L : q_L} {W : Nat → Prop} {h0 : z_H} {π : Nat → Nat → Option Nat} {N : Nat} {Q : Int32 × z_H → Prop} {k9 : Nat → Int32 → Int32 → Int32 → z_H → Option (Int32 × z_H)} {k33 : Nat → Int32 → Int32 → Int32 → Int32 → Int32 → Int32 → Int32 → Int32 → z_H → Option (Int32 × z_H)} {lo : Nat → Int32} (hqn : q_Q lo 62) : ∀ (n : Nat) (v0 : Nat) (v1 : Int32) (v3 : Int32) (v4 : Int32) (v5 : Int32) (v6 : Int32) (v7 : Int32) (v8 : Int32) (v9 : Int32) (v10 : Int32) (v11 : Int32) (h : z_H), q_U L W h0 π h → q_M L π v0 → (∀ a, v0 ≤ a → a < v0 + 46 → W a) → (q_PM h v0 v1) → (0 ≤ v1) → (v1 < 260) → (0 ≤ v4) → (v4 ≤ vI h v0 54) → (v5 = -1 ∨ (v4 ≤ v5 ∧ v5 ≤ vI h v0 54)) → (v6 ≤ 61 ∧ v7 ≤ 61) → (0 ≤ v5 → q_WY N v0 v1 v4 v6 v7 h v5) → (0 ≤ v9) → (v9 ≤ 60) → (0 ≤ v11) → (v11 ≤ 61) → (100000 ≤ N) → (lo n ≤ v11) → (∀ (x5 : Int32) (x6 : Int32) (x7 : Int32) (x8 : Int32) (x9 : Int32) (h1 : z_H), q_U L W h0 π h1 → (∀ a k, ¬ (a = v0 ∧ (k = 55)) → vI h1 a k = vI h a k) → (∀ a j, 0 ≤ j → ¬ (a = v0 + 37 ∨ a = v0 + 38) → vA h1 a j = vA h a j) → (q_rst v0 h1 = q_rst v0 h) → (x9 = v9 + 1) → (x5 = -1 ∨ (v4 ≤ x5 ∧ x5 ≤ vI h v0 54)) → (x6 ≤ 61 ∧ x7 ≤ 61) → (0 ≤ x5 → q_WY N v0 v1 v4 x6 x7 h1 x5) → qk (k33 v0 v1 v3 v4 x5 x6 x7 x8 x9 h1) Q) → qk (f_Mod_find_61 N k9 k33 n v0 v1 v3 v4 v5 v6 v7 v8 v9 v10 v11 h) Q := by
  intro n
  induction n with
  | zero => intro v0 v1 v3 v4 v5 v6 v7 v8 v9 v10 v11 h T kv0 wM PM q0 q1 s0 s1 BB kb BW c0 c1 d0 d1 hN hms hk33; have hz := hqn.1; exact absurd hms (by clear hk33; grind)
  | succ n ih =>
    intro v0 v1 v3 v4 v5 v6 v7 v8 v9 v10 v11 h T kv0 wM PM q0 q1 s0 s1 BB kb BW c0 c1 d0 d1 hN hms hk33
    obtain ⟨hq1, hq2, hq3⟩ := hqn.2 n
    rw [f_Mod_find_61]
    refine qk_if (fun cc1 => ?_) (fun cc1 => ?_)
    · skip
      unfold f_Mod_find_76
      refine qk_if (fun cc3 => ?_) (fun cc3 => ?_)
      · skip
        refine qk_bs ?_
        exact hk33 v5 v6 v7 v8 (v9 + 1) h T (by show ∀ a k, ¬ (a = v0 ∧ (k = 55)) → vI h a k = vI h a k; intro a k n0; rfl) (by show ∀ a j, 0 ≤ j → ¬ (a = v0 + 37 ∨ a = v0 + 38) → vA h a j = vA h a j; intro a j j0 n0; rfl) (by show q_rst v0 h = q_rst v0 h; exact rfl) (zz_b48aad4b4b c0 c1) (zz_ec74f043d4 BB) (zz_b8e25cf4e7 kb) (by show 0 ≤ v5 → q_WY N v0 v1 v4 v6 v7 h v5; exact BW)
      · skip
        refine qk_if (fun cc4 => ?_) (fun cc4 => ?_)
        · skip
          refine qk_bs ?_
          exact hk33 v5 v6 v7 v8 (v9 + 1) h T (by show ∀ a k, ¬ (a = v0 ∧ (k = 55)) → vI h a k = vI h a k; intro a k n0; rfl) (by show ∀ a j, 0 ≤ j → ¬ (a = v0 + 37 ∨ a = v0 + 38) → vA h a j = vA h a j; intro a j j0 n0; rfl) (by show q_rst v0 h = q_rst v0 h; exact rfl) (zz_b48aad4b4b c0 c1) (zz_ec74f043d4 BB) (zz_b8e25cf4e7 kb) (by show 0 ≤ v5 → q_WY N v0 v1 v4 v6 v7 h v5; exact BW)
        · skip
          refine r_Mo_o T kv0 ?_
          refine c_Mod_way2 (v0 := v0) (v1 := v1) (v2 := v4) (v3 := v9) (v4 := v11) T kv0 wM (by exact PM) q0 q1 s0 s1 (zz_d80ad86b4b c1) d1 hN ?_
          intro yr6i2 hr6i2 Tr6i2 gr6i2_0 gr6i2_1 gr6i2_2 gr6i2_3 gr6i2_4 gr6i2_5
          dsimp only
          refine qk_bs ?_
          refine qk_if (fun cc5 => ?_) (fun cc5 => ?_)
          · skip
            unfold f_Mod_find_121
            refine r_Mo_55 Tr6i2 kv0 ?_
            intro x1i6 ex1i6
            subst ex1i6
            refine qk_if (fun cc7 => ?_) (fun cc7 => ?_)
            · skip
              unfold f_Mod_find_131
              refine r_Mo_55 Tr6i2 kv0 ?_
              intro x1i8 ex1i8
              subst ex1i8
              refine qk_if (fun cc9 => ?_) (fun cc9 => ?_)
              · skip
                refine qk_bs ?_
                have o10 : vI hr6i2 v0 54 = vI h v0 54 := (by rw [gr6i2_1 v0 54 (by omega)])
                refine ih (v0) (v1) (v3) (v4) (v5) (v6) (v7) (0) (v9) (v10) ((v11 + 1)) hr6i2 Tr6i2 kv0 wM (by exact (q_PM_eq2 PM (by rw [gr6i2_2 (v0 + 23) v1 q0 (by omega)]) (by rw [gr6i2_2 (v0 + 24) v1 q0 (by omega)]) (fun j ja _ => (by have j0 := Int32.le_trans PM.1 ja; exact ⟨(by rw [gr6i2_2 (v0 + 26) j j0 (by omega)]), (by rw [gr6i2_2 (v0 + 27) j j0 (by omega)])⟩)))) q0 q1 s0 (zz_c508abc292 o10 s1) (zz_517f455e9a o10 BB) (zz_b8e25cf4e7 kb) (by exact fun c => q_WY_rst hN T Tr6i2 kv0 wM (gr6i2_3) (BW c)) c0 c1 (zz_44f3b58424 d0 cc3) (zz_a22fe56dce cc3 d0) hN (zz_959713af35 hms hq1 hq2 cc3 d0) ?_
                · intro x5_w11 x6_w11 x7_w11 x8_w11 x9_w11 h_w11 Tw11 gw11_0 gw11_1 gw11_2 gw11_3 gw11_4 gw11_5 gw11_6
                  exact hk33 x5_w11 x6_w11 x7_w11 x8_w11 x9_w11 h_w11 Tw11 (by show ∀ a k, ¬ (a = v0 ∧ (k = 55)) → vI h_w11 a k = vI h a k; intro a k n0; rw [gw11_0 a k (by omega), gr6i2_1 a k (by omega)]) (by show ∀ a j, 0 ≤ j → ¬ (a = v0 + 37 ∨ a = v0 + 38) → vA h_w11 a j = vA h a j; intro a j j0 n0; rw [gw11_1 a j j0 (by omega), gr6i2_2 a j j0 (by omega)]) (by show q_rst v0 h_w11 = q_rst v0 h; exact (gw11_2).trans (gr6i2_3)) gw11_3 (zz_87647c7f75 gw11_4 o10) (zz_b8e25cf4e7 gw11_5) (by show 0 ≤ x5_w11 → q_WY N v0 v1 v4 x6_w11 x7_w11 h_w11 x5_w11; exact gw11_6)
              · skip
                refine qk_bs ?_
                have o12 : vI hr6i2 v0 54 = vI h v0 54 := (by rw [gr6i2_1 v0 54 (by omega)])
                refine ih (v0) (v1) (v3) (v4) (v5) (v6) (v7) (v8) (v9) (v10) ((v11 + 1)) hr6i2 Tr6i2 kv0 wM (by exact (q_PM_eq2 PM (by rw [gr6i2_2 (v0 + 23) v1 q0 (by omega)]) (by rw [gr6i2_2 (v0 + 24) v1 q0 (by omega)]) (fun j ja _ => (by have j0 := Int32.le_trans PM.1 ja; exact ⟨(by rw [gr6i2_2 (v0 + 26) j j0 (by omega)]), (by rw [gr6i2_2 (v0 + 27) j j0 (by omega)])⟩)))) q0 q1 s0 (zz_c508abc292 o12 s1) (zz_517f455e9a o12 BB) (zz_b8e25cf4e7 kb) (by exact fun c => q_WY_rst hN T Tr6i2 kv0 wM (gr6i2_3) (BW c)) c0 c1 (zz_44f3b58424 d0 cc3) (zz_a22fe56dce cc3 d0) hN (zz_959713af35 hms hq1 hq2 cc3 d0) ?_
                · intro x5_w13 x6_w13 x7_w13 x8_w13 x9_w13 h_w13 Tw13 gw13_0 gw13_1 gw13_2 gw13_3 gw13_4 gw13_5 gw13_6
                  exact hk33 x5_w13 x6_w13 x7_w13 x8_w13 x9_w13 h_w13 Tw13 (by show ∀ a k, ¬ (a = v0 ∧ (k = 55)) → vI h_w13 a k = vI h a k; intro a k n0; rw [gw13_0 a k (by omega), gr6i2_1 a k (by omega)]) (by show ∀ a j, 0 ≤ j → ¬ (a = v0 + 37 ∨ a = v0 + 38) → vA h_w13 a j = vA h a j; intro a j j0 n0; rw [gw13_1 a j j0 (by omega), gr6i2_2 a j j0 (by omega)]) (by show q_rst v0 h_w13 = q_rst v0 h; exact (gw13_2).trans (gr6i2_3)) gw13_3 (zz_87647c7f75 gw13_4 o12) (zz_b8e25cf4e7 gw13_5) (by show 0 ≤ x5_w13 → q_WY N v0 v1 v4 x6_w13 x7_w13 h_w13 x5_w13; exact gw13_6)
            · skip
              unfold f_Mod_find_131
              refine r_Mo_55 Tr6i2 kv0 ?_
              intro x1i14 ex1i14
              subst ex1i14
              refine qk_if (fun cc15 => ?_) (fun cc15 => ?_)
              · skip
                refine qk_bs ?_
                have o16 : vI hr6i2 v0 54 = vI h v0 54 := (by rw [gr6i2_1 v0 54 (by omega)])
                refine ih (v0) (v1) (v3) (v4) (v5) (v6) (v7) (0) (v9) (0) ((v11 + 1)) hr6i2 Tr6i2 kv0 wM (by exact (q_PM_eq2 PM (by rw [gr6i2_2 (v0 + 23) v1 q0 (by omega)]) (by rw [gr6i2_2 (v0 + 24) v1 q0 (by omega)]) (fun j ja _ => (by have j0 := Int32.le_trans PM.1 ja; exact ⟨(by rw [gr6i2_2 (v0 + 26) j j0 (by omega)]), (by rw [gr6i2_2 (v0 + 27) j j0 (by omega)])⟩)))) q0 q1 s0 (zz_c508abc292 o16 s1) (zz_517f455e9a o16 BB) (zz_b8e25cf4e7 kb) (by exact fun c => q_WY_rst hN T Tr6i2 kv0 wM (gr6i2_3) (BW c)) c0 c1 (zz_44f3b58424 d0 cc3) (zz_a22fe56dce cc3 d0) hN (zz_959713af35 hms hq1 hq2 cc3 d0) ?_
                · intro x5_w17 x6_w17 x7_w17 x8_w17 x9_w17 h_w17 Tw17 gw17_0 gw17_1 gw17_2 gw17_3 gw17_4 gw17_5 gw17_6
                  exact hk33 x5_w17 x6_w17 x7_w17 x8_w17 x9_w17 h_w17 Tw17 (by show ∀ a k, ¬ (a = v0 ∧ (k = 55)) → vI h_w17 a k = vI h a k; intro a k n0; rw [gw17_0 a k (by omega), gr6i2_1 a k (by omega)]) (by show ∀ a j, 0 ≤ j → ¬ (a = v0 + 37 ∨ a = v0 + 38) → vA h_w17 a j = vA h a j; intro a j j0 n0; rw [gw17_1 a j j0 (by omega), gr6i2_2 a j j0 (by omega)]) (by show q_rst v0 h_w17 = q_rst v0 h; exact (gw17_2).trans (gr6i2_3)) gw17_3 (zz_87647c7f75 gw17_4 o16) (zz_b8e25cf4e7 gw17_5) (by show 0 ≤ x5_w17 → q_WY N v0 v1 v4 x6_w17 x7_w17 h_w17 x5_w17; exact gw17_6)
              · skip
                refine qk_bs ?_
                have o18 : vI hr6i2 v0 54 = vI h v0 54 := (by rw [gr6i2_1 v0 54 (by omega)])
                refine ih (v0) (v1) (v3) (v4) (v5) (v6) (v7) (v8) (v9) (0) ((v11 + 1)) hr6i2 Tr6i2 kv0 wM (by exact (q_PM_eq2 PM (by rw [gr6i2_2 (v0 + 23) v1 q0 (by omega)]) (by rw [gr6i2_2 (v0 + 24) v1 q0 (by omega)]) (fun j ja _ => (by have j0 := Int32.le_trans PM.1 ja; exact ⟨(by rw [gr6i2_2 (v0 + 26) j j0 (by omega)]), (by rw [gr6i2_2 (v0 + 27) j j0 (by omega)])⟩)))) q0 q1 s0 (zz_c508abc292 o18 s1) (zz_517f455e9a o18 BB) (zz_b8e25cf4e7 kb) (by exact fun c => q_WY_rst hN T Tr6i2 kv0 wM (gr6i2_3) (BW c)) c0 c1 (zz_44f3b58424 d0 cc3) (zz_a22fe56dce cc3 d0) hN (zz_959713af35 hms hq1 hq2 cc3 d0) ?_
                · intro x5_w19 x6_w19 x7_w19 x8_w19 x9_w19 h_w19 Tw19 gw19_0 gw19_1 gw19_2 gw19_3 gw19_4 gw19_5 gw19_6
                  exact hk33 x5_w19 x6_w19 x7_w19 x8_w19 x9_w19 h_w19 Tw19 (by show ∀ a k, ¬ (a = v0 ∧ (k = 55)) → vI h_w19 a k = vI h a k; intro a k n0; rw [gw19_0 a k (by omega), gr6i2_1 a k (by omega)]) (by show ∀ a j, 0 ≤ j → ¬ (a = v0 + 37 ∨ a = v0 + 38) → vA h_w19 a j = vA h a j; intro a j j0 n0; rw [gw19_1 a j j0 (by omega), gr6i2_2 a j j0 (by omega)]) (by show q_rst v0 h_w19 = q_rst v0 h; exact (gw19_2).trans (gr6i2_3)) gw19_3 (zz_87647c7f75 gw19_4 o18) (zz_b8e25cf4e7 gw19_5) (by show 0 ≤ x5_w19 → q_WY N v0 v1 v4 x6_w19 x7_w19 h_w19 x5_w19; exact gw19_6)
          · skip
            refine qk_if (fun cc20 => ?_) (fun cc20 => ?_)
            · skip
              unfold f_Mod_find_121
              refine r_Mo_55 Tr6i2 kv0 ?_
              intro x1i21 ex1i21
              subst ex1i21
              refine qk_if (fun cc22 => ?_) (fun cc22 => ?_)
              · skip
                unfold f_Mod_find_131
                refine r_Mo_55 Tr6i2 kv0 ?_
                intro x1i23 ex1i23
                subst ex1i23
                refine qk_if (fun cc24 => ?_) (fun cc24 => ?_)
                · skip
                  refine qk_bs ?_
                  have o25 : vI hr6i2 v0 54 = vI h v0 54 := (by rw [gr6i2_1 v0 54 (by omega)])
                  refine ih (v0) (v1) (v3) (v4) (v5) (v6) (v7) (0) (v9) (v10) ((v11 + 1)) hr6i2 Tr6i2 kv0 wM (by exact (q_PM_eq2 PM (by rw [gr6i2_2 (v0 + 23) v1 q0 (by omega)]) (by rw [gr6i2_2 (v0 + 24) v1 q0 (by omega)]) (fun j ja _ => (by have j0 := Int32.le_trans PM.1 ja; exact ⟨(by rw [gr6i2_2 (v0 + 26) j j0 (by omega)]), (by rw [gr6i2_2 (v0 + 27) j j0 (by omega)])⟩)))) q0 q1 s0 (zz_c508abc292 o25 s1) (zz_517f455e9a o25 BB) (zz_b8e25cf4e7 kb) (by exact fun c => q_WY_rst hN T Tr6i2 kv0 wM (gr6i2_3) (BW c)) c0 c1 (zz_44f3b58424 d0 cc3) (zz_a22fe56dce cc3 d0) hN (zz_959713af35 hms hq1 hq2 cc3 d0) ?_
                  · intro x5_w26 x6_w26 x7_w26 x8_w26 x9_w26 h_w26 Tw26 gw26_0 gw26_1 gw26_2 gw26_3 gw26_4 gw26_5 gw26_6
                    exact hk33 x5_w26 x6_w26 x7_w26 x8_w26 x9_w26 h_w26 Tw26 (by show ∀ a k, ¬ (a = v0 ∧ (k = 55)) → vI h_w26 a k = vI h a k; intro a k n0; rw [gw26_0 a k (by omega), gr6i2_1 a k (by omega)]) (by show ∀ a j, 0 ≤ j → ¬ (a = v0 + 37 ∨ a = v0 + 38) → vA h_w26 a j = vA h a j; intro a j j0 n0; rw [gw26_1 a j j0 (by omega), gr6i2_2 a j j0 (by omega)]) (by show q_rst v0 h_w26 = q_rst v0 h; exact (gw26_2).trans (gr6i2_3)) gw26_3 (zz_87647c7f75 gw26_4 o25) (zz_b8e25cf4e7 gw26_5) (by show 0 ≤ x5_w26 → q_WY N v0 v1 v4 x6_w26 x7_w26 h_w26 x5_w26; exact gw26_6)
                · skip
                  refine qk_bs ?_
                  have o27 : vI hr6i2 v0 54 = vI h v0 54 := (by rw [gr6i2_1 v0 54 (by omega)])
                  refine ih (v0) (v1) (v3) (v4) (v5) (v6) (v7) (v8) (v9) (v10) ((v11 + 1)) hr6i2 Tr6i2 kv0 wM (by exact (q_PM_eq2 PM (by rw [gr6i2_2 (v0 + 23) v1 q0 (by omega)]) (by rw [gr6i2_2 (v0 + 24) v1 q0 (by omega)]) (fun j ja _ => (by have j0 := Int32.le_trans PM.1 ja; exact ⟨(by rw [gr6i2_2 (v0 + 26) j j0 (by omega)]), (by rw [gr6i2_2 (v0 + 27) j j0 (by omega)])⟩)))) q0 q1 s0 (zz_c508abc292 o27 s1) (zz_517f455e9a o27 BB) (zz_b8e25cf4e7 kb) (by exact fun c => q_WY_rst hN T Tr6i2 kv0 wM (gr6i2_3) (BW c)) c0 c1 (zz_44f3b58424 d0 cc3) (zz_a22fe56dce cc3 d0) hN (zz_959713af35 hms hq1 hq2 cc3 d0) ?_
                  · intro x5_w28 x6_w28 x7_w28 x8_w28 x9_w28 h_w28 Tw28 gw28_0 gw28_1 gw28_2 gw28_3 gw28_4 gw28_5 gw28_6
                    exact hk33 x5_w28 x6_w28 x7_w28 x8_w28 x9_w28 h_w28 Tw28 (by show ∀ a k, ¬ (a = v0 ∧ (k = 55)) → vI h_w28 a k = vI h a k; intro a k n0; rw [gw28_0 a k (by omega), gr6i2_1 a k (by omega)]) (by show ∀ a j, 0 ≤ j → ¬ (a = v0 + 37 ∨ a = v0 + 38) → vA h_w28 a j = vA h a j; intro a j j0 n0; rw [gw28_1 a j j0 (by omega), gr6i2_2 a j j0 (by omega)]) (by show q_rst v0 h_w28 = q_rst v0 h; exact (gw28_2).trans (gr6i2_3)) gw28_3 (zz_87647c7f75 gw28_4 o27) (zz_b8e25cf4e7 gw28_5) (by show 0 ≤ x5_w28 → q_WY N v0 v1 v4 x6_w28 x7_w28 h_w28 x5_w28; exact gw28_6)
              · skip
                unfold f_Mod_find_131
                refine r_Mo_55 Tr6i2 kv0 ?_
                intro x1i29 ex1i29
                subst ex1i29
                refine qk_if (fun cc30 => ?_) (fun cc30 => ?_)
                · skip
                  refine qk_bs ?_
                  have o31 : vI hr6i2 v0 54 = vI h v0 54 := (by rw [gr6i2_1 v0 54 (by omega)])
                  refine ih (v0) (v1) (v3) (v4) (v5) (v6) (v7) (0) (v9) (0) ((v11 + 1)) hr6i2 Tr6i2 kv0 wM (by exact (q_PM_eq2 PM (by rw [gr6i2_2 (v0 + 23) v1 q0 (by omega)]) (by rw [gr6i2_2 (v0 + 24) v1 q0 (by omega)]) (fun j ja _ => (by have j0 := Int32.le_trans PM.1 ja; exact ⟨(by rw [gr6i2_2 (v0 + 26) j j0 (by omega)]), (by rw [gr6i2_2 (v0 + 27) j j0 (by omega)])⟩)))) q0 q1 s0 (zz_c508abc292 o31 s1) (zz_517f455e9a o31 BB) (zz_b8e25cf4e7 kb) (by exact fun c => q_WY_rst hN T Tr6i2 kv0 wM (gr6i2_3) (BW c)) c0 c1 (zz_44f3b58424 d0 cc3) (zz_a22fe56dce cc3 d0) hN (zz_959713af35 hms hq1 hq2 cc3 d0) ?_
                  · intro x5_w32 x6_w32 x7_w32 x8_w32 x9_w32 h_w32 Tw32 gw32_0 gw32_1 gw32_2 gw32_3 gw32_4 gw32_5 gw32_6
                    exact hk33 x5_w32 x6_w32 x7_w32 x8_w32 x9_w32 h_w32 Tw32 (by show ∀ a k, ¬ (a = v0 ∧ (k = 55)) → vI h_w32 a k = vI h a k; intro a k n0; rw [gw32_0 a k (by omega), gr6i2_1 a k (by omega)]) (by show ∀ a j, 0 ≤ j → ¬ (a = v0 + 37 ∨ a = v0 + 38) → vA h_w32 a j = vA h a j; intro a j j0 n0; rw [gw32_1 a j j0 (by omega), gr6i2_2 a j j0 (by omega)]) (by show q_rst v0 h_w32 = q_rst v0 h; exact (gw32_2).trans (gr6i2_3)) gw32_3 (zz_87647c7f75 gw32_4 o31) (zz_b8e25cf4e7 gw32_5) (by show 0 ≤ x5_w32 → q_WY N v0 v1 v4 x6_w32 x7_w32 h_w32 x5_w32; exact gw32_6)
                · skip
                  refine qk_bs ?_
                  have o33 : vI hr6i2 v0 54 = vI h v0 54 := (by rw [gr6i2_1 v0 54 (by omega)])
                  refine ih (v0) (v1) (v3) (v4) (v5) (v6) (v7) (v8) (v9) (0) ((v11 + 1)) hr6i2 Tr6i2 kv0 wM (by exact (q_PM_eq2 PM (by rw [gr6i2_2 (v0 + 23) v1 q0 (by omega)]) (by rw [gr6i2_2 (v0 + 24) v1 q0 (by omega)]) (fun j ja _ => (by have j0 := Int32.le_trans PM.1 ja; exact ⟨(by rw [gr6i2_2 (v0 + 26) j j0 (by omega)]), (by rw [gr6i2_2 (v0 + 27) j j0 (by omega)])⟩)))) q0 q1 s0 (zz_c508abc292 o33 s1) (zz_517f455e9a o33 BB) (zz_b8e25cf4e7 kb) (by exact fun c => q_WY_rst hN T Tr6i2 kv0 wM (gr6i2_3) (BW c)) c0 c1 (zz_44f3b58424 d0 cc3) (zz_a22fe56dce cc3 d0) hN (zz_959713af35 hms hq1 hq2 cc3 d0) ?_
                  · intro x5_w34 x6_w34 x7_w34 x8_w34 x9_w34 h_w34 Tw34 gw34_0 gw34_1 gw34_2 gw34_3 gw34_4 gw34_5 gw34_6
                    exact hk33 x5_w34 x6_w34 x7_w34 x8_w34 x9_w34 h_w34 Tw34 (by show ∀ a k, ¬ (a = v0 ∧ (k = 55)) → vI h_w34 a k = vI h a k; intro a k n0; rw [gw34_0 a k (by omega), gr6i2_1 a k (by omega)]) (by show ∀ a j, 0 ≤ j → ¬ (a = v0 + 37 ∨ a = v0 + 38) → vA h_w34 a j = vA h a j; intro a j j0 n0; rw [gw34_1 a j j0 (by omega), gr6i2_2 a j j0 (by omega)]) (by show q_rst v0 h_w34 = q_rst v0 h; exact (gw34_2).trans (gr6i2_3)) gw34_3 (zz_87647c7f75 gw34_4 o33) (zz_b8e25cf4e7 gw34_5) (by show 0 ≤ x5_w34 → q_WY N v0 v1 v4 x6_w34 x7_w34 h_w34 x5_w34; exact gw34_6)
            · skip
              unfold f_Mod_find_121
              refine r_Mo_55 Tr6i2 kv0 ?_
              intro x1i35 ex1i35
              subst ex1i35
              refine qk_if (fun cc36 => ?_) (fun cc36 => ?_)
              · skip
                unfold f_Mod_find_131
                refine r_Mo_55 Tr6i2 kv0 ?_
                intro x1i37 ex1i37
                subst ex1i37
                refine qk_if (fun cc38 => ?_) (fun cc38 => ?_)
                · skip
                  refine qk_bs ?_
                  have o39 : vI hr6i2 v0 54 = vI h v0 54 := (by rw [gr6i2_1 v0 54 (by omega)])
                  refine ih (v0) (v1) (v3) (v4) ((yr6i2)) (v9) (v11) (0) (v9) (v10) ((v11 + 1)) hr6i2 Tr6i2 kv0 wM (by exact (q_PM_eq2 PM (by rw [gr6i2_2 (v0 + 23) v1 q0 (by omega)]) (by rw [gr6i2_2 (v0 + 24) v1 q0 (by omega)]) (fun j ja _ => (by have j0 := Int32.le_trans PM.1 ja; exact ⟨(by rw [gr6i2_2 (v0 + 26) j j0 (by omega)]), (by rw [gr6i2_2 (v0 + 27) j j0 (by omega)])⟩)))) q0 q1 s0 (zz_c508abc292 o39 s1) (zz_517f455e9a o39 gr6i2_0) (zz_a9bee6f25e c1 cc3) (by exact fun _ => q_WY_rst hN T Tr6i2 kv0 wM (gr6i2_3) gr6i2_5) c0 c1 (zz_44f3b58424 d0 cc3) (zz_a22fe56dce cc3 d0) hN (zz_959713af35 hms hq1 hq2 cc3 d0) ?_
                  · intro x5_w40 x6_w40 x7_w40 x8_w40 x9_w40 h_w40 Tw40 gw40_0 gw40_1 gw40_2 gw40_3 gw40_4 gw40_5 gw40_6
                    exact hk33 x5_w40 x6_w40 x7_w40 x8_w40 x9_w40 h_w40 Tw40 (by show ∀ a k, ¬ (a = v0 ∧ (k = 55)) → vI h_w40 a k = vI h a k; intro a k n0; rw [gw40_0 a k (by omega), gr6i2_1 a k (by omega)]) (by show ∀ a j, 0 ≤ j → ¬ (a = v0 + 37 ∨ a = v0 + 38) → vA h_w40 a j = vA h a j; intro a j j0 n0; rw [gw40_1 a j j0 (by omega), gr6i2_2 a j j0 (by omega)]) (by show q_rst v0 h_w40 = q_rst v0 h; exact (gw40_2).trans (gr6i2_3)) gw40_3 (zz_87647c7f75 gw40_4 o39) (zz_b8e25cf4e7 gw40_5) (by show 0 ≤ x5_w40 → q_WY N v0 v1 v4 x6_w40 x7_w40 h_w40 x5_w40; exact gw40_6)
                · skip
                  refine qk_bs ?_
                  have o41 : vI hr6i2 v0 54 = vI h v0 54 := (by rw [gr6i2_1 v0 54 (by omega)])
                  refine ih (v0) (v1) (v3) (v4) ((yr6i2)) (v9) (v11) (v8) (v9) (v10) ((v11 + 1)) hr6i2 Tr6i2 kv0 wM (by exact (q_PM_eq2 PM (by rw [gr6i2_2 (v0 + 23) v1 q0 (by omega)]) (by rw [gr6i2_2 (v0 + 24) v1 q0 (by omega)]) (fun j ja _ => (by have j0 := Int32.le_trans PM.1 ja; exact ⟨(by rw [gr6i2_2 (v0 + 26) j j0 (by omega)]), (by rw [gr6i2_2 (v0 + 27) j j0 (by omega)])⟩)))) q0 q1 s0 (zz_c508abc292 o41 s1) (zz_517f455e9a o41 gr6i2_0) (zz_a9bee6f25e c1 cc3) (by exact fun _ => q_WY_rst hN T Tr6i2 kv0 wM (gr6i2_3) gr6i2_5) c0 c1 (zz_44f3b58424 d0 cc3) (zz_a22fe56dce cc3 d0) hN (zz_959713af35 hms hq1 hq2 cc3 d0) ?_
                  · intro x5_w42 x6_w42 x7_w42 x8_w42 x9_w42 h_w42 Tw42 gw42_0 gw42_1 gw42_2 gw42_3 gw42_4 gw42_5 gw42_6
                    exact hk33 x5_w42 x6_w42 x7_w42 x8_w42 x9_w42 h_w42 Tw42 (by show ∀ a k, ¬ (a = v0 ∧ (k = 55)) → vI h_w42 a k = vI h a k; intro a k n0; rw [gw42_0 a k (by omega), gr6i2_1 a k (by omega)]) (by show ∀ a j, 0 ≤ j → ¬ (a = v0 + 37 ∨ a = v0 + 38) → vA h_w42 a j = vA h a j; intro a j j0 n0; rw [gw42_1 a j j0 (by omega), gr6i2_2 a j j0 (by omega)]) (by show q_rst v0 h_w42 = q_rst v0 h; exact (gw42_2).trans (gr6i2_3)) gw42_3 (zz_87647c7f75 gw42_4 o41) (zz_b8e25cf4e7 gw42_5) (by show 0 ≤ x5_w42 → q_WY N v0 v1 v4 x6_w42 x7_w42 h_w42 x5_w42; exact gw42_6)
              · skip
                unfold f_Mod_find_131
                refine r_Mo_55 Tr6i2 kv0 ?_
                intro x1i43 ex1i43
                subst ex1i43
                refine qk_if (fun cc44 => ?_) (fun cc44 => ?_)
                · skip
                  refine qk_bs ?_
                  have o45 : vI hr6i2 v0 54 = vI h v0 54 := (by rw [gr6i2_1 v0 54 (by omega)])
                  refine ih (v0) (v1) (v3) (v4) ((yr6i2)) (v9) (v11) (0) (v9) (0) ((v11 + 1)) hr6i2 Tr6i2 kv0 wM (by exact (q_PM_eq2 PM (by rw [gr6i2_2 (v0 + 23) v1 q0 (by omega)]) (by rw [gr6i2_2 (v0 + 24) v1 q0 (by omega)]) (fun j ja _ => (by have j0 := Int32.le_trans PM.1 ja; exact ⟨(by rw [gr6i2_2 (v0 + 26) j j0 (by omega)]), (by rw [gr6i2_2 (v0 + 27) j j0 (by omega)])⟩)))) q0 q1 s0 (zz_c508abc292 o45 s1) (zz_517f455e9a o45 gr6i2_0) (zz_a9bee6f25e c1 cc3) (by exact fun _ => q_WY_rst hN T Tr6i2 kv0 wM (gr6i2_3) gr6i2_5) c0 c1 (zz_44f3b58424 d0 cc3) (zz_a22fe56dce cc3 d0) hN (zz_959713af35 hms hq1 hq2 cc3 d0) ?_
                  · intro x5_w46 x6_w46 x7_w46 x8_w46 x9_w46 h_w46 Tw46 gw46_0 gw46_1 gw46_2 gw46_3 gw46_4 gw46_5 gw46_6
                    exact hk33 x5_w46 x6_w46 x7_w46 x8_w46 x9_w46 h_w46 Tw46 (by show ∀ a k, ¬ (a = v0 ∧ (k = 55)) → vI h_w46 a k = vI h a k; intro a k n0; rw [gw46_0 a k (by omega), gr6i2_1 a k (by omega)]) (by show ∀ a j, 0 ≤ j → ¬ (a = v0 + 37 ∨ a = v0 + 38) → vA h_w46 a j = vA h a j; intro a j j0 n0; rw [gw46_1 a j j0 (by omega), gr6i2_2 a j j0 (by omega)]) (by show q_rst v0 h_w46 = q_rst v0 h; exact (gw46_2).trans (gr6i2_3)) gw46_3 (zz_87647c7f75 gw46_4 o45) (zz_b8e25cf4e7 gw46_5) (by show 0 ≤ x5_w46 → q_WY N v0 v1 v4 x6_w46 x7_w46 h_w46 x5_w46; exact gw46_6)
                · skip
                  refine qk_bs ?_
                  have o47 : vI hr6i2 v0 54 = vI h v0 54 := (by rw [gr6i2_1 v0 54 (by omega)])
                  refine ih (v0) (v1) (v3) (v4) ((yr6i2)) (v9) (v11) (v8) (v9) (0) ((v11 + 1)) hr6i2 Tr6i2 kv0 wM (by exact (q_PM_eq2 PM (by rw [gr6i2_2 (v0 + 23) v1 q0 (by omega)]) (by rw [gr6i2_2 (v0 + 24) v1 q0 (by omega)]) (fun j ja _ => (by have j0 := Int32.le_trans PM.1 ja; exact ⟨(by rw [gr6i2_2 (v0 + 26) j j0 (by omega)]), (by rw [gr6i2_2 (v0 + 27) j j0 (by omega)])⟩)))) q0 q1 s0 (zz_c508abc292 o47 s1) (zz_517f455e9a o47 gr6i2_0) (zz_a9bee6f25e c1 cc3) (by exact fun _ => q_WY_rst hN T Tr6i2 kv0 wM (gr6i2_3) gr6i2_5) c0 c1 (zz_44f3b58424 d0 cc3) (zz_a22fe56dce cc3 d0) hN (zz_959713af35 hms hq1 hq2 cc3 d0) ?_
                  · intro x5_w48 x6_w48 x7_w48 x8_w48 x9_w48 h_w48 Tw48 gw48_0 gw48_1 gw48_2 gw48_3 gw48_4 gw48_5 gw48_6
                    exact hk33 x5_w48 x6_w48 x7_w48 x8_w48 x9_w48 h_w48 Tw48 (by show ∀ a k, ¬ (a = v0 ∧ (k = 55)) → vI h_w48 a k = vI h a k; intro a k n0; rw [gw48_0 a k (by omega), gr6i2_1 a k (by omega)]) (by show ∀ a j, 0 ≤ j → ¬ (a = v0 + 37 ∨ a = v0 + 38) → vA h_w48 a j = vA h a j; intro a j j0 n0; rw [gw48_1 a j j0 (by omega), gr6i2_2 a j j0 (by omega)]) (by show q_rst v0 h_w48 = q_rst v0 h; exact (gw48_2).trans (gr6i2_3)) gw48_3 (zz_87647c7f75 gw48_4 o47) (zz_b8e25cf4e7 gw48_5) (by show 0 ≤ x5_w48 → q_WY N v0 v1 v4 x6_w48 x7_w48 h_w48 x5_w48; exact gw48_6)
    · skip
      refine r_Mo_54 T kv0 ?_
      intro x2 ex2 lx2 ux2
      subst ex2
      unfold f_Mod_find_76
      refine qk_if (fun cc50 => ?_) (fun cc50 => ?_)
      · skip
        refine qk_bs ?_
        exact hk33 v5 v6 v7 v8 (v9 + 1) h T (by show ∀ a k, ¬ (a = v0 ∧ (k = 55)) → vI h a k = vI h a k; intro a k n0; rfl) (by show ∀ a j, 0 ≤ j → ¬ (a = v0 + 37 ∨ a = v0 + 38) → vA h a j = vA h a j; intro a j j0 n0; rfl) (by show q_rst v0 h = q_rst v0 h; exact rfl) (zz_b48aad4b4b c0 c1) (zz_ec74f043d4 BB) (zz_b8e25cf4e7 kb) (by show 0 ≤ v5 → q_WY N v0 v1 v4 v6 v7 h v5; exact BW)
      · skip
        refine qk_if (fun cc51 => ?_) (fun cc51 => ?_)
        · skip
          refine qk_bs ?_
          exact hk33 v5 v6 v7 v8 (v9 + 1) h T (by show ∀ a k, ¬ (a = v0 ∧ (k = 55)) → vI h a k = vI h a k; intro a k n0; rfl) (by show ∀ a j, 0 ≤ j → ¬ (a = v0 + 37 ∨ a = v0 + 38) → vA h a j = vA h a j; intro a j j0 n0; rfl) (by show q_rst v0 h = q_rst v0 h; exact rfl) (zz_b48aad4b4b c0 c1) (zz_ec74f043d4 BB) (zz_b8e25cf4e7 kb) (by show 0 ≤ v5 → q_WY N v0 v1 v4 v6 v7 h v5; exact BW)
        · skip
          refine r_Mo_o T kv0 ?_
          refine c_Mod_way2 (v0 := v0) (v1 := v1) (v2 := v4) (v3 := v9) (v4 := v11) T kv0 wM (by exact PM) q0 q1 s0 s1 (zz_d80ad86b4b c1) d1 hN ?_
          intro yr6i49 hr6i49 Tr6i49 gr6i49_0 gr6i49_1 gr6i49_2 gr6i49_3 gr6i49_4 gr6i49_5
          dsimp only
          refine qk_bs ?_
          refine qk_if (fun cc52 => ?_) (fun cc52 => ?_)
          · skip
            unfold f_Mod_find_121
            refine r_Mo_55 Tr6i49 kv0 ?_
            intro x1i53 ex1i53
            subst ex1i53
            refine qk_if (fun cc54 => ?_) (fun cc54 => ?_)
            · skip
              unfold f_Mod_find_131
              refine r_Mo_55 Tr6i49 kv0 ?_
              intro x1i55 ex1i55
              subst ex1i55
              refine qk_if (fun cc56 => ?_) (fun cc56 => ?_)
              · skip
                refine qk_bs ?_
                have o57 : vI hr6i49 v0 54 = vI h v0 54 := (by rw [gr6i49_1 v0 54 (by omega)])
                have o58 := g_Mo_54 T kv0
                refine ih (v0) (v1) (v3) (v4) (v5) (v6) (v7) (0) (v9) (v10) ((v11 + 1)) hr6i49 Tr6i49 kv0 wM (by exact (q_PM_eq2 PM (by rw [gr6i49_2 (v0 + 23) v1 q0 (by omega)]) (by rw [gr6i49_2 (v0 + 24) v1 q0 (by omega)]) (fun j ja _ => (by have j0 := Int32.le_trans PM.1 ja; exact ⟨(by rw [gr6i49_2 (v0 + 26) j j0 (by omega)]), (by rw [gr6i49_2 (v0 + 27) j j0 (by omega)])⟩)))) q0 q1 s0 (zz_c508abc292 o57 s1) (zz_517f455e9a o57 BB) (zz_b8e25cf4e7 kb) (by exact fun c => q_WY_rst hN T Tr6i49 kv0 wM (gr6i49_3) (BW c)) c0 c1 (zz_66adc92e5d d0 d1) (zz_7f760ead83 cc50 o58 d0 d1) hN (zz_c56b706add hms hq1 hq2 hq3 d0 d1) ?_
                · intro x5_w59 x6_w59 x7_w59 x8_w59 x9_w59 h_w59 Tw59 gw59_0 gw59_1 gw59_2 gw59_3 gw59_4 gw59_5 gw59_6
                  exact hk33 x5_w59 x6_w59 x7_w59 x8_w59 x9_w59 h_w59 Tw59 (by show ∀ a k, ¬ (a = v0 ∧ (k = 55)) → vI h_w59 a k = vI h a k; intro a k n0; rw [gw59_0 a k (by omega), gr6i49_1 a k (by omega)]) (by show ∀ a j, 0 ≤ j → ¬ (a = v0 + 37 ∨ a = v0 + 38) → vA h_w59 a j = vA h a j; intro a j j0 n0; rw [gw59_1 a j j0 (by omega), gr6i49_2 a j j0 (by omega)]) (by show q_rst v0 h_w59 = q_rst v0 h; exact (gw59_2).trans (gr6i49_3)) gw59_3 (zz_87647c7f75 gw59_4 o57) (zz_b8e25cf4e7 gw59_5) (by show 0 ≤ x5_w59 → q_WY N v0 v1 v4 x6_w59 x7_w59 h_w59 x5_w59; exact gw59_6)
              · skip
                refine qk_bs ?_
                have o60 : vI hr6i49 v0 54 = vI h v0 54 := (by rw [gr6i49_1 v0 54 (by omega)])
                have o61 := g_Mo_54 T kv0
                refine ih (v0) (v1) (v3) (v4) (v5) (v6) (v7) (v8) (v9) (v10) ((v11 + 1)) hr6i49 Tr6i49 kv0 wM (by exact (q_PM_eq2 PM (by rw [gr6i49_2 (v0 + 23) v1 q0 (by omega)]) (by rw [gr6i49_2 (v0 + 24) v1 q0 (by omega)]) (fun j ja _ => (by have j0 := Int32.le_trans PM.1 ja; exact ⟨(by rw [gr6i49_2 (v0 + 26) j j0 (by omega)]), (by rw [gr6i49_2 (v0 + 27) j j0 (by omega)])⟩)))) q0 q1 s0 (zz_c508abc292 o60 s1) (zz_517f455e9a o60 BB) (zz_b8e25cf4e7 kb) (by exact fun c => q_WY_rst hN T Tr6i49 kv0 wM (gr6i49_3) (BW c)) c0 c1 (zz_66adc92e5d d0 d1) (zz_7f760ead83 cc50 o61 d0 d1) hN (zz_c56b706add hms hq1 hq2 hq3 d0 d1) ?_
                · intro x5_w62 x6_w62 x7_w62 x8_w62 x9_w62 h_w62 Tw62 gw62_0 gw62_1 gw62_2 gw62_3 gw62_4 gw62_5 gw62_6
                  exact hk33 x5_w62 x6_w62 x7_w62 x8_w62 x9_w62 h_w62 Tw62 (by show ∀ a k, ¬ (a = v0 ∧ (k = 55)) → vI h_w62 a k = vI h a k; intro a k n0; rw [gw62_0 a k (by omega), gr6i49_1 a k (by omega)]) (by show ∀ a j, 0 ≤ j → ¬ (a = v0 + 37 ∨ a = v0 + 38) → vA h_w62 a j = vA h a j; intro a j j0 n0; rw [gw62_1 a j j0 (by omega), gr6i49_2 a j j0 (by omega)]) (by show q_rst v0 h_w62 = q_rst v0 h; exact (gw62_2).trans (gr6i49_3)) gw62_3 (zz_87647c7f75 gw62_4 o60) (zz_b8e25cf4e7 gw62_5) (by show 0 ≤ x5_w62 → q_WY N v0 v1 v4 x6_w62 x7_w62 h_w62 x5_w62; exact gw62_6)
            · skip
              unfold f_Mod_find_131
              refine r_Mo_55 Tr6i49 kv0 ?_
              intro x1i63 ex1i63
              subst ex1i63
              refine qk_if (fun cc64 => ?_) (fun cc64 => ?_)
              · skip
                refine qk_bs ?_
                have o65 : vI hr6i49 v0 54 = vI h v0 54 := (by rw [gr6i49_1 v0 54 (by omega)])
                have o66 := g_Mo_54 T kv0
                refine ih (v0) (v1) (v3) (v4) (v5) (v6) (v7) (0) (v9) (0) ((v11 + 1)) hr6i49 Tr6i49 kv0 wM (by exact (q_PM_eq2 PM (by rw [gr6i49_2 (v0 + 23) v1 q0 (by omega)]) (by rw [gr6i49_2 (v0 + 24) v1 q0 (by omega)]) (fun j ja _ => (by have j0 := Int32.le_trans PM.1 ja; exact ⟨(by rw [gr6i49_2 (v0 + 26) j j0 (by omega)]), (by rw [gr6i49_2 (v0 + 27) j j0 (by omega)])⟩)))) q0 q1 s0 (zz_c508abc292 o65 s1) (zz_517f455e9a o65 BB) (zz_b8e25cf4e7 kb) (by exact fun c => q_WY_rst hN T Tr6i49 kv0 wM (gr6i49_3) (BW c)) c0 c1 (zz_66adc92e5d d0 d1) (zz_7f760ead83 cc50 o66 d0 d1) hN (zz_c56b706add hms hq1 hq2 hq3 d0 d1) ?_
                · intro x5_w67 x6_w67 x7_w67 x8_w67 x9_w67 h_w67 Tw67 gw67_0 gw67_1 gw67_2 gw67_3 gw67_4 gw67_5 gw67_6
                  exact hk33 x5_w67 x6_w67 x7_w67 x8_w67 x9_w67 h_w67 Tw67 (by show ∀ a k, ¬ (a = v0 ∧ (k = 55)) → vI h_w67 a k = vI h a k; intro a k n0; rw [gw67_0 a k (by omega), gr6i49_1 a k (by omega)]) (by show ∀ a j, 0 ≤ j → ¬ (a = v0 + 37 ∨ a = v0 + 38) → vA h_w67 a j = vA h a j; intro a j j0 n0; rw [gw67_1 a j j0 (by omega), gr6i49_2 a j j0 (by omega)]) (by show q_rst v0 h_w67 = q_rst v0 h; exact (gw67_2).trans (gr6i49_3)) gw67_3 (zz_87647c7f75 gw67_4 o65) (zz_b8e25cf4e7 gw67_5) (by show 0 ≤ x5_w67 → q_WY N v0 v1 v4 x6_w67 x7_w67 h_w67 x5_w67; exact gw67_6)
              · skip
                refine qk_bs ?_
                have o68 : vI hr6i49 v0 54 = vI h v0 54 := (by rw [gr6i49_1 v0 54 (by omega)])
                have o69 := g_Mo_54 T kv0
                refine ih (v0) (v1) (v3) (v4) (v5) (v6) (v7) (v8) (v9) (0) ((v11 + 1)) hr6i49 Tr6i49 kv0 wM (by exact (q_PM_eq2 PM (by rw [gr6i49_2 (v0 + 23) v1 q0 (by omega)]) (by rw [gr6i49_2 (v0 + 24) v1 q0 (by omega)]) (fun j ja _ => (by have j0 := Int32.le_trans PM.1 ja; exact ⟨(by rw [gr6i49_2 (v0 + 26) j j0 (by omega)]), (by rw [gr6i49_2 (v0 + 27) j j0 (by omega)])⟩)))) q0 q1 s0 (zz_c508abc292 o68 s1) (zz_517f455e9a o68 BB) (zz_b8e25cf4e7 kb) (by exact fun c => q_WY_rst hN T Tr6i49 kv0 wM (gr6i49_3) (BW c)) c0 c1 (zz_66adc92e5d d0 d1) (zz_7f760ead83 cc50 o69 d0 d1) hN (zz_c56b706add hms hq1 hq2 hq3 d0 d1) ?_
                · intro x5_w70 x6_w70 x7_w70 x8_w70 x9_w70 h_w70 Tw70 gw70_0 gw70_1 gw70_2 gw70_3 gw70_4 gw70_5 gw70_6
                  exact hk33 x5_w70 x6_w70 x7_w70 x8_w70 x9_w70 h_w70 Tw70 (by show ∀ a k, ¬ (a = v0 ∧ (k = 55)) → vI h_w70 a k = vI h a k; intro a k n0; rw [gw70_0 a k (by omega), gr6i49_1 a k (by omega)]) (by show ∀ a j, 0 ≤ j → ¬ (a = v0 + 37 ∨ a = v0 + 38) → vA h_w70 a j = vA h a j; intro a j j0 n0; rw [gw70_1 a j j0 (by omega), gr6i49_2 a j j0 (by omega)]) (by show q_rst v0 h_w70 = q_rst v0 h; exact (gw70_2).trans (gr6i49_3)) gw70_3 (zz_87647c7f75 gw70_4 o68) (zz_b8e25cf4e7 gw70_5) (by show 0 ≤ x5_w70 → q_WY N v0 v1 v4 x6_w70 x7_w70 h_w70 x5_w70; exact gw70_6)
          · skip
            refine qk_if (fun cc71 => ?_) (fun cc71 => ?_)
            · skip
              unfold f_Mod_find_121
              refine r_Mo_55 Tr6i49 kv0 ?_
              intro x1i72 ex1i72
              subst ex1i72
              refine qk_if (fun cc73 => ?_) (fun cc73 => ?_)
              · skip
                unfold f_Mod_find_131
                refine r_Mo_55 Tr6i49 kv0 ?_
                intro x1i74 ex1i74
                subst ex1i74
                refine qk_if (fun cc75 => ?_) (fun cc75 => ?_)
                · skip
                  refine qk_bs ?_
                  have o76 : vI hr6i49 v0 54 = vI h v0 54 := (by rw [gr6i49_1 v0 54 (by omega)])
                  have o77 := g_Mo_54 T kv0
                  refine ih (v0) (v1) (v3) (v4) (v5) (v6) (v7) (0) (v9) (v10) ((v11 + 1)) hr6i49 Tr6i49 kv0 wM (by exact (q_PM_eq2 PM (by rw [gr6i49_2 (v0 + 23) v1 q0 (by omega)]) (by rw [gr6i49_2 (v0 + 24) v1 q0 (by omega)]) (fun j ja _ => (by have j0 := Int32.le_trans PM.1 ja; exact ⟨(by rw [gr6i49_2 (v0 + 26) j j0 (by omega)]), (by rw [gr6i49_2 (v0 + 27) j j0 (by omega)])⟩)))) q0 q1 s0 (zz_c508abc292 o76 s1) (zz_517f455e9a o76 BB) (zz_b8e25cf4e7 kb) (by exact fun c => q_WY_rst hN T Tr6i49 kv0 wM (gr6i49_3) (BW c)) c0 c1 (zz_66adc92e5d d0 d1) (zz_7f760ead83 cc50 o77 d0 d1) hN (zz_c56b706add hms hq1 hq2 hq3 d0 d1) ?_
                  · intro x5_w78 x6_w78 x7_w78 x8_w78 x9_w78 h_w78 Tw78 gw78_0 gw78_1 gw78_2 gw78_3 gw78_4 gw78_5 gw78_6
                    exact hk33 x5_w78 x6_w78 x7_w78 x8_w78 x9_w78 h_w78 Tw78 (by show ∀ a k, ¬ (a = v0 ∧ (k = 55)) → vI h_w78 a k = vI h a k; intro a k n0; rw [gw78_0 a k (by omega), gr6i49_1 a k (by omega)]) (by show ∀ a j, 0 ≤ j → ¬ (a = v0 + 37 ∨ a = v0 + 38) → vA h_w78 a j = vA h a j; intro a j j0 n0; rw [gw78_1 a j j0 (by omega), gr6i49_2 a j j0 (by omega)]) (by show q_rst v0 h_w78 = q_rst v0 h; exact (gw78_2).trans (gr6i49_3)) gw78_3 (zz_87647c7f75 gw78_4 o76) (zz_b8e25cf4e7 gw78_5) (by show 0 ≤ x5_w78 → q_WY N v0 v1 v4 x6_w78 x7_w78 h_w78 x5_w78; exact gw78_6)
                · skip
                  refine qk_bs ?_
                  have o79 : vI hr6i49 v0 54 = vI h v0 54 := (by rw [gr6i49_1 v0 54 (by omega)])
                  have o80 := g_Mo_54 T kv0
                  refine ih (v0) (v1) (v3) (v4) (v5) (v6) (v7) (v8) (v9) (v10) ((v11 + 1)) hr6i49 Tr6i49 kv0 wM (by exact (q_PM_eq2 PM (by rw [gr6i49_2 (v0 + 23) v1 q0 (by omega)]) (by rw [gr6i49_2 (v0 + 24) v1 q0 (by omega)]) (fun j ja _ => (by have j0 := Int32.le_trans PM.1 ja; exact ⟨(by rw [gr6i49_2 (v0 + 26) j j0 (by omega)]), (by rw [gr6i49_2 (v0 + 27) j j0 (by omega)])⟩)))) q0 q1 s0 (zz_c508abc292 o79 s1) (zz_517f455e9a o79 BB) (zz_b8e25cf4e7 kb) (by exact fun c => q_WY_rst hN T Tr6i49 kv0 wM (gr6i49_3) (BW c)) c0 c1 (zz_66adc92e5d d0 d1) (zz_7f760ead83 cc50 o80 d0 d1) hN (zz_c56b706add hms hq1 hq2 hq3 d0 d1) ?_
                  · intro x5_w81 x6_w81 x7_w81 x8_w81 x9_w81 h_w81 Tw81 gw81_0 gw81_1 gw81_2 gw81_3 gw81_4 gw81_5 gw81_6
                    exact hk33 x5_w81 x6_w81 x7_w81 x8_w81 x9_w81 h_w81 Tw81 (by show ∀ a k, ¬ (a = v0 ∧ (k = 55)) → vI h_w81 a k = vI h a k; intro a k n0; rw [gw81_0 a k (by omega), gr6i49_1 a k (by omega)]) (by show ∀ a j, 0 ≤ j → ¬ (a = v0 + 37 ∨ a = v0 + 38) → vA h_w81 a j = vA h a j; intro a j j0 n0; rw [gw81_1 a j j0 (by omega), gr6i49_2 a j j0 (by omega)]) (by show q_rst v0 h_w81 = q_rst v0 h; exact (gw81_2).trans (gr6i49_3)) gw81_3 (zz_87647c7f75 gw81_4 o79) (zz_b8e25cf4e7 gw81_5) (by show 0 ≤ x5_w81 → q_WY N v0 v1 v4 x6_w81 x7_w81 h_w81 x5_w81; exact gw81_6)
              · skip
                unfold f_Mod_find_131
                refine r_Mo_55 Tr6i49 kv0 ?_
                intro x1i82 ex1i82
                subst ex1i82
                refine qk_if (fun cc83 => ?_) (fun cc83 => ?_)
                · skip
                  refine qk_bs ?_
                  have o84 : vI hr6i49 v0 54 = vI h v0 54 := (by rw [gr6i49_1 v0 54 (by omega)])
                  have o85 := g_Mo_54 T kv0
                  refine ih (v0) (v1) (v3) (v4) (v5) (v6) (v7) (0) (v9) (0) ((v11 + 1)) hr6i49 Tr6i49 kv0 wM (by exact (q_PM_eq2 PM (by rw [gr6i49_2 (v0 + 23) v1 q0 (by omega)]) (by rw [gr6i49_2 (v0 + 24) v1 q0 (by omega)]) (fun j ja _ => (by have j0 := Int32.le_trans PM.1 ja; exact ⟨(by rw [gr6i49_2 (v0 + 26) j j0 (by omega)]), (by rw [gr6i49_2 (v0 + 27) j j0 (by omega)])⟩)))) q0 q1 s0 (zz_c508abc292 o84 s1) (zz_517f455e9a o84 BB) (zz_b8e25cf4e7 kb) (by exact fun c => q_WY_rst hN T Tr6i49 kv0 wM (gr6i49_3) (BW c)) c0 c1 (zz_66adc92e5d d0 d1) (zz_7f760ead83 cc50 o85 d0 d1) hN (zz_c56b706add hms hq1 hq2 hq3 d0 d1) ?_
                  · intro x5_w86 x6_w86 x7_w86 x8_w86 x9_w86 h_w86 Tw86 gw86_0 gw86_1 gw86_2 gw86_3 gw86_4 gw86_5 gw86_6
                    exact hk33 x5_w86 x6_w86 x7_w86 x8_w86 x9_w86 h_w86 Tw86 (by show ∀ a k, ¬ (a = v0 ∧ (k = 55)) → vI h_w86 a k = vI h a k; intro a k n0; rw [gw86_0 a k (by omega), gr6i49_1 a k (by omega)]) (by show ∀ a j, 0 ≤ j → ¬ (a = v0 + 37 ∨ a = v0 + 38) → vA h_w86 a j = vA h a j; intro a j j0 n0; rw [gw86_1 a j j0 (by omega), gr6i49_2 a j j0 (by omega)]) (by show q_rst v0 h_w86 = q_rst v0 h; exact (gw86_2).trans (gr6i49_3)) gw86_3 (zz_87647c7f75 gw86_4 o84) (zz_b8e25cf4e7 gw86_5) (by show 0 ≤ x5_w86 → q_WY N v0 v1 v4 x6_w86 x7_w86 h_w86 x5_w86; exact gw86_6)
                · skip
                  refine qk_bs ?_
                  have o87 : vI hr6i49 v0 54 = vI h v0 54 := (by rw [gr6i49_1 v0 54 (by omega)])
                  have o88 := g_Mo_54 T kv0
                  refine ih (v0) (v1) (v3) (v4) (v5) (v6) (v7) (v8) (v9) (0) ((v11 + 1)) hr6i49 Tr6i49 kv0 wM (by exact (q_PM_eq2 PM (by rw [gr6i49_2 (v0 + 23) v1 q0 (by omega)]) (by rw [gr6i49_2 (v0 + 24) v1 q0 (by omega)]) (fun j ja _ => (by have j0 := Int32.le_trans PM.1 ja; exact ⟨(by rw [gr6i49_2 (v0 + 26) j j0 (by omega)]), (by rw [gr6i49_2 (v0 + 27) j j0 (by omega)])⟩)))) q0 q1 s0 (zz_c508abc292 o87 s1) (zz_517f455e9a o87 BB) (zz_b8e25cf4e7 kb) (by exact fun c => q_WY_rst hN T Tr6i49 kv0 wM (gr6i49_3) (BW c)) c0 c1 (zz_66adc92e5d d0 d1) (zz_7f760ead83 cc50 o88 d0 d1) hN (zz_c56b706add hms hq1 hq2 hq3 d0 d1) ?_
                  · intro x5_w89 x6_w89 x7_w89 x8_w89 x9_w89 h_w89 Tw89 gw89_0 gw89_1 gw89_2 gw89_3 gw89_4 gw89_5 gw89_6
                    exact hk33 x5_w89 x6_w89 x7_w89 x8_w89 x9_w89 h_w89 Tw89 (by show ∀ a k, ¬ (a = v0 ∧ (k = 55)) → vI h_w89 a k = vI h a k; intro a k n0; rw [gw89_0 a k (by omega), gr6i49_1 a k (by omega)]) (by show ∀ a j, 0 ≤ j → ¬ (a = v0 + 37 ∨ a = v0 + 38) → vA h_w89 a j = vA h a j; intro a j j0 n0; rw [gw89_1 a j j0 (by omega), gr6i49_2 a j j0 (by omega)]) (by show q_rst v0 h_w89 = q_rst v0 h; exact (gw89_2).trans (gr6i49_3)) gw89_3 (zz_87647c7f75 gw89_4 o87) (zz_b8e25cf4e7 gw89_5) (by show 0 ≤ x5_w89 → q_WY N v0 v1 v4 x6_w89 x7_w89 h_w89 x5_w89; exact gw89_6)
            · skip
              unfold f_Mod_find_121
              refine r_Mo_55 Tr6i49 kv0 ?_
              intro x1i90 ex1i90
              subst ex1i90
              refine qk_if (fun cc91 => ?_) (fun cc91 => ?_)
              · skip
                unfold f_Mod_find_131
                refine r_Mo_55 Tr6i49 kv0 ?_
                intro x1i92 ex1i92
                subst ex1i92
                refine qk_if (fun cc93 => ?_) (fun cc93 => ?_)
                · skip
                  refine qk_bs ?_
                  have o94 : vI hr6i49 v0 54 = vI h v0 54 := (by rw [gr6i49_1 v0 54 (by omega)])
                  have o95 := g_Mo_54 T kv0
                  refine ih (v0) (v1) (v3) (v4) ((yr6i49)) (v9) (v11) (0) (v9) (v10) ((v11 + 1)) hr6i49 Tr6i49 kv0 wM (by exact (q_PM_eq2 PM (by rw [gr6i49_2 (v0 + 23) v1 q0 (by omega)]) (by rw [gr6i49_2 (v0 + 24) v1 q0 (by omega)]) (fun j ja _ => (by have j0 := Int32.le_trans PM.1 ja; exact ⟨(by rw [gr6i49_2 (v0 + 26) j j0 (by omega)]), (by rw [gr6i49_2 (v0 + 27) j j0 (by omega)])⟩)))) q0 q1 s0 (zz_c508abc292 o94 s1) (zz_517f455e9a o94 gr6i49_0) (zz_f872df5fc7 c1 d1) (by exact fun _ => q_WY_rst hN T Tr6i49 kv0 wM (gr6i49_3) gr6i49_5) c0 c1 (zz_66adc92e5d d0 d1) (zz_7f760ead83 cc50 o95 d0 d1) hN (zz_c56b706add hms hq1 hq2 hq3 d0 d1) ?_
                  · intro x5_w96 x6_w96 x7_w96 x8_w96 x9_w96 h_w96 Tw96 gw96_0 gw96_1 gw96_2 gw96_3 gw96_4 gw96_5 gw96_6
                    exact hk33 x5_w96 x6_w96 x7_w96 x8_w96 x9_w96 h_w96 Tw96 (by show ∀ a k, ¬ (a = v0 ∧ (k = 55)) → vI h_w96 a k = vI h a k; intro a k n0; rw [gw96_0 a k (by omega), gr6i49_1 a k (by omega)]) (by show ∀ a j, 0 ≤ j → ¬ (a = v0 + 37 ∨ a = v0 + 38) → vA h_w96 a j = vA h a j; intro a j j0 n0; rw [gw96_1 a j j0 (by omega), gr6i49_2 a j j0 (by omega)]) (by show q_rst v0 h_w96 = q_rst v0 h; exact (gw96_2).trans (gr6i49_3)) gw96_3 (zz_87647c7f75 gw96_4 o94) (zz_b8e25cf4e7 gw96_5) (by show 0 ≤ x5_w96 → q_WY N v0 v1 v4 x6_w96 x7_w96 h_w96 x5_w96; exact gw96_6)
                · skip
                  refine qk_bs ?_
                  have o97 : vI hr6i49 v0 54 = vI h v0 54 := (by rw [gr6i49_1 v0 54 (by omega)])
                  have o98 := g_Mo_54 T kv0
                  refine ih (v0) (v1) (v3) (v4) ((yr6i49)) (v9) (v11) (v8) (v9) (v10) ((v11 + 1)) hr6i49 Tr6i49 kv0 wM (by exact (q_PM_eq2 PM (by rw [gr6i49_2 (v0 + 23) v1 q0 (by omega)]) (by rw [gr6i49_2 (v0 + 24) v1 q0 (by omega)]) (fun j ja _ => (by have j0 := Int32.le_trans PM.1 ja; exact ⟨(by rw [gr6i49_2 (v0 + 26) j j0 (by omega)]), (by rw [gr6i49_2 (v0 + 27) j j0 (by omega)])⟩)))) q0 q1 s0 (zz_c508abc292 o97 s1) (zz_517f455e9a o97 gr6i49_0) (zz_f872df5fc7 c1 d1) (by exact fun _ => q_WY_rst hN T Tr6i49 kv0 wM (gr6i49_3) gr6i49_5) c0 c1 (zz_66adc92e5d d0 d1) (zz_7f760ead83 cc50 o98 d0 d1) hN (zz_c56b706add hms hq1 hq2 hq3 d0 d1) ?_
                  · intro x5_w99 x6_w99 x7_w99 x8_w99 x9_w99 h_w99 Tw99 gw99_0 gw99_1 gw99_2 gw99_3 gw99_4 gw99_5 gw99_6
                    exact hk33 x5_w99 x6_w99 x7_w99 x8_w99 x9_w99 h_w99 Tw99 (by show ∀ a k, ¬ (a = v0 ∧ (k = 55)) → vI h_w99 a k = vI h a k; intro a k n0; rw [gw99_0 a k (by omega), gr6i49_1 a k (by omega)]) (by show ∀ a j, 0 ≤ j → ¬ (a = v0 + 37 ∨ a = v0 + 38) → vA h_w99 a j = vA h a j; intro a j j0 n0; rw [gw99_1 a j j0 (by omega), gr6i49_2 a j j0 (by omega)]) (by show q_rst v0 h_w99 = q_rst v0 h; exact (gw99_2).trans (gr6i49_3)) gw99_3 (zz_87647c7f75 gw99_4 o97) (zz_b8e25cf4e7 gw99_5) (by show 0 ≤ x5_w99 → q_WY N v0 v1 v4 x6_w99 x7_w99 h_w99 x5_w99; exact gw99_6)
              · skip
                unfold f_Mod_find_131
                refine r_Mo_55 Tr6i49 kv0 ?_
                intro x1i100 ex1i100
                subst ex1i100
                refine qk_if (fun cc101 => ?_) (fun cc101 => ?_)
                · skip
                  refine qk_bs ?_
                  have o102 : vI hr6i49 v0 54 = vI h v0 54 := (by rw [gr6i49_1 v0 54 (by omega)])
                  have o103 := g_Mo_54 T kv0
                  refine ih (v0) (v1) (v3) (v4) ((yr6i49)) (v9) (v11) (0) (v9) (0) ((v11 + 1)) hr6i49 Tr6i49 kv0 wM (by exact (q_PM_eq2 PM (by rw [gr6i49_2 (v0 + 23) v1 q0 (by omega)]) (by rw [gr6i49_2 (v0 + 24) v1 q0 (by omega)]) (fun j ja _ => (by have j0 := Int32.le_trans PM.1 ja; exact ⟨(by rw [gr6i49_2 (v0 + 26) j j0 (by omega)]), (by rw [gr6i49_2 (v0 + 27) j j0 (by omega)])⟩)))) q0 q1 s0 (zz_c508abc292 o102 s1) (zz_517f455e9a o102 gr6i49_0) (zz_f872df5fc7 c1 d1) (by exact fun _ => q_WY_rst hN T Tr6i49 kv0 wM (gr6i49_3) gr6i49_5) c0 c1 (zz_66adc92e5d d0 d1) (zz_7f760ead83 cc50 o103 d0 d1) hN (zz_c56b706add hms hq1 hq2 hq3 d0 d1) ?_
                  · intro x5_w104 x6_w104 x7_w104 x8_w104 x9_w104 h_w104 Tw104 gw104_0 gw104_1 gw104_2 gw104_3 gw104_4 gw104_5 gw104_6
                    exact hk33 x5_w104 x6_w104 x7_w104 x8_w104 x9_w104 h_w104 Tw104 (by show ∀ a k, ¬ (a = v0 ∧ (k = 55)) → vI h_w104 a k = vI h a k; intro a k n0; rw [gw104_0 a k (by omega), gr6i49_1 a k (by omega)]) (by show ∀ a j, 0 ≤ j → ¬ (a = v0 + 37 ∨ a = v0 + 38) → vA h_w104 a j = vA h a j; intro a j j0 n0; rw [gw104_1 a j j0 (by omega), gr6i49_2 a j j0 (by omega)]) (by show q_rst v0 h_w104 = q_rst v0 h; exact (gw104_2).trans (gr6i49_3)) gw104_3 (zz_87647c7f75 gw104_4 o102) (zz_b8e25cf4e7 gw104_5) (by show 0 ≤ x5_w104 → q_WY N v0 v1 v4 x6_w104 x7_w104 h_w104 x5_w104; exact gw104_6)
                · skip
                  refine qk_bs ?_
                  have o105 : vI hr6i49 v0 54 = vI h v0 54 := (by rw [gr6i49_1 v0 54 (by omega)])
                  have o106 := g_Mo_54 T kv0
                  refine ih (v0) (v1) (v3) (v4) ((yr6i49)) (v9) (v11) (v8) (v9) (0) ((v11 + 1)) hr6i49 Tr6i49 kv0 wM (by exact (q_PM_eq2 PM (by rw [gr6i49_2 (v0 + 23) v1 q0 (by omega)]) (by rw [gr6i49_2 (v0 + 24) v1 q0 (by omega)]) (fun j ja _ => (by have j0 := Int32.le_trans PM.1 ja; exact ⟨(by rw [gr6i49_2 (v0 + 26) j j0 (by omega)]), (by rw [gr6i49_2 (v0 + 27) j j0 (by omega)])⟩)))) q0 q1 s0 (zz_c508abc292 o105 s1) (zz_517f455e9a o105 gr6i49_0) (zz_f872df5fc7 c1 d1) (by exact fun _ => q_WY_rst hN T Tr6i49 kv0 wM (gr6i49_3) gr6i49_5) c0 c1 (zz_66adc92e5d d0 d1) (zz_7f760ead83 cc50 o106 d0 d1) hN (zz_c56b706add hms hq1 hq2 hq3 d0 d1) ?_
                  · intro x5_w107 x6_w107 x7_w107 x8_w107 x9_w107 h_w107 Tw107 gw107_0 gw107_1 gw107_2 gw107_3 gw107_4 gw107_5 gw107_6
                    exact hk33 x5_w107 x6_w107 x7_w107 x8_w107 x9_w107 h_w107 Tw107 (by show ∀ a k, ¬ (a = v0 ∧ (k = 55)) → vI h_w107 a k = vI h a k; intro a k n0; rw [gw107_0 a k (by omega), gr6i49_1 a k (by omega)]) (by show ∀ a j, 0 ≤ j → ¬ (a = v0 + 37 ∨ a = v0 + 38) → vA h_w107 a j = vA h a j; intro a j j0 n0; rw [gw107_1 a j j0 (by omega), gr6i49_2 a j j0 (by omega)]) (by show q_rst v0 h_w107 = q_rst v0 h; exact (gw107_2).trans (gr6i49_3)) gw107_3 (zz_87647c7f75 gw107_4 o105) (zz_b8e25cf4e7 gw107_5) (by show 0 ≤ x5_w107 → q_WY N v0 v1 v4 x6_w107 x7_w107 h_w107 x5_w107; exact gw107_6)
theorem p_Mod_find_61 {L : q_L} {W : Nat → Prop} {h0 : z_H} {π : Nat → Nat → Option Nat} {N : Nat} {Q : Int32 × z_H → Prop} {k9 : Nat → Int32 → Int32 → Int32 → z_H → Option (Int32 × z_H)} {k33 : Nat → Int32 → Int32 → Int32 → Int32 → Int32 → Int32 → Int32 → Int32 → z_H → Option (Int32 × z_H)} {h : z_H} {v0 : Nat} {v1 : Int32} {v3 : Int32} {v4 : Int32} {v5 : Int32} {v6 : Int32} {v7 : Int32} {v8 : Int32} {v9 : Int32} {v10 : Int32} {v11 : Int32} (T : q_U L W h0 π h) (kv0 : q_M L π v0) (wM : ∀ a, v0 ≤ a → a < v0 + 46 → W a) (PM : q_PM h v0 v1) (q0 : 0 ≤ v1) (q1 : v1 < 260) (s0 : 0 ≤ v4) (s1 : v4 ≤ vI h v0 54) (BB : v5 = -1 ∨ (v4 ≤ v5 ∧ v5 ≤ vI h v0 54)) (kb : v6 ≤ 61 ∧ v7 ≤ 61) (BW : 0 ≤ v5 → q_WY N v0 v1 v4 v6 v7 h v5) (c0 : 0 ≤ v9) (c1 : v9 ≤ 60) (d0 : 0 ≤ v11) (d1 : v11 ≤ 61) (hN : 100000 ≤ N) (hk33 : (∀ (x5 : Int32) (x6 : Int32) (x7 : Int32) (x8 : Int32) (x9 : Int32) (h1 : z_H), q_U L W h0 π h1 → (∀ a k, ¬ (a = v0 ∧ (k = 55)) → vI h1 a k = vI h a k) → (∀ a j, 0 ≤ j → ¬ (a = v0 + 37 ∨ a = v0 + 38) → vA h1 a j = vA h a j) → (q_rst v0 h1 = q_rst v0 h) → (x9 = v9 + 1) → (x5 = -1 ∨ (v4 ≤ x5 ∧ x5 ≤ vI h v0 54)) → (x6 ≤ 61 ∧ x7 ≤ 61) → (0 ≤ x5 → q_WY N v0 v1 v4 x6 x7 h1 x5) → qk (k33 v0 v1 v3 v4 x5 x6 x7 x8 x9 h1) Q)) : qk (f_Mod_find_61 N k9 k33 N v0 v1 v3 v4 v5 v6 v7 v8 v9 v10 v11 h) Q := by
  have hq := q_qnN hN
  refine p_Mod_find_61_n (q_lo (M := 62) (by decide) (by decide)) N v0 v1 v3 v4 v5 v6 v7 v8 v9 v10 v11 h T kv0 wM PM q0 q1 s0 s1 BB kb BW c0 c1 d0 d1 hN ?_ hk33
  show 62 - q_n N ≤ _
  rw [hq]
  lia
