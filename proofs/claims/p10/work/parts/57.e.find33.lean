theorem zz_817cda9316 {a1 a2 : Int32} (h0 : (a1 ≤ 61) ∧ (a2 ≤ 61)) : a1 ≤ 61 := by simp only [Int32.le_iff_toInt_le, Int32.lt_iff_toInt_lt, ← Int32.toInt_inj, ne_eq] at *; have l0 : (61 : Int32).toInt = 61 := (by decide); omega
theorem zz_ad82027edc {a1 a2 : Int32} (h0 : (a1 ≤ 61) ∧ (a2 ≤ 61)) : a2 ≤ 61 := by simp only [Int32.le_iff_toInt_le, Int32.lt_iff_toInt_lt, ← Int32.toInt_inj, ne_eq] at *; have l0 : (61 : Int32).toInt = 61 := (by decide); omega
theorem zz_b5c81fa1d2 {a1 a2 : Int32} (h0 : a1 = a2) (h1 : 0 ≤ a2) : -1 ≤ a1 := by simp only [Int32.le_iff_toInt_le, Int32.lt_iff_toInt_lt, ← Int32.toInt_inj, ne_eq] at *; have l0 : (0 : Int32).toInt = 0 := (by decide); have l1 : (-1 : Int32).toInt = -1 := (by decide); omega
theorem zz_7aca8e1cab {a1 a2 a3 a4 : Int32} (h0 : (a1 = -1) ∨ ((a2 ≤ a1) ∧ (a1 ≤ a3))) (h1 : a3 = a4) (h2 : (0 ≤ a4) ∧ (a4 ≤ 60)) : a1 ≤ 60 := by simp only [Int32.le_iff_toInt_le, Int32.lt_iff_toInt_lt, ← Int32.toInt_inj, ne_eq] at *; have l0 : (-1 : Int32).toInt = -1 := (by decide); have l1 : (0 : Int32).toInt = 0 := (by decide); have l2 : (60 : Int32).toInt = 60 := (by decide); omega
theorem zz_6a8095e9b8 {a1 a2 : Int32} (h0 : a1 = a2) : a1 = a2 := by simp only [Int32.le_iff_toInt_le, Int32.lt_iff_toInt_lt, ← Int32.toInt_inj, ne_eq] at *; omega
theorem zz_951e198bf3 {a1 a2 a3 a4 a5 : Int32} (h0 : a1 = a2) (h1 : (a3 = -1) ∨ ((a4 ≤ a3) ∧ (a3 ≤ a5))) (h2 : a2 = a3) (h3 : 0 ≤ a3) : (a4 ≤ a1) ∧ (a1 ≤ a5) := by simp only [Int32.le_iff_toInt_le, Int32.lt_iff_toInt_lt, ← Int32.toInt_inj, ne_eq] at *; have l0 : (-1 : Int32).toInt = -1 := (by decide); have l1 : (0 : Int32).toInt = 0 := (by decide); omega
theorem zz_665c3f140e {a1 a2 : Int32} (h0 : a1 = a2) (h1 : 0 ≤ a2) : a1 ≠ -1 := by simp only [Int32.le_iff_toInt_le, Int32.lt_iff_toInt_lt, ← Int32.toInt_inj, ne_eq] at *; have l0 : (0 : Int32).toInt = 0 := (by decide); have l1 : (-1 : Int32).toInt = -1 := (by decide); omega
theorem zz_11970d23e9 {a1 a2 : Int32} (h0 : 0 ≤ a1) (h1 : a1 ≤ a2) (h2 : (0 ≤ a2) ∧ (a2 ≤ 60)) : a1 + 1 = a1 + 1 := by lia
theorem zz_98833744c9 {a1 : Int32} (h0 : ¬ (0 < a1)) : a1 ≤ 60 := by simp only [Int32.le_iff_toInt_le, Int32.lt_iff_toInt_lt, ← Int32.toInt_inj, ne_eq] at *; have l0 : (0 : Int32).toInt = 0 := (by decide); have l1 : (60 : Int32).toInt = 60 := (by decide); omega
theorem zz_d5d7d28dcc {a1 a2 : Int32} (h0 : a1 = a2 + 1) (h1 : 0 ≤ a2) (h2 : ¬ (0 < a2)) : 0 ≤ a1 := by simp only [Int32.le_iff_toInt_le, Int32.lt_iff_toInt_lt, ← Int32.toInt_inj, ne_eq] at *; have b0 := Int32.le_toInt a2; have c0 := Int32.toInt_lt a2; have l0 : (1 : Int32).toInt = 1 := (by decide); have l1 : (0 : Int32).toInt = 0 := (by decide); have s0 : (a2 + 1).toInt = a2.toInt + 1 := q_tA (by decide) (by omega) (by omega); omega
theorem zz_441886b917 {a1 a2 : Int32} (h0 : a1 = a2 + 1) (h1 : ¬ (0 < a2)) (h2 : 0 ≤ a2) : a1 ≤ 61 := by simp only [Int32.le_iff_toInt_le, Int32.lt_iff_toInt_lt, ← Int32.toInt_inj, ne_eq] at *; have b0 := Int32.le_toInt a2; have c0 := Int32.toInt_lt a2; have l0 : (1 : Int32).toInt = 1 := (by decide); have l1 : (0 : Int32).toInt = 0 := (by decide); have l2 : (61 : Int32).toInt = 61 := (by decide); have s0 : (a2 + 1).toInt = a2.toInt + 1 := q_tA (by decide) (by omega) (by omega); omega
theorem zz_befab0f0ea {a1 a2 a3 a4 : Int32} (h0 : a1 ≤ a2) (h1 : a3 ≤ a1 + 1) (h2 : a4 = a2 + 1) (h3 : 0 ≤ a2) (h4 : ¬ (0 < a2)) (h5 : -100000 ≤ a1) (h6 : a1 ≤ 100000) : a3 ≤ a4 := by simp only [Int32.le_iff_toInt_le, Int32.lt_iff_toInt_lt, ← Int32.toInt_inj, ne_eq] at *; have b0 := Int32.le_toInt a1; have c0 := Int32.toInt_lt a1; have b1 := Int32.le_toInt a2; have c1 := Int32.toInt_lt a2; have l0 : (1 : Int32).toInt = 1 := (by decide); have l1 : (0 : Int32).toInt = 0 := (by decide); have l2 : (-100000 : Int32).toInt = -100000 := (by decide); have l3 : (100000 : Int32).toInt = 100000 := (by decide); have s0 : (a1 + 1).toInt = a1.toInt + 1 := q_tA (by decide) (by omega) (by omega); have s1 : (a2 + 1).toInt = a2.toInt + 1 := q_tA (by decide) (by omega) (by omega); omega
theorem zz_bc1f93664b {a1 a2 a3 a4 : Int32} (h0 : (a1 ≤ a2) ∧ (a2 ≤ a3)) (h1 : a3 = a4) : (a1 ≤ a2) ∧ (a2 ≤ a4) := by simp only [Int32.le_iff_toInt_le, Int32.lt_iff_toInt_lt, ← Int32.toInt_inj, ne_eq] at *; omega
theorem zz_365f451b92 {a1 a2 : Int32} (h0 : ¬ (a1 < a2)) (h1 : (0 ≤ a1) ∧ (a1 ≤ 60)) : a2 ≤ 60 := by simp only [Int32.le_iff_toInt_le, Int32.lt_iff_toInt_lt, ← Int32.toInt_inj, ne_eq] at *; have l0 : (0 : Int32).toInt = 0 := (by decide); have l1 : (60 : Int32).toInt = 60 := (by decide); omega
theorem zz_8420840741 {a1 a2 : Int32} (h0 : a1 = a2 + 1) (h1 : 0 ≤ a2) (h2 : a2 ≤ 61) : 0 ≤ a1 := by simp only [Int32.le_iff_toInt_le, Int32.lt_iff_toInt_lt, ← Int32.toInt_inj, ne_eq] at *; have b0 := Int32.le_toInt a2; have c0 := Int32.toInt_lt a2; have l0 : (1 : Int32).toInt = 1 := (by decide); have l1 : (0 : Int32).toInt = 0 := (by decide); have l2 : (61 : Int32).toInt = 61 := (by decide); have s0 : (a2 + 1).toInt = a2.toInt + 1 := q_tA (by decide) (by omega) (by omega); omega
theorem zz_6672033766 {a1 a2 a3 : Int32} (h0 : a1 = a2 + 1) (h1 : ¬ (a3 < a2)) (h2 : (0 ≤ a3) ∧ (a3 ≤ 60)) (h3 : 0 ≤ a2) (h4 : a2 ≤ 61) : a1 ≤ 61 := by simp only [Int32.le_iff_toInt_le, Int32.lt_iff_toInt_lt, ← Int32.toInt_inj, ne_eq] at *; have b0 := Int32.le_toInt a2; have c0 := Int32.toInt_lt a2; have l0 : (1 : Int32).toInt = 1 := (by decide); have l1 : (0 : Int32).toInt = 0 := (by decide); have l2 : (60 : Int32).toInt = 60 := (by decide); have l3 : (61 : Int32).toInt = 61 := (by decide); have s0 : (a2 + 1).toInt = a2.toInt + 1 := q_tA (by decide) (by omega) (by omega); omega
theorem zz_a4cecae138 {a1 a2 a3 a4 : Int32} (h0 : a1 ≤ a2) (h1 : a3 ≤ a1 + 1) (h2 : a4 = a2 + 1) (h3 : 0 ≤ a2) (h4 : a2 ≤ 61) (h5 : -100000 ≤ a1) (h6 : a1 ≤ 100000) : a3 ≤ a4 := by simp only [Int32.le_iff_toInt_le, Int32.lt_iff_toInt_lt, ← Int32.toInt_inj, ne_eq] at *; have b0 := Int32.le_toInt a1; have c0 := Int32.toInt_lt a1; have b1 := Int32.le_toInt a2; have c1 := Int32.toInt_lt a2; have l0 : (1 : Int32).toInt = 1 := (by decide); have l1 : (0 : Int32).toInt = 0 := (by decide); have l2 : (61 : Int32).toInt = 61 := (by decide); have l3 : (-100000 : Int32).toInt = -100000 := (by decide); have l4 : (100000 : Int32).toInt = 100000 := (by decide); have s0 : (a1 + 1).toInt = a1.toInt + 1 := q_tA (by decide) (by omega) (by omega); have s1 : (a2 + 1).toInt = a2.toInt + 1 := q_tA (by decide) (by omega) (by omega); omega
set_option maxHeartbeats 2000000 in
theorem p_Mod_find_33_n {L : q_L} {W : Nat → Prop} {h0 : z_H} {π : Nat → Nat → Option Nat} {N : Nat} {Q : Int32 × z_H → Prop} {k9 : Nat → Int32 → Int32 → Int32 → z_H → Option (Int32 × z_H)} {lo : Nat → Int32} (hqn : q_Q lo 62) : ∀ (n : Nat) (v0 : Nat) (v1 : Int32) (v3 : Int32) (v4 : Int32) (v5 : Int32) (v6 : Int32) (v7 : Int32) (v8 : Int32) (v9 : Int32) (h : z_H), q_U L W h0 π h → q_M L π v0 → (∀ a, v0 ≤ a → a < v0 + 46 → W a) → (q_PM h v0 v1) → (0 ≤ v1) → (v1 < 260) → (0 ≤ v4) → (v4 ≤ vI h v0 54) → (v5 = -1 ∨ (v4 ≤ v5 ∧ v5 ≤ vI h v0 54)) → (v6 ≤ 61 ∧ v7 ≤ 61) → (0 ≤ v5 → q_WY N v0 v1 v4 v6 v7 h v5) → (0 ≤ v9) → (v9 ≤ 61) → (100000 ≤ N) → (lo n ≤ v9) → (∀ (x4 : Int32) (h1 : z_H), q_U L W h0 π h1 → (∀ a k, ¬ (a = v0 ∧ (k = 55)) → vI h1 a k = vI h a k) → (∀ a j, 0 ≤ j → ¬ (a = v0 + 37 ∨ a = v0 + 38) → vA h1 a j = vA h a j) → (q_rst v0 h1 = q_rst v0 h) → (x4 = v4 + 1) → qk (k9 v0 v1 v3 x4 h1) Q) → (∀ (y : Int32) (h1 : z_H), q_U L W h0 π h1 → (y = 1) → (∀ a k, ¬ (a = v0 ∧ (k = 55 ∨ k = 56 ∨ k = 57)) → vI h1 a k = vI h a k) → (∀ a j, 0 ≤ j → ¬ (a = v0 + 37 ∨ a = v0 + 38) → vA h1 a j = vA h a j) → (vI h1 v0 56 = v4) → (v4 ≤ vI h1 v0 57 ∧ vI h1 v0 57 ≤ vI h v0 54) → (q_GS h1 v0) → Q (y, h1)) → qk (f_Mod_find_33 N k9 n v0 v1 v3 v4 v5 v6 v7 v8 v9 h) Q := by
  intro n
  induction n with
  | zero => intro v0 v1 v3 v4 v5 v6 v7 v8 v9 h T kv0 wM PM q0 q1 s0 s1 BB kb BW c0 c1 hN hms hk9 hret; have hz := hqn.1; exact absurd hms (by clear hk9 hret; grind)
  | succ n ih =>
    intro v0 v1 v3 v4 v5 v6 v7 v8 v9 h T kv0 wM PM q0 q1 s0 s1 BB kb BW c0 c1 hN hms hk9 hret
    obtain ⟨hq1, hq2, hq3⟩ := hqn.2 n
    rw [f_Mod_find_33]
    refine qk_if (fun cc1 => ?_) (fun cc1 => ?_)
    · skip
      unfold f_Mod_find_47
      refine qk_if (fun cc3 => ?_) (fun cc3 => ?_)
      · skip
        unfold f_Mod_find_154
        refine qk_if (fun cc5 => ?_) (fun cc5 => ?_)
        · skip
          have o6 := g_Mo_54 T kv0
          refine w_Mo_56 T kv0 (wM _ (by omega) (by omega)) s0 (zz_7a3ca6b785 s1 o6) ?_
          intro h2i4 Th2i4 ih2i4 ah2i4 dh2i4
          refine r_Mo_o Th2i4 kv0 ?_
          have o7 : vI h2i4 v0 54 = vI h v0 54 := (by rw [ih2i4 v0 54, if_neg (fun z => absurd z.2 (by decide))])
          refine c_Mod_way2 (v0 := v0) (v1 := v1) (v2 := v4) (v3 := v6) (v4 := v7) Th2i4 kv0 wM (by exact (q_PM_eq2 PM (by rw [ah2i4 (v0 + 23) v1]) (by rw [ah2i4 (v0 + 24) v1]) (fun j ja _ => (by have j0 := Int32.le_trans PM.1 ja; exact ⟨(by rw [ah2i4 (v0 + 26) j]), (by rw [ah2i4 (v0 + 27) j])⟩)))) q0 q1 s0 (zz_c508abc292 o7 s1) (zz_817cda9316 kb) (zz_ad82027edc kb) hN ?_
          intro yr4i4 hr4i4 Tr4i4 gr4i4_0 gr4i4_1 gr4i4_2 gr4i4_3 gr4i4_4 gr4i4_5
          dsimp only
          have eyr4i4 : yr4i4 = v5 := q_WY_re (BW cc5) dh2i4 gr4i4_5
          refine w_Mo_57 Tr4i4 kv0 (wM _ (by omega) (by omega)) (zz_b5c81fa1d2 eyr4i4 cc5) (zz_7aca8e1cab gr4i4_0 o7 o6) ?_
          intro h5i4 Th5i4 ih5i4 ah5i4
          refine qk_some ?_
          have o8 : vI h5i4 v0 56 = v4 := (by rw [ih5i4 v0 56, if_neg (fun z => absurd z.2 (by decide)), gr4i4_1 v0 56 (by omega), ih2i4 v0 56, if_pos ⟨rfl, rfl⟩])
          have o9 : vI h5i4 v0 57 = yr4i4 := (by rw [ih5i4 v0 57, if_pos ⟨rfl, rfl⟩])
          exact hret 1 h5i4 Th5i4 (by decide) (by show ∀ a k, ¬ (a = v0 ∧ (k = 55 ∨ k = 56 ∨ k = 57)) → vI h5i4 a k = vI h a k; intro a k n0; rw [ih5i4, if_neg (by omega), gr4i4_1 a k (by omega), ih2i4, if_neg (by omega)]) (by show ∀ a j, 0 ≤ j → ¬ (a = v0 + 37 ∨ a = v0 + 38) → vA h5i4 a j = vA h a j; intro a j j0 n0; rw [ah5i4, gr4i4_2 a j j0 (by omega), ah2i4]) (zz_6a8095e9b8 o8) (zz_951e198bf3 o9 BB eyr4i4 cc5) (by show q_GS h5i4 v0; exact q_GS_eq (gr4i4_4 (zz_665c3f140e eyr4i4 cc5)) (fun j j0 => by rw [ah5i4 (v0 + 37) j]) (fun j j0 => by rw [ah5i4 (v0 + 38) j]) (by rw [ih5i4 v0 54, if_neg (fun z => absurd z.2 (by decide))]))
        · skip
          refine qk_bs ?_
          have o10 := g_Mo_54 T kv0
          exact hk9 (v4 + 1) h T (by show ∀ a k, ¬ (a = v0 ∧ (k = 55)) → vI h a k = vI h a k; intro a k n0; rfl) (by show ∀ a j, 0 ≤ j → ¬ (a = v0 + 37 ∨ a = v0 + 38) → vA h a j = vA h a j; intro a j j0 n0; rfl) (by show q_rst v0 h = q_rst v0 h; exact rfl) (zz_11970d23e9 s0 s1 o10)
      · skip
        refine qk_if (fun cc11 => ?_) (fun cc11 => ?_)
        · skip
          unfold f_Mod_find_154
          refine qk_if (fun cc13 => ?_) (fun cc13 => ?_)
          · skip
            have o14 := g_Mo_54 T kv0
            refine w_Mo_56 T kv0 (wM _ (by omega) (by omega)) s0 (zz_7a3ca6b785 s1 o14) ?_
            intro h2i12 Th2i12 ih2i12 ah2i12 dh2i12
            refine r_Mo_o Th2i12 kv0 ?_
            have o15 : vI h2i12 v0 54 = vI h v0 54 := (by rw [ih2i12 v0 54, if_neg (fun z => absurd z.2 (by decide))])
            refine c_Mod_way2 (v0 := v0) (v1 := v1) (v2 := v4) (v3 := v6) (v4 := v7) Th2i12 kv0 wM (by exact (q_PM_eq2 PM (by rw [ah2i12 (v0 + 23) v1]) (by rw [ah2i12 (v0 + 24) v1]) (fun j ja _ => (by have j0 := Int32.le_trans PM.1 ja; exact ⟨(by rw [ah2i12 (v0 + 26) j]), (by rw [ah2i12 (v0 + 27) j])⟩)))) q0 q1 s0 (zz_c508abc292 o15 s1) (zz_817cda9316 kb) (zz_ad82027edc kb) hN ?_
            intro yr4i12 hr4i12 Tr4i12 gr4i12_0 gr4i12_1 gr4i12_2 gr4i12_3 gr4i12_4 gr4i12_5
            dsimp only
            have eyr4i12 : yr4i12 = v5 := q_WY_re (BW cc13) dh2i12 gr4i12_5
            refine w_Mo_57 Tr4i12 kv0 (wM _ (by omega) (by omega)) (zz_b5c81fa1d2 eyr4i12 cc13) (zz_7aca8e1cab gr4i12_0 o15 o14) ?_
            intro h5i12 Th5i12 ih5i12 ah5i12
            refine qk_some ?_
            have o16 : vI h5i12 v0 56 = v4 := (by rw [ih5i12 v0 56, if_neg (fun z => absurd z.2 (by decide)), gr4i12_1 v0 56 (by omega), ih2i12 v0 56, if_pos ⟨rfl, rfl⟩])
            have o17 : vI h5i12 v0 57 = yr4i12 := (by rw [ih5i12 v0 57, if_pos ⟨rfl, rfl⟩])
            exact hret 1 h5i12 Th5i12 (by decide) (by show ∀ a k, ¬ (a = v0 ∧ (k = 55 ∨ k = 56 ∨ k = 57)) → vI h5i12 a k = vI h a k; intro a k n0; rw [ih5i12, if_neg (by omega), gr4i12_1 a k (by omega), ih2i12, if_neg (by omega)]) (by show ∀ a j, 0 ≤ j → ¬ (a = v0 + 37 ∨ a = v0 + 38) → vA h5i12 a j = vA h a j; intro a j j0 n0; rw [ah5i12, gr4i12_2 a j j0 (by omega), ah2i12]) (zz_6a8095e9b8 o16) (zz_951e198bf3 o17 BB eyr4i12 cc13) (by show q_GS h5i12 v0; exact q_GS_eq (gr4i12_4 (zz_665c3f140e eyr4i12 cc13)) (fun j j0 => by rw [ah5i12 (v0 + 37) j]) (fun j j0 => by rw [ah5i12 (v0 + 38) j]) (by rw [ih5i12 v0 54, if_neg (fun z => absurd z.2 (by decide))]))
          · skip
            refine qk_bs ?_
            have o18 := g_Mo_54 T kv0
            exact hk9 (v4 + 1) h T (by show ∀ a k, ¬ (a = v0 ∧ (k = 55)) → vI h a k = vI h a k; intro a k n0; rfl) (by show ∀ a j, 0 ≤ j → ¬ (a = v0 + 37 ∨ a = v0 + 38) → vA h a j = vA h a j; intro a j j0 n0; rfl) (by show q_rst v0 h = q_rst v0 h; exact rfl) (zz_11970d23e9 s0 s1 o18)
        · skip
          refine p_Mod_find_61 (v0 := v0) (v1 := v1) (v3 := v3) (v4 := v4) (v5 := v5) (v6 := v6) (v7 := v7) (v8 := v8) (v9 := v9) (v10 := 1) (v11 := 0) T kv0 wM (by exact PM) q0 q1 s0 s1 (zz_ec74f043d4 BB) (zz_b8e25cf4e7 kb) (by exact BW) c0 (zz_98833744c9 cc3) (by decide) (by decide) hN ?_
          · intro x5_w19 x6_w19 x7_w19 x8_w19 x9_w19 h_w19 Tw19 gw19_0 gw19_1 gw19_2 gw19_3 gw19_4 gw19_5 gw19_6
            have o20 : vI h_w19 v0 54 = vI h v0 54 := (by rw [gw19_0 v0 54 (by omega)])
            refine ih (v0) (v1) (v3) (v4) (x5_w19) (x6_w19) (x7_w19) (x8_w19) (x9_w19) h_w19 Tw19 kv0 wM (by exact (q_PM_eq2 PM (by rw [gw19_1 (v0 + 23) v1 q0 (by omega)]) (by rw [gw19_1 (v0 + 24) v1 q0 (by omega)]) (fun j ja _ => (by have j0 := Int32.le_trans PM.1 ja; exact ⟨(by rw [gw19_1 (v0 + 26) j j0 (by omega)]), (by rw [gw19_1 (v0 + 27) j j0 (by omega)])⟩)))) q0 q1 s0 (zz_c508abc292 o20 s1) (zz_517f455e9a o20 gw19_4) (zz_b8e25cf4e7 gw19_5) (by exact gw19_6) (zz_d5d7d28dcc gw19_3 c0 cc3) (zz_441886b917 gw19_3 cc3 c0) hN (zz_befab0f0ea hms hq1 gw19_3 c0 cc3 hq2 hq3) ?_ ?_
            · intro x4_w21 h_w21 Tw21 gw21_0 gw21_1 gw21_2 gw21_3
              exact hk9 x4_w21 h_w21 Tw21 (by show ∀ a k, ¬ (a = v0 ∧ (k = 55)) → vI h_w21 a k = vI h a k; intro a k n0; rw [gw21_0 a k (by omega), gw19_0 a k (by omega)]) (by show ∀ a j, 0 ≤ j → ¬ (a = v0 + 37 ∨ a = v0 + 38) → vA h_w21 a j = vA h a j; intro a j j0 n0; rw [gw21_1 a j j0 (by omega), gw19_1 a j j0 (by omega)]) (by show q_rst v0 h_w21 = q_rst v0 h; exact (gw21_2).trans (gw19_2)) gw21_3
            · intro y_w22 h_w22 Tw22 gw22_0 gw22_1 gw22_2 gw22_3 gw22_4 gw22_5
              exact hret y_w22 h_w22 Tw22 gw22_0 (by show ∀ a k, ¬ (a = v0 ∧ (k = 55 ∨ k = 56 ∨ k = 57)) → vI h_w22 a k = vI h a k; intro a k n0; rw [gw22_1 a k (by omega), gw19_0 a k (by omega)]) (by show ∀ a j, 0 ≤ j → ¬ (a = v0 + 37 ∨ a = v0 + 38) → vA h_w22 a j = vA h a j; intro a j j0 n0; rw [gw22_2 a j j0 (by omega), gw19_1 a j j0 (by omega)]) gw22_3 (zz_bc1f93664b gw22_4 o20) (by show q_GS h_w22 v0; exact gw22_5)
    · skip
      refine r_Mo_54 T kv0 ?_
      intro x2 ex2 lx2 ux2
      subst ex2
      unfold f_Mod_find_47
      refine qk_if (fun cc24 => ?_) (fun cc24 => ?_)
      · skip
        unfold f_Mod_find_154
        refine qk_if (fun cc26 => ?_) (fun cc26 => ?_)
        · skip
          have o27 := g_Mo_54 T kv0
          refine w_Mo_56 T kv0 (wM _ (by omega) (by omega)) s0 (zz_7a3ca6b785 s1 o27) ?_
          intro h2i25 Th2i25 ih2i25 ah2i25 dh2i25
          refine r_Mo_o Th2i25 kv0 ?_
          have o28 : vI h2i25 v0 54 = vI h v0 54 := (by rw [ih2i25 v0 54, if_neg (fun z => absurd z.2 (by decide))])
          refine c_Mod_way2 (v0 := v0) (v1 := v1) (v2 := v4) (v3 := v6) (v4 := v7) Th2i25 kv0 wM (by exact (q_PM_eq2 PM (by rw [ah2i25 (v0 + 23) v1]) (by rw [ah2i25 (v0 + 24) v1]) (fun j ja _ => (by have j0 := Int32.le_trans PM.1 ja; exact ⟨(by rw [ah2i25 (v0 + 26) j]), (by rw [ah2i25 (v0 + 27) j])⟩)))) q0 q1 s0 (zz_c508abc292 o28 s1) (zz_817cda9316 kb) (zz_ad82027edc kb) hN ?_
          intro yr4i25 hr4i25 Tr4i25 gr4i25_0 gr4i25_1 gr4i25_2 gr4i25_3 gr4i25_4 gr4i25_5
          dsimp only
          have eyr4i25 : yr4i25 = v5 := q_WY_re (BW cc26) dh2i25 gr4i25_5
          refine w_Mo_57 Tr4i25 kv0 (wM _ (by omega) (by omega)) (zz_b5c81fa1d2 eyr4i25 cc26) (zz_7aca8e1cab gr4i25_0 o28 o27) ?_
          intro h5i25 Th5i25 ih5i25 ah5i25
          refine qk_some ?_
          have o29 : vI h5i25 v0 56 = v4 := (by rw [ih5i25 v0 56, if_neg (fun z => absurd z.2 (by decide)), gr4i25_1 v0 56 (by omega), ih2i25 v0 56, if_pos ⟨rfl, rfl⟩])
          have o30 : vI h5i25 v0 57 = yr4i25 := (by rw [ih5i25 v0 57, if_pos ⟨rfl, rfl⟩])
          exact hret 1 h5i25 Th5i25 (by decide) (by show ∀ a k, ¬ (a = v0 ∧ (k = 55 ∨ k = 56 ∨ k = 57)) → vI h5i25 a k = vI h a k; intro a k n0; rw [ih5i25, if_neg (by omega), gr4i25_1 a k (by omega), ih2i25, if_neg (by omega)]) (by show ∀ a j, 0 ≤ j → ¬ (a = v0 + 37 ∨ a = v0 + 38) → vA h5i25 a j = vA h a j; intro a j j0 n0; rw [ah5i25, gr4i25_2 a j j0 (by omega), ah2i25]) (zz_6a8095e9b8 o29) (zz_951e198bf3 o30 BB eyr4i25 cc26) (by show q_GS h5i25 v0; exact q_GS_eq (gr4i25_4 (zz_665c3f140e eyr4i25 cc26)) (fun j j0 => by rw [ah5i25 (v0 + 37) j]) (fun j j0 => by rw [ah5i25 (v0 + 38) j]) (by rw [ih5i25 v0 54, if_neg (fun z => absurd z.2 (by decide))]))
        · skip
          refine qk_bs ?_
          have o31 := g_Mo_54 T kv0
          exact hk9 (v4 + 1) h T (by show ∀ a k, ¬ (a = v0 ∧ (k = 55)) → vI h a k = vI h a k; intro a k n0; rfl) (by show ∀ a j, 0 ≤ j → ¬ (a = v0 + 37 ∨ a = v0 + 38) → vA h a j = vA h a j; intro a j j0 n0; rfl) (by show q_rst v0 h = q_rst v0 h; exact rfl) (zz_11970d23e9 s0 s1 o31)
      · skip
        refine qk_if (fun cc32 => ?_) (fun cc32 => ?_)
        · skip
          unfold f_Mod_find_154
          refine qk_if (fun cc34 => ?_) (fun cc34 => ?_)
          · skip
            have o35 := g_Mo_54 T kv0
            refine w_Mo_56 T kv0 (wM _ (by omega) (by omega)) s0 (zz_7a3ca6b785 s1 o35) ?_
            intro h2i33 Th2i33 ih2i33 ah2i33 dh2i33
            refine r_Mo_o Th2i33 kv0 ?_
            have o36 : vI h2i33 v0 54 = vI h v0 54 := (by rw [ih2i33 v0 54, if_neg (fun z => absurd z.2 (by decide))])
            refine c_Mod_way2 (v0 := v0) (v1 := v1) (v2 := v4) (v3 := v6) (v4 := v7) Th2i33 kv0 wM (by exact (q_PM_eq2 PM (by rw [ah2i33 (v0 + 23) v1]) (by rw [ah2i33 (v0 + 24) v1]) (fun j ja _ => (by have j0 := Int32.le_trans PM.1 ja; exact ⟨(by rw [ah2i33 (v0 + 26) j]), (by rw [ah2i33 (v0 + 27) j])⟩)))) q0 q1 s0 (zz_c508abc292 o36 s1) (zz_817cda9316 kb) (zz_ad82027edc kb) hN ?_
            intro yr4i33 hr4i33 Tr4i33 gr4i33_0 gr4i33_1 gr4i33_2 gr4i33_3 gr4i33_4 gr4i33_5
            dsimp only
            have eyr4i33 : yr4i33 = v5 := q_WY_re (BW cc34) dh2i33 gr4i33_5
            refine w_Mo_57 Tr4i33 kv0 (wM _ (by omega) (by omega)) (zz_b5c81fa1d2 eyr4i33 cc34) (zz_7aca8e1cab gr4i33_0 o36 o35) ?_
            intro h5i33 Th5i33 ih5i33 ah5i33
            refine qk_some ?_
            have o37 : vI h5i33 v0 56 = v4 := (by rw [ih5i33 v0 56, if_neg (fun z => absurd z.2 (by decide)), gr4i33_1 v0 56 (by omega), ih2i33 v0 56, if_pos ⟨rfl, rfl⟩])
            have o38 : vI h5i33 v0 57 = yr4i33 := (by rw [ih5i33 v0 57, if_pos ⟨rfl, rfl⟩])
            exact hret 1 h5i33 Th5i33 (by decide) (by show ∀ a k, ¬ (a = v0 ∧ (k = 55 ∨ k = 56 ∨ k = 57)) → vI h5i33 a k = vI h a k; intro a k n0; rw [ih5i33, if_neg (by omega), gr4i33_1 a k (by omega), ih2i33, if_neg (by omega)]) (by show ∀ a j, 0 ≤ j → ¬ (a = v0 + 37 ∨ a = v0 + 38) → vA h5i33 a j = vA h a j; intro a j j0 n0; rw [ah5i33, gr4i33_2 a j j0 (by omega), ah2i33]) (zz_6a8095e9b8 o37) (zz_951e198bf3 o38 BB eyr4i33 cc34) (by show q_GS h5i33 v0; exact q_GS_eq (gr4i33_4 (zz_665c3f140e eyr4i33 cc34)) (fun j j0 => by rw [ah5i33 (v0 + 37) j]) (fun j j0 => by rw [ah5i33 (v0 + 38) j]) (by rw [ih5i33 v0 54, if_neg (fun z => absurd z.2 (by decide))]))
          · skip
            refine qk_bs ?_
            have o39 := g_Mo_54 T kv0
            exact hk9 (v4 + 1) h T (by show ∀ a k, ¬ (a = v0 ∧ (k = 55)) → vI h a k = vI h a k; intro a k n0; rfl) (by show ∀ a j, 0 ≤ j → ¬ (a = v0 + 37 ∨ a = v0 + 38) → vA h a j = vA h a j; intro a j j0 n0; rfl) (by show q_rst v0 h = q_rst v0 h; exact rfl) (zz_11970d23e9 s0 s1 o39)
        · skip
          have o40 := g_Mo_54 T kv0
          refine p_Mod_find_61 (v0 := v0) (v1 := v1) (v3 := v3) (v4 := v4) (v5 := v5) (v6 := v6) (v7 := v7) (v8 := v8) (v9 := v9) (v10 := 1) (v11 := 0) T kv0 wM (by exact PM) q0 q1 s0 s1 (zz_ec74f043d4 BB) (zz_b8e25cf4e7 kb) (by exact BW) c0 (zz_365f451b92 cc24 o40) (by decide) (by decide) hN ?_
          · intro x5_w41 x6_w41 x7_w41 x8_w41 x9_w41 h_w41 Tw41 gw41_0 gw41_1 gw41_2 gw41_3 gw41_4 gw41_5 gw41_6
            have o42 : vI h_w41 v0 54 = vI h v0 54 := (by rw [gw41_0 v0 54 (by omega)])
            refine ih (v0) (v1) (v3) (v4) (x5_w41) (x6_w41) (x7_w41) (x8_w41) (x9_w41) h_w41 Tw41 kv0 wM (by exact (q_PM_eq2 PM (by rw [gw41_1 (v0 + 23) v1 q0 (by omega)]) (by rw [gw41_1 (v0 + 24) v1 q0 (by omega)]) (fun j ja _ => (by have j0 := Int32.le_trans PM.1 ja; exact ⟨(by rw [gw41_1 (v0 + 26) j j0 (by omega)]), (by rw [gw41_1 (v0 + 27) j j0 (by omega)])⟩)))) q0 q1 s0 (zz_c508abc292 o42 s1) (zz_517f455e9a o42 gw41_4) (zz_b8e25cf4e7 gw41_5) (by exact gw41_6) (zz_8420840741 gw41_3 c0 c1) (zz_6672033766 gw41_3 cc24 o40 c0 c1) hN (zz_a4cecae138 hms hq1 gw41_3 c0 c1 hq2 hq3) ?_ ?_
            · intro x4_w43 h_w43 Tw43 gw43_0 gw43_1 gw43_2 gw43_3
              exact hk9 x4_w43 h_w43 Tw43 (by show ∀ a k, ¬ (a = v0 ∧ (k = 55)) → vI h_w43 a k = vI h a k; intro a k n0; rw [gw43_0 a k (by omega), gw41_0 a k (by omega)]) (by show ∀ a j, 0 ≤ j → ¬ (a = v0 + 37 ∨ a = v0 + 38) → vA h_w43 a j = vA h a j; intro a j j0 n0; rw [gw43_1 a j j0 (by omega), gw41_1 a j j0 (by omega)]) (by show q_rst v0 h_w43 = q_rst v0 h; exact (gw43_2).trans (gw41_2)) gw43_3
            · intro y_w44 h_w44 Tw44 gw44_0 gw44_1 gw44_2 gw44_3 gw44_4 gw44_5
              exact hret y_w44 h_w44 Tw44 gw44_0 (by show ∀ a k, ¬ (a = v0 ∧ (k = 55 ∨ k = 56 ∨ k = 57)) → vI h_w44 a k = vI h a k; intro a k n0; rw [gw44_1 a k (by omega), gw41_0 a k (by omega)]) (by show ∀ a j, 0 ≤ j → ¬ (a = v0 + 37 ∨ a = v0 + 38) → vA h_w44 a j = vA h a j; intro a j j0 n0; rw [gw44_2 a j j0 (by omega), gw41_1 a j j0 (by omega)]) gw44_3 (zz_bc1f93664b gw44_4 o42) (by show q_GS h_w44 v0; exact gw44_5)
theorem p_Mod_find_33 {L : q_L} {W : Nat → Prop} {h0 : z_H} {π : Nat → Nat → Option Nat} {N : Nat} {Q : Int32 × z_H → Prop} {k9 : Nat → Int32 → Int32 → Int32 → z_H → Option (Int32 × z_H)} {h : z_H} {v0 : Nat} {v1 : Int32} {v3 : Int32} {v4 : Int32} {v5 : Int32} {v6 : Int32} {v7 : Int32} {v8 : Int32} {v9 : Int32} (T : q_U L W h0 π h) (kv0 : q_M L π v0) (wM : ∀ a, v0 ≤ a → a < v0 + 46 → W a) (PM : q_PM h v0 v1) (q0 : 0 ≤ v1) (q1 : v1 < 260) (s0 : 0 ≤ v4) (s1 : v4 ≤ vI h v0 54) (BB : v5 = -1 ∨ (v4 ≤ v5 ∧ v5 ≤ vI h v0 54)) (kb : v6 ≤ 61 ∧ v7 ≤ 61) (BW : 0 ≤ v5 → q_WY N v0 v1 v4 v6 v7 h v5) (c0 : 0 ≤ v9) (c1 : v9 ≤ 61) (hN : 100000 ≤ N) (hk9 : (∀ (x4 : Int32) (h1 : z_H), q_U L W h0 π h1 → (∀ a k, ¬ (a = v0 ∧ (k = 55)) → vI h1 a k = vI h a k) → (∀ a j, 0 ≤ j → ¬ (a = v0 + 37 ∨ a = v0 + 38) → vA h1 a j = vA h a j) → (q_rst v0 h1 = q_rst v0 h) → (x4 = v4 + 1) → qk (k9 v0 v1 v3 x4 h1) Q)) (hret : (∀ (y : Int32) (h1 : z_H), q_U L W h0 π h1 → (y = 1) → (∀ a k, ¬ (a = v0 ∧ (k = 55 ∨ k = 56 ∨ k = 57)) → vI h1 a k = vI h a k) → (∀ a j, 0 ≤ j → ¬ (a = v0 + 37 ∨ a = v0 + 38) → vA h1 a j = vA h a j) → (vI h1 v0 56 = v4) → (v4 ≤ vI h1 v0 57 ∧ vI h1 v0 57 ≤ vI h v0 54) → (q_GS h1 v0) → Q (y, h1))) : qk (f_Mod_find_33 N k9 N v0 v1 v3 v4 v5 v6 v7 v8 v9 h) Q := by
  have hq := q_qnN hN
  refine p_Mod_find_33_n (q_lo (M := 62) (by decide) (by decide)) N v0 v1 v3 v4 v5 v6 v7 v8 v9 h T kv0 wM PM q0 q1 s0 s1 BB kb BW c0 c1 hN ?_ hk9 hret
  show 62 - q_n N ≤ _
  rw [hq]
  lia
