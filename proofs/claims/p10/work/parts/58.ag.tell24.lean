theorem zz_7d7f34a60a {a1 a2 : Int32} (h0 : (0 ≤ a1) ∧ (a1 ≤ 600)) (h1 : (0 ≤ a2) ∧ (a2 ≤ 400)) : 0 ≤ a1 + a2 := by simp only [Int32.le_iff_toInt_le, Int32.lt_iff_toInt_lt, ← Int32.toInt_inj, ne_eq] at *; have b0 := Int32.le_toInt a1; have c0 := Int32.toInt_lt a1; have b1 := Int32.le_toInt a2; have c1 := Int32.toInt_lt a2; have l0 : (0 : Int32).toInt = 0 := (by decide); have l1 : (600 : Int32).toInt = 600 := (by decide); have l2 : (400 : Int32).toInt = 400 := (by decide); have s0 : (a1 + a2).toInt = a1.toInt + a2.toInt := q_tA rfl (by omega) (by omega); omega
theorem zz_cf731e403a {a1 a2 : Int32} (h0 : a1 + a2 + 1 ≤ 600) (h1 : (0 ≤ a1) ∧ (a1 ≤ 600)) (h2 : (0 ≤ a2) ∧ (a2 ≤ 400)) : a1 + a2 < 600 := by simp only [Int32.le_iff_toInt_le, Int32.lt_iff_toInt_lt, ← Int32.toInt_inj, ne_eq] at *; have b0 := Int32.le_toInt a1; have c0 := Int32.toInt_lt a1; have b1 := Int32.le_toInt a2; have c1 := Int32.toInt_lt a2; have l0 : (1 : Int32).toInt = 1 := (by decide); have l1 : (600 : Int32).toInt = 600 := (by decide); have l2 : (0 : Int32).toInt = 0 := (by decide); have l3 : (400 : Int32).toInt = 400 := (by decide); have s0 : (a1 + a2).toInt = a1.toInt + a2.toInt := q_tA rfl (by omega) (by omega); have s1 : (a1 + a2 + 1).toInt = (a1 + a2).toInt + 1 := q_tA (by decide) (by omega) (by omega); omega
theorem zz_51ad37376c {a1 a2 : Int32} (h0 : (0 ≤ a1) ∧ (a1 ≤ 600)) (h1 : (0 ≤ a2) ∧ (a2 ≤ 400)) : 0 ≤ a1 + (a2 + 1) := by simp only [Int32.le_iff_toInt_le, Int32.lt_iff_toInt_lt, ← Int32.toInt_inj, ne_eq] at *; have b0 := Int32.le_toInt a2; have c0 := Int32.toInt_lt a2; have b1 := Int32.le_toInt a1; have c1 := Int32.toInt_lt a1; have l0 : (0 : Int32).toInt = 0 := (by decide); have l1 : (600 : Int32).toInt = 600 := (by decide); have l2 : (400 : Int32).toInt = 400 := (by decide); have l3 : (1 : Int32).toInt = 1 := (by decide); have s0 : (a2 + 1).toInt = a2.toInt + 1 := q_tA (by decide) (by omega) (by omega); have s1 : (a1 + (a2 + 1)).toInt = a1.toInt + (a2 + 1).toInt := q_tA rfl (by omega) (by omega); omega
theorem zz_8a80b643c9 {a1 a2 : Int32} (h0 : a1 + a2 + 1 ≤ 600) (h1 : (0 ≤ a1) ∧ (a1 ≤ 600)) (h2 : (0 ≤ a2) ∧ (a2 ≤ 400)) : a1 + (a2 + 1) ≤ 600 := by simp only [Int32.le_iff_toInt_le, Int32.lt_iff_toInt_lt, ← Int32.toInt_inj, ne_eq] at *; have b0 := Int32.le_toInt a1; have c0 := Int32.toInt_lt a1; have b1 := Int32.le_toInt a2; have c1 := Int32.toInt_lt a2; have l0 : (1 : Int32).toInt = 1 := (by decide); have l1 : (600 : Int32).toInt = 600 := (by decide); have l2 : (0 : Int32).toInt = 0 := (by decide); have l3 : (400 : Int32).toInt = 400 := (by decide); have s0 : (a1 + a2).toInt = a1.toInt + a2.toInt := q_tA rfl (by omega) (by omega); have s1 : (a1 + a2 + 1).toInt = (a1 + a2).toInt + 1 := q_tA (by decide) (by omega) (by omega); have s2 : (a2 + 1).toInt = a2.toInt + 1 := q_tA (by decide) (by omega) (by omega); have s3 : (a1 + (a2 + 1)).toInt = a1.toInt + (a2 + 1).toInt := q_tA rfl (by omega) (by omega); omega
theorem zz_30d91ea079 {a1 : Int32}  : ((1 : Int32) = 0) → (a1 = 1) := by lia
theorem zz_f8355d9d90 {a1 a2 : Int32} (h0 : ¬ (a1 ≤ a2)) (h1 : (0 ≤ a1) ∧ (a1 ≤ 400)) : a2 < 400 := by simp only [Int32.le_iff_toInt_le, Int32.lt_iff_toInt_lt, ← Int32.toInt_inj, ne_eq] at *; have l0 : (0 : Int32).toInt = 0 := (by decide); have l1 : (400 : Int32).toInt = 400 := (by decide); omega
theorem zz_97307469c2 {a1 a2 a3 : Int32} (h0 : (0 ≤ a1) ∧ (a1 ≤ 600)) (h1 : 0 ≤ a2) (h2 : (0 ≤ a3) ∧ (a3 ≤ 400)) (h3 : ¬ (a3 ≤ a2)) : 0 ≤ a1 + a2 := by simp only [Int32.le_iff_toInt_le, Int32.lt_iff_toInt_lt, ← Int32.toInt_inj, ne_eq] at *; have b0 := Int32.le_toInt a1; have c0 := Int32.toInt_lt a1; have b1 := Int32.le_toInt a2; have c1 := Int32.toInt_lt a2; have l0 : (0 : Int32).toInt = 0 := (by decide); have l1 : (600 : Int32).toInt = 600 := (by decide); have l2 : (400 : Int32).toInt = 400 := (by decide); have s0 : (a1 + a2).toInt = a1.toInt + a2.toInt := q_tA rfl (by omega) (by omega); omega
theorem zz_ef58f514c3 {a1 a2 a3 : Int32} (h0 : a1 + a2 + 1 ≤ 600) (h1 : ¬ (a2 ≤ a3)) (h2 : (0 ≤ a1) ∧ (a1 ≤ 600)) (h3 : (0 ≤ a2) ∧ (a2 ≤ 400)) (h4 : 0 ≤ a3) : a1 + a3 < 600 := by simp only [Int32.le_iff_toInt_le, Int32.lt_iff_toInt_lt, ← Int32.toInt_inj, ne_eq] at *; have b0 := Int32.le_toInt a1; have c0 := Int32.toInt_lt a1; have b1 := Int32.le_toInt a2; have c1 := Int32.toInt_lt a2; have b2 := Int32.le_toInt a3; have c2 := Int32.toInt_lt a3; have l0 : (1 : Int32).toInt = 1 := (by decide); have l1 : (600 : Int32).toInt = 600 := (by decide); have l2 : (0 : Int32).toInt = 0 := (by decide); have l3 : (400 : Int32).toInt = 400 := (by decide); have s0 : (a1 + a2).toInt = a1.toInt + a2.toInt := q_tA rfl (by omega) (by omega); have s1 : (a1 + a2 + 1).toInt = (a1 + a2).toInt + 1 := q_tA (by decide) (by omega) (by omega); have s2 : (a1 + a3).toInt = a1.toInt + a3.toInt := q_tA rfl (by omega) (by omega); omega
theorem zz_eaa7a03fd3 {a1 : Int32} (h0 : 0 ≤ a1) (h1 : a1 ≤ 400) : 0 ≤ a1 + 1 := by simp only [Int32.le_iff_toInt_le, Int32.lt_iff_toInt_lt, ← Int32.toInt_inj, ne_eq] at *; have b0 := Int32.le_toInt a1; have c0 := Int32.toInt_lt a1; have l0 : (0 : Int32).toInt = 0 := (by decide); have l1 : (400 : Int32).toInt = 400 := (by decide); have l2 : (1 : Int32).toInt = 1 := (by decide); have s0 : (a1 + 1).toInt = a1.toInt + 1 := q_tA (by decide) (by omega) (by omega); omega
theorem zz_9563383bb6 {a1 a2 : Int32} (h0 : ¬ (a1 ≤ a2)) (h1 : (0 ≤ a1) ∧ (a1 ≤ 400)) (h2 : 0 ≤ a2) (h3 : a2 ≤ 400) : a2 + 1 ≤ 400 := by simp only [Int32.le_iff_toInt_le, Int32.lt_iff_toInt_lt, ← Int32.toInt_inj, ne_eq] at *; have b0 := Int32.le_toInt a2; have c0 := Int32.toInt_lt a2; have l0 : (0 : Int32).toInt = 0 := (by decide); have l1 : (400 : Int32).toInt = 400 := (by decide); have l2 : (1 : Int32).toInt = 1 := (by decide); have s0 : (a2 + 1).toInt = a2.toInt + 1 := q_tA (by decide) (by omega) (by omega); omega
theorem zz_63d9202d4a {a1 a2 a3 a4 : Int32} (h0 : a1 = a2) (h1 : a3 = a4) (h2 : a2 + a4 + 1 ≤ 600) (h3 : (0 ≤ a2) ∧ (a2 ≤ 600)) (h4 : (0 ≤ a4) ∧ (a4 ≤ 400)) : a1 + a3 + 1 ≤ 600 := by simp only [Int32.le_iff_toInt_le, Int32.lt_iff_toInt_lt, ← Int32.toInt_inj, ne_eq] at *; have b0 := Int32.le_toInt a2; have c0 := Int32.toInt_lt a2; have b1 := Int32.le_toInt a4; have c1 := Int32.toInt_lt a4; have b2 := Int32.le_toInt a1; have c2 := Int32.toInt_lt a1; have b3 := Int32.le_toInt a3; have c3 := Int32.toInt_lt a3; have l0 : (1 : Int32).toInt = 1 := (by decide); have l1 : (600 : Int32).toInt = 600 := (by decide); have l2 : (0 : Int32).toInt = 0 := (by decide); have l3 : (400 : Int32).toInt = 400 := (by decide); have s0 : (a2 + a4).toInt = a2.toInt + a4.toInt := q_tA rfl (by omega) (by omega); have s1 : (a2 + a4 + 1).toInt = (a2 + a4).toInt + 1 := q_tA (by decide) (by omega) (by omega); have s2 : (a1 + a3).toInt = a1.toInt + a3.toInt := q_tA rfl (by omega) (by omega); have s3 : (a1 + a3 + 1).toInt = (a1 + a3).toInt + 1 := q_tA (by decide) (by omega) (by omega); omega
theorem zz_c243cea632 {a1 a2 a3 : Int32} (h0 : a1 ≤ a2) (h1 : a3 ≤ a1 + 1) (h2 : -100000 ≤ a1) (h3 : a1 ≤ 100000) (h4 : 0 ≤ a2) (h5 : a2 ≤ 400) : a3 ≤ a2 + 1 := by simp only [Int32.le_iff_toInt_le, Int32.lt_iff_toInt_lt, ← Int32.toInt_inj, ne_eq] at *; have b0 := Int32.le_toInt a1; have c0 := Int32.toInt_lt a1; have b1 := Int32.le_toInt a2; have c1 := Int32.toInt_lt a2; have l0 : (1 : Int32).toInt = 1 := (by decide); have l1 : (-100000 : Int32).toInt = -100000 := (by decide); have l2 : (100000 : Int32).toInt = 100000 := (by decide); have l3 : (0 : Int32).toInt = 0 := (by decide); have l4 : (400 : Int32).toInt = 400 := (by decide); have s0 : (a1 + 1).toInt = a1.toInt + 1 := q_tA (by decide) (by omega) (by omega); have s1 : (a2 + 1).toInt = a2.toInt + 1 := q_tA (by decide) (by omega) (by omega); omega
theorem zz_89d5dbace5 {a1 a2 : Int32} (h0 : (a1 = 0) → (a2 = 1)) : (a1 = 0) → (a2 = 1) := by simp only [Int32.le_iff_toInt_le, Int32.lt_iff_toInt_lt, ← Int32.toInt_inj, ne_eq] at *; have l0 : (0 : Int32).toInt = 0 := (by decide); have l1 : (1 : Int32).toInt = 1 := (by decide); omega
set_option maxHeartbeats 1000000 in
theorem p_Mod_tell_24_n {L : q_L} {W : Nat → Prop} {h0 : z_H} {π : Nat → Nat → Option Nat} {N : Nat} {lo : Nat → Int32} (hqn : q_Q lo 401) : ∀ (n : Nat) (v0 : Nat) (v1 : Int32) (h : z_H), q_U L W h0 π h → q_M L π v0 → (∀ a, v0 ≤ a → a < v0 + 46 → W a) → (0 ≤ v1) → (v1 ≤ 400) → (vI h v0 69 + vI h v0 67 + 1 ≤ 600) → (lo n ≤ v1) → qk (f_Mod_tell_24 N  n v0 v1 h) (fun r => q_U L W h0 π r.2 ∧ (r.1 = 0 ∨ r.1 = 1) ∧ (r.1 = 0 → vI r.2 v0 76 = 1) ∧ (∀ a k, ¬ (a = v0 ∧ (k = 6 ∨ k = 76 ∨ k = 69)) → vI r.2 a k = vI h a k) ∧ (∀ a j, 0 ≤ j → ¬ (a = v0 + 43) → vA r.2 a j = vA h a j)) := by
  intro n
  induction n with
  | zero => intro v0 v1 h T kv0 wM a0 a1 o1 hms; have hz := hqn.1; exact absurd hms (by grind)
  | succ n ih =>
    intro v0 v1 h T kv0 wM a0 a1 o1 hms
    obtain ⟨hq1, hq2, hq3⟩ := hqn.2 n
    rw [f_Mod_tell_24]
    refine r_Mo_67 T kv0 ?_
    intro x1 ex1 lx1 ux1
    subst ex1
    refine qk_if (fun cc1 => ?_) (fun cc1 => ?_)
    · skip
      refine r_Mo_62 T kv0 ?_
      refine r_Mo_69 T kv0 ?_
      intro x4 ex4 lx4 ux4
      subst ex4
      refine r_Mo_67 T kv0 ?_
      intro x5 ex5 lx5 ux5
      subst ex5
      have o2 := g_Mo_69 T kv0
      have o3 := g_Mo_67 T kv0
      refine w_Mo_e43 T kv0 (wM _ (by omega) (by omega)) (zz_7d7f34a60a o2 o3) (zz_cf731e403a o1 o2 o3) ?_
      intro h6 Th6 ih6 ah6
      refine r_Mo_69 Th6 kv0 ?_
      intro x7 ex7 lx7 ux7
      have sx7 : (vI h v0 69) = x7 := (ex7.trans (by rw [ih6 v0 69])).symm
      subst sx7
      refine r_Mo_67 Th6 kv0 ?_
      intro x8 ex8 lx8 ux8
      have sx8 : (vI h v0 67) = x8 := (ex8.trans (by rw [ih6 v0 67])).symm
      subst sx8
      refine w_Mo_69 Th6 kv0 (wM _ (by omega) (by omega)) (zz_51ad37376c o2 o3) (zz_8a80b643c9 o1 o2 o3) ?_
      intro h9 Th9 ih9 ah9
      refine qk_some ?_
      exact ⟨Th9, (zz_ee5abc318c), (zz_30d91ea079), (by clear ih; show ∀ a k, ¬ (a = v0 ∧ (k = 6 ∨ k = 76 ∨ k = 69)) → vI h9 a k = vI h a k; intro a k n0; rw [ih9, if_neg (by omega), ih6]), (by clear ih; show ∀ a j, 0 ≤ j → ¬ (a = v0 + 43) → vA h9 a j = vA h a j; intro a j j0 n0; rw [ah9, ah6 a j j0, if_neg (by omega)])⟩
    · skip
      refine r_Mo_62 T kv0 ?_
      refine r_Mo_69 T kv0 ?_
      intro x11 ex11 lx11 ux11
      subst ex11
      refine r_Mo_60 T kv0 ?_
      have o4 := g_Mo_67 T kv0
      refine r_Mo_e41 T kv0 a0 (zz_f8355d9d90 cc1 o4) ?_
      intro x13 ex13
      subst ex13
      have o5 := g_Mo_69 T kv0
      refine w_Mo_e43 T kv0 (wM _ (by omega) (by omega)) (zz_97307469c2 o5 a0 o4 cc1) (zz_ef58f514c3 o1 cc1 o5 o4 a0) ?_
      intro h14 Th14 ih14 ah14
      refine qk_bs ?_
      have o6 : vI h14 v0 69 = vI h v0 69 := (by rw [ih14 v0 69])
      have o7 : vI h14 v0 67 = vI h v0 67 := (by rw [ih14 v0 67])
      refine qk_mono (ih (v0) ((v1 + 1)) h14 Th14 kv0 wM (zz_eaa7a03fd3 a0 a1) (zz_9563383bb6 cc1 o4 a0 a1) (zz_63d9202d4a o6 o7 o1 o5 o4) (zz_c243cea632 hms hq1 hq2 hq3 a0 a1)) ?_
      rintro ⟨y, hz⟩ ⟨Tz, g0, g1, g2, g3⟩
      try dsimp only at *
      exact ⟨Tz, (zz_2eca02bf2d g0), (zz_89d5dbace5 g1), (by clear ih; show ∀ a k, ¬ (a = v0 ∧ (k = 6 ∨ k = 76 ∨ k = 69)) → vI hz a k = vI h a k; intro a k n0; rw [g2 a k (by omega), ih14]), (by clear ih; show ∀ a j, 0 ≤ j → ¬ (a = v0 + 43) → vA hz a j = vA h a j; intro a j j0 n0; rw [g3 a j j0 (by omega), ah14 a j j0, if_neg (by omega)])⟩
theorem p_Mod_tell_24 {L : q_L} {W : Nat → Prop} {h0 : z_H} {π : Nat → Nat → Option Nat} {N : Nat} {h : z_H} {v0 : Nat} {v1 : Int32} (T : q_U L W h0 π h) (kv0 : q_M L π v0) (wM : ∀ a, v0 ≤ a → a < v0 + 46 → W a) (a0 : 0 ≤ v1) (a1 : v1 ≤ 400) (o1 : vI h v0 69 + vI h v0 67 + 1 ≤ 600) (hN : 100000 ≤ N) : qk (f_Mod_tell_24 N  N v0 v1 h) (fun r => q_U L W h0 π r.2 ∧ (r.1 = 0 ∨ r.1 = 1) ∧ (r.1 = 0 → vI r.2 v0 76 = 1) ∧ (∀ a k, ¬ (a = v0 ∧ (k = 6 ∨ k = 76 ∨ k = 69)) → vI r.2 a k = vI h a k) ∧ (∀ a j, 0 ≤ j → ¬ (a = v0 + 43) → vA r.2 a j = vA h a j)) := by
  have hq := q_qnN hN
  refine p_Mod_tell_24_n (q_lo (M := 401) (by decide) (by decide)) N v0 v1 h T kv0 wM a0 a1 o1 ?_ 
  show 401 - q_n N ≤ _
  rw [hq]
  lia
