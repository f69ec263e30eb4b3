theorem zz_46af6162bb {a1 a2 a3 a4 : Int32}  : ((0 : Int32) ≠ 0) → ((a1 ≤ a2) ∧ ((a2 ≤ a3) ∧ (a3 ≤ a4))) := by lia
theorem zz_b367829cfe {a1 a2 : Int32} (h0 : ¬ (a1 < a2)) : a2 ≤ a1 := by simp only [Int32.le_iff_toInt_le, Int32.lt_iff_toInt_lt, ← Int32.toInt_inj, ne_eq] at *; omega
theorem zz_93d30e69fc  : ((0 : Int32) ≤ 61) ∧ ((0 : Int32) ≤ 61) := by lia
theorem zz_2eca02bf2d {a1 : Int32} (h0 : (a1 = 0) ∨ (a1 = 1)) : (a1 = 0) ∨ (a1 = 1) := by simp only [Int32.le_iff_toInt_le, Int32.lt_iff_toInt_lt, ← Int32.toInt_inj, ne_eq] at *; have l0 : (0 : Int32).toInt = 0 := (by decide); have l1 : (1 : Int32).toInt = 1 := (by decide); omega
theorem zz_6b0122e88b {a1 a2 a3 a4 a5 a6 a7 : Int32} (h0 : a1 = a2 + 1) (h1 : (a3 ≠ 0) → ((a1 ≤ a4) ∧ ((a4 ≤ a5) ∧ (a5 ≤ a6)))) (h2 : a6 = a7) (h3 : 0 ≤ a2) (h4 : (0 ≤ a7) ∧ (a7 ≤ 60)) (h5 : ¬ (a7 < a2)) : (a3 ≠ 0) → ((a2 ≤ a4) ∧ ((a4 ≤ a5) ∧ (a5 ≤ a7))) := by simp only [Int32.le_iff_toInt_le, Int32.lt_iff_toInt_lt, ← Int32.toInt_inj, ne_eq] at *; have b0 := Int32.le_toInt a2; have c0 := Int32.toInt_lt a2; have l0 : (1 : Int32).toInt = 1 := (by decide); have l1 : (0 : Int32).toInt = 0 := (by decide); have l2 : (60 : Int32).toInt = 60 := (by decide); have s0 : (a2 + 1).toInt = a2.toInt + 1 := q_tA (by decide) (by omega) (by omega); omega
theorem zz_f9f5b3c16f {a1 : Int32} (h0 : a1 = 1) : (a1 = 0) ∨ (a1 = 1) := by simp only [Int32.le_iff_toInt_le, Int32.lt_iff_toInt_lt, ← Int32.toInt_inj, ne_eq] at *; have l0 : (1 : Int32).toInt = 1 := (by decide); have l1 : (0 : Int32).toInt = 0 := (by decide); omega
theorem zz_425b2628ad {a1 a2 a3 a4 a5 : Int32} (h0 : a1 = a2) (h1 : (a2 ≤ a3) ∧ (a3 ≤ a4)) : (a5 ≠ 0) → ((a2 ≤ a1) ∧ ((a1 ≤ a3) ∧ (a3 ≤ a4))) := by simp only [Int32.le_iff_toInt_le, Int32.lt_iff_toInt_lt, ← Int32.toInt_inj, ne_eq] at *; have l0 : (0 : Int32).toInt = 0 := (by decide); omega
set_option maxHeartbeats 4000000 in
theorem p_Mod_find_9_n {L : q_L} {W : Nat → Prop} {h0 : z_H} {π : Nat → Nat → Option Nat} {N : Nat} {lo : Nat → Int32} (hqn : q_Q lo 62) : ∀ (n : Nat) (v0 : Nat) (v1 : Int32) (v3 : Int32) (v4 : Int32) (h : z_H), q_U L W h0 π h → q_M L π v0 → (∀ a, v0 ≤ a → a < v0 + 46 → W a) → (q_PM h v0 v1) → (0 ≤ v1) → (v1 < 260) → (0 ≤ v4) → (v4 ≤ 61) → (100000 ≤ N) → (lo n ≤ v4) → qk (f_Mod_find_9 N  n v0 v1 v3 v4 h) (fun r => q_U L W h0 π r.2 ∧ (r.1 = 0 ∨ r.1 = 1) ∧ (∀ a k, ¬ (a = v0 ∧ (k = 55 ∨ k = 56 ∨ k = 57)) → vI r.2 a k = vI h a k) ∧ (∀ a j, 0 ≤ j → ¬ (a = v0 + 37 ∨ a = v0 + 38) → vA r.2 a j = vA h a j) ∧ (r.1 ≠ 0 → v4 ≤ vI r.2 v0 56 ∧ vI r.2 v0 56 ≤ vI r.2 v0 57 ∧ vI r.2 v0 57 ≤ vI h v0 54) ∧ (r.1 ≠ 0 → q_GS r.2 v0)) := by
  intro n
  induction n with
  | zero => intro v0 v1 v3 v4 h T kv0 wM PM q0 q1 s0 s2 hN hms; have hz := hqn.1; exact absurd hms (by grind)
  | succ n ih =>
    intro v0 v1 v3 v4 h T kv0 wM PM q0 q1 s0 s2 hN hms
    obtain ⟨hq1, hq2, hq3⟩ := hqn.2 n
    rw [f_Mod_find_9]
    refine r_Mo_54 T kv0 ?_
    intro x1 ex1 lx1 ux1
    subst ex1
    refine qk_if (fun cc1 => ?_) (fun cc1 => ?_)
    · skip
      refine qk_some ?_
      exact ⟨T, (zz_aae670e278), (by clear ih; show ∀ a k, ¬ (a = v0 ∧ (k = 55 ∨ k = 56 ∨ k = 57)) → vI h a k = vI h a k; intro a k n0; rfl), (by clear ih; show ∀ a j, 0 ≤ j → ¬ (a = v0 + 37 ∨ a = v0 + 38) → vA h a j = vA h a j; intro a j j0 n0; rfl), (zz_46af6162bb), (by clear ih; show 0 ≠ 0 → q_GS h v0; exact fun n => absurd rfl n)⟩
    · skip
      refine qk_bs ?_
      refine p_Mod_find_33 (v0 := v0) (v1 := v1) (v3 := v3) (v4 := v4) (v5 := ((-1))) (v6 := 0) (v7 := 0) (v8 := 1) (v9 := 0) T kv0 wM (by clear ih; exact PM) q0 q1 s0 (zz_b367829cfe cc1) (zz_ce0b8b5e68) (zz_93d30e69fc) (by clear ih; exact fun c => absurd c (by decide)) (by decide) (by decide) hN ?_ ?_
      · intro x4_w2 h_w2 Tw2 gw2_0 gw2_1 gw2_2 gw2_3
        have o3 := g_Mo_54 T kv0
        refine qk_mono (ih (v0) (v1) (v3) (x4_w2) h_w2 Tw2 kv0 wM (by clear ih; exact (q_PM_eq2 PM (by rw [gw2_1 (v0 + 23) v1 q0 (by omega)]) (by rw [gw2_1 (v0 + 24) v1 q0 (by omega)]) (fun j ja _ => (by have j0 := Int32.le_trans PM.1 ja; exact ⟨(by rw [gw2_1 (v0 + 26) j j0 (by omega)]), (by rw [gw2_1 (v0 + 27) j j0 (by omega)])⟩)))) q0 q1 (zz_8420840741 gw2_3 s0 s2) (zz_6672033766 gw2_3 cc1 o3 s0 s2) hN (zz_a4cecae138 hms hq1 gw2_3 s0 s2 hq2 hq3)) ?_
        rintro ⟨y, hz⟩ ⟨Tz, g0, g1, g2, g3, g4⟩
        try dsimp only at *
        have o5 : vI h_w2 v0 54 = vI h v0 54 := (by rw [gw2_0 v0 54 (by omega)])
        exact ⟨Tz, (zz_2eca02bf2d g0), (by clear ih; show ∀ a k, ¬ (a = v0 ∧ (k = 55 ∨ k = 56 ∨ k = 57)) → vI hz a k = vI h a k; intro a k n0; rw [g1 a k (by omega), gw2_0 a k (by omega)]), (by clear ih; show ∀ a j, 0 ≤ j → ¬ (a = v0 + 37 ∨ a = v0 + 38) → vA hz a j = vA h a j; intro a j j0 n0; rw [g2 a j j0 (by omega), gw2_1 a j j0 (by omega)]), (zz_6b0122e88b gw2_3 g3 o5 s0 o3 cc1), (by clear ih; show y ≠ 0 → q_GS hz v0; exact g4)⟩
      · intro y_w6 h_w6 Tw6 gw6_0 gw6_1 gw6_2 gw6_3 gw6_4 gw6_5
        exact ⟨Tw6, (zz_f9f5b3c16f gw6_0), (by clear ih; show ∀ a k, ¬ (a = v0 ∧ (k = 55 ∨ k = 56 ∨ k = 57)) → vI h_w6 a k = vI h a k; intro a k n0; rw [gw6_1 a k (by omega)]), (by clear ih; show ∀ a j, 0 ≤ j → ¬ (a = v0 + 37 ∨ a = v0 + 38) → vA h_w6 a j = vA h a j; intro a j j0 n0; rw [gw6_2 a j j0 (by omega)]), (zz_425b2628ad gw6_3 gw6_4), (by clear ih; show y_w6 ≠ 0 → q_GS h_w6 v0; exact fun _ => gw6_5)⟩
theorem p_Mod_find_9 {L : q_L} {W : Nat → Prop} {h0 : z_H} {π : Nat → Nat → Option Nat} {N : Nat} {h : z_H} {v0 : Nat} {v1 : Int32} {v3 : Int32} {v4 : Int32} (T : q_U L W h0 π h) (kv0 : q_M L π v0) (wM : ∀ a, v0 ≤ a → a < v0 + 46 → W a) (PM : q_PM h v0 v1) (q0 : 0 ≤ v1) (q1 : v1 < 260) (s0 : 0 ≤ v4) (s2 : v4 ≤ 61) (hN : 100000 ≤ N) : qk (f_Mod_find_9 N  N v0 v1 v3 v4 h) (fun r => q_U L W h0 π r.2 ∧ (r.1 = 0 ∨ r.1 = 1) ∧ (∀ a k, ¬ (a = v0 ∧ (k = 55 ∨ k = 56 ∨ k = 57)) → vI r.2 a k = vI h a k) ∧ (∀ a j, 0 ≤ j → ¬ (a = v0 + 37 ∨ a = v0 + 38) → vA r.2 a j = vA h a j) ∧ (r.1 ≠ 0 → v4 ≤ vI r.2 v0 56 ∧ vI r.2 v0 56 ≤ vI r.2 v0 57 ∧ vI r.2 v0 57 ≤ vI h v0 54) ∧ (r.1 ≠ 0 → q_GS r.2 v0)) := by
  have hq := q_qnN hN
  refine p_Mod_find_9_n (q_lo (M := 62) (by decide) (by decide)) N v0 v1 v3 v4 h T kv0 wM PM q0 q1 s0 s2 hN ?_ 
  show 62 - q_n N ≤ _
  rw [hq]
  lia
