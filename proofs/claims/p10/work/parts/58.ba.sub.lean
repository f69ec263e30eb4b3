set_option maxHeartbeats 2000000 in
theorem p_Mod_substituted {L : q_L} {W : Nat → Prop} {h0 : z_H} {π : Nat → Nat → Option Nat} {N : Nat} {h : z_H} {v0 : Nat} {v1 : Int32} (T : q_U L W h0 π h) (kv0 : q_M L π v0) (wM : ∀ a, v0 ≤ a → a < v0 + 46 → W a) (s0 : 0 ≤ v1) (s1 : v1 < 80) (PM : q_PM h v0 (vA h (v0 + 9) v1)) (qz : 0 ≤ vA h (v0 + 9) v1) (hN : 100000 ≤ N) : qk (f_Mod_substituted N v0 v1 h) (fun r => q_U L W h0 π r.2 ∧ (∀ a k, ¬ (a = v0 ∧ (k = 6 ∨ k = 76 ∨ k = 69 ∨ k = 67 ∨ k = 54 ∨ k = 55 ∨ k = 56 ∨ k = 57 ∨ k = 65 ∨ k = 73 ∨ k = 74)) → vI r.2 a k = vI h a k) ∧ (∀ a j, 0 ≤ j → ¬ (a = v0 + 36 ∨ a = v0 + 37 ∨ a = v0 + 38 ∨ a = v0 + 41 ∨ a = v0 + 39 ∨ a = v0 + 43) → vA r.2 a j = vA h a j)) := by
  unfold f_Mod_substituted
  refine r_Mo_o T kv0 ?_
  refine c_Mod_takeSpace (v0 := v0) T kv0 wM hN ?_
  intro r2 Tr2 gr2_0 gr2_1 gr2_2
  refine w_Mo_67 Tr2 kv0 (wM _ (by omega) (by omega)) (by show (0 : Int32) ≤ 0; decide) (by show (0 : Int32) ≤ 400; decide) ?_
  intro h3 Th3 ih3 ah3
  refine qk_bs ?_
  refine r_Mo_19 Th3 kv0 ?_
  refine r_Mo_e14 Th3 kv0 s0 s1 ?_
  intro x6 ex6
  have sx6 : (vA h (v0 + 14) v1) = x6 := (ex6.trans (by rw [ah3 (v0 + 14) v1, gr2_1 (v0 + 14) v1 s0 (by omega)])).symm
  subst sx6
  refine qk_if (fun cc1 => ?_) (fun cc1 => ?_)
  · skip
    have o2 : vA h3 (v0 + 9) v1 = vA h (v0 + 9) v1 := (by rw [ah3 (v0 + 9) v1, gr2_1 (v0 + 9) v1 s0 (by omega)])
    have o3 := g_Mo_e9 T kv0 v1
    refine qk_mono (p_Mod_substituted_43 (v0 := v0) (v1 := v1) (v2 := 0) (v3 := ((-1))) (v4 := 0) (v5 := 0) (v6 := 1) (v7 := 1) Th3 kv0 wM s0 s1 (by rw [ah3 (v0 + 9) v1, gr2_1 (v0 + 9) v1 s0 (by omega)]; exact q_PM_run PM qz (fun a j j0 na => by rw [ah3, gr2_1 a j j0 (by omega)])) (zz_98b8d47b41 o2 o3) (by show (0 : Int32) ≤ 0; decide) (by show (0 : Int32) ≤ 61; decide) hN) ?_
    rintro ⟨y, hz⟩ ⟨Tz, g0, g1⟩
    try dsimp only at *
    exact ⟨Tz, (by show ∀ a k, ¬ (a = v0 ∧ (k = 6 ∨ k = 76 ∨ k = 69 ∨ k = 67 ∨ k = 54 ∨ k = 55 ∨ k = 56 ∨ k = 57 ∨ k = 65 ∨ k = 73 ∨ k = 74)) → vI hz a k = vI h a k; intro a k n0; rw [g0 a k (by omega), ih3, if_neg (by omega), gr2_0 a k (by omega)]), (by show ∀ a j, 0 ≤ j → ¬ (a = v0 + 36 ∨ a = v0 + 37 ∨ a = v0 + 38 ∨ a = v0 + 41 ∨ a = v0 + 39 ∨ a = v0 + 43) → vA hz a j = vA h a j; intro a j j0 n0; rw [g1 a j j0 (by omega), ah3, gr2_1 a j j0 (by omega)])⟩
  · skip
    refine r_Mo_19 Th3 kv0 ?_
    refine r_Mo_e14 Th3 kv0 s0 s1 ?_
    intro x9 ex9
    have sx9 : (vA h (v0 + 14) v1) = x9 := (ex9.trans (by rw [ah3 (v0 + 14) v1, gr2_1 (v0 + 14) v1 s0 (by omega)])).symm
    subst sx9
    have o5 : vA h3 (v0 + 9) v1 = vA h (v0 + 9) v1 := (by rw [ah3 (v0 + 9) v1, gr2_1 (v0 + 9) v1 s0 (by omega)])
    have o6 := g_Mo_e9 T kv0 v1
    refine qk_mono (p_Mod_substituted_43 (v0 := v0) (v1 := v1) (v2 := 0) (v3 := ((-1))) (v4 := 0) (v5 := 0) (v6 := (vA h (v0 + 14) v1)) (v7 := 1) Th3 kv0 wM s0 s1 (by rw [ah3 (v0 + 9) v1, gr2_1 (v0 + 9) v1 s0 (by omega)]; exact q_PM_run PM qz (fun a j j0 na => by rw [ah3, gr2_1 a j j0 (by omega)])) (zz_98b8d47b41 o5 o6) (by show (0 : Int32) ≤ 0; decide) (by show (0 : Int32) ≤ 61; decide) hN) ?_
    rintro ⟨y, hz⟩ ⟨Tz, g0, g1⟩
    try dsimp only at *
    exact ⟨Tz, (by show ∀ a k, ¬ (a = v0 ∧ (k = 6 ∨ k = 76 ∨ k = 69 ∨ k = 67 ∨ k = 54 ∨ k = 55 ∨ k = 56 ∨ k = 57 ∨ k = 65 ∨ k = 73 ∨ k = 74)) → vI hz a k = vI h a k; intro a k n0; rw [g0 a k (by omega), ih3, if_neg (by omega), gr2_0 a k (by omega)]), (by show ∀ a j, 0 ≤ j → ¬ (a = v0 + 36 ∨ a = v0 + 37 ∨ a = v0 + 38 ∨ a = v0 + 41 ∨ a = v0 + 39 ∨ a = v0 + 43) → vA hz a j = vA h a j; intro a j j0 n0; rw [g1 a j j0 (by omega), ah3, gr2_1 a j j0 (by omega)])⟩
theorem c_Mod_substituted {L : q_L} {W : Nat → Prop} {h0 : z_H} {π : Nat → Nat → Option Nat} {N : Nat} {h : z_H} {v0 : Nat} {v1 : Int32} {β : Type} {f : Int32 × z_H → Option β} {Q : β → Prop} (T : q_U L W h0 π h) (kv0 : q_M L π v0) (wM : ∀ a, v0 ≤ a → a < v0 + 46 → W a) (s0 : 0 ≤ v1) (s1 : v1 < 80) (PM : q_PM h v0 (vA h (v0 + 9) v1)) (qz : 0 ≤ vA h (v0 + 9) v1) (hN : 100000 ≤ N) (H : ∀ y h', q_U L W h0 π h' → (∀ a k, ¬ (a = v0 ∧ (k = 6 ∨ k = 76 ∨ k = 69 ∨ k = 67 ∨ k = 54 ∨ k = 55 ∨ k = 56 ∨ k = 57 ∨ k = 65 ∨ k = 73 ∨ k = 74)) → vI h' a k = vI h a k) → (∀ a j, 0 ≤ j → ¬ (a = v0 + 36 ∨ a = v0 + 37 ∨ a = v0 + 38 ∨ a = v0 + 41 ∨ a = v0 + 39 ∨ a = v0 + 43) → vA h' a j = vA h a j) → qk (f (y, h')) Q) : qk (z_b (f_Mod_substituted N v0 v1 h) f) Q := by
  refine qk_b (p_Mod_substituted T kv0 wM s0 s1 PM qz hN) ?_
  rintro ⟨y, hz⟩ ⟨Tz, g0, g1⟩
  exact H y hz Tz g0 g1
