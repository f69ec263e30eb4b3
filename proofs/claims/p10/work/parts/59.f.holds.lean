set_option maxHeartbeats 1000000 in
theorem p_Mod_holds {L : q_L} {W : Nat → Prop} {h0 : z_H} {π : Nat → Nat → Option Nat} {N : Nat} {h : z_H} {v0 : Nat} {v1 : Int32} (T : q_U L W h0 π h) (kv0 : q_M L π v0) (wM : ∀ a, v0 ≤ a → a < v0 + 46 → W a) (hN : 100000 ≤ N) : qk (f_Mod_holds N v0 v1 h) (fun r => q_U L W h0 π r.2 ∧ (∀ a k, ¬ (a = v0 ∧ (k = 6 ∨ k = 76 ∨ k = 65 ∨ k = 66)) → vI r.2 a k = vI h a k) ∧ (∀ a j, 0 ≤ j → ¬ (a = v0 + 39 ∨ a = v0 + 40) → vA r.2 a j = vA h a j)) := by
  unfold f_Mod_holds
  refine qk_if (fun cc1 => ?_) (fun cc1 => ?_)
  · skip
    refine qk_mono (p_Mod_holds_8 (v0 := v0) (v2 := 0) T kv0 wM (by show (0 : Int32) ≤ 0; decide) (by show (0 : Int32) ≤ 64; decide) hN) ?_
    rintro ⟨y, hz⟩ ⟨Tz, g0, g1⟩
    try dsimp only at *
    exact ⟨Tz, (by show ∀ a k, ¬ (a = v0 ∧ (k = 6 ∨ k = 76 ∨ k = 65 ∨ k = 66)) → vI hz a k = vI h a k; intro a k n0; rw [g0 a k (by omega)]), (by show ∀ a j, 0 ≤ j → ¬ (a = v0 + 39 ∨ a = v0 + 40) → vA hz a j = vA h a j; intro a j j0 n0; rw [g1 a j j0 (by omega)])⟩
  · skip
    refine qk_if (fun cc3 => ?_) (fun cc3 => ?_)
    · skip
      refine qk_mono (p_Mod_holds_53 (v0 := v0) (v2 := 0) T kv0 wM (by show (0 : Int32) ≤ 0; decide) (by show (0 : Int32) ≤ 64; decide) hN) ?_
      rintro ⟨y, hz⟩ ⟨Tz, g0, g1⟩
      try dsimp only at *
      exact ⟨Tz, (by show ∀ a k, ¬ (a = v0 ∧ (k = 6 ∨ k = 76 ∨ k = 65 ∨ k = 66)) → vI hz a k = vI h a k; intro a k n0; rw [g0 a k (by omega)]), (by show ∀ a j, 0 ≤ j → ¬ (a = v0 + 39 ∨ a = v0 + 40) → vA hz a j = vA h a j; intro a j j0 n0; rw [g1 a j j0 (by omega)])⟩
    · skip
      refine qk_if (fun cc5 => ?_) (fun cc5 => ?_)
      · skip
        refine qk_mono (p_Mod_holds_98 (v0 := v0) (v2 := 0) T kv0 wM (by show (0 : Int32) ≤ 0; decide) (by show (0 : Int32) ≤ 64; decide) hN) ?_
        rintro ⟨y, hz⟩ ⟨Tz, g0, g1⟩
        try dsimp only at *
        exact ⟨Tz, (by show ∀ a k, ¬ (a = v0 ∧ (k = 6 ∨ k = 76 ∨ k = 65 ∨ k = 66)) → vI hz a k = vI h a k; intro a k n0; rw [g0 a k (by omega)]), (by show ∀ a j, 0 ≤ j → ¬ (a = v0 + 39 ∨ a = v0 + 40) → vA hz a j = vA h a j; intro a j j0 n0; rw [g1 a j j0 (by omega)])⟩
      · skip
        refine r_Mo_65 T kv0 ?_
        intro x4 ex4 lx4 ux4
        subst ex4
        refine r_Mo_66 T kv0 ?_
        intro x5 ex5 lx5 ux5
        subst ex5
        refine qk_if (fun cc7 => ?_) (fun cc7 => ?_)
        · skip
          refine qk_if (fun cc8 => ?_) (fun cc8 => ?_)
          · skip
            refine r_Mo_59 T kv0 ?_
            refine r_Mo_66 T kv0 ?_
            intro x12 ex12 lx12 ux12
            subst ex12
            have o9 := g_Mo_66 T kv0
            refine w_Mo_e40 T kv0 (wM _ (by omega) (by omega)) lx12 (zz_4df39e1e3c o9) ?_
            intro h13 Th13 ih13 ah13
            have o10 : vI h13 v0 65 = vI h v0 65 := (by rw [ih13 v0 65])
            have o11 : vI h13 v0 66 = vI h v0 66 := (by rw [ih13 v0 66])
            have o12 := g_Mo_65 T kv0
            refine qk_mono (p_Mod_holds_197 (v0 := v0) (v2 := 0) Th13 kv0 wM (by show (0 : Int32) ≤ 0; decide) (by show (0 : Int32) ≤ 64; decide) (zz_9ee744a955 o10 o11 cc7 o12 o9) hN) ?_
            rintro ⟨y, hz⟩ ⟨Tz, g0, g1⟩
            try dsimp only at *
            exact ⟨Tz, (by show ∀ a k, ¬ (a = v0 ∧ (k = 6 ∨ k = 76 ∨ k = 65 ∨ k = 66)) → vI hz a k = vI h a k; intro a k n0; rw [g0 a k (by omega), ih13]), (by show ∀ a j, 0 ≤ j → ¬ (a = v0 + 39 ∨ a = v0 + 40) → vA hz a j = vA h a j; intro a j j0 n0; rw [g1 a j j0 (by omega), ah13 a j j0, if_neg (by omega)])⟩
          · skip
            refine r_Mo_58 T kv0 ?_
            refine r_Mo_65 T kv0 ?_
            intro x9 ex9 lx9 ux9
            subst ex9
            have o14 := g_Mo_65 T kv0
            refine w_Mo_e39 T kv0 (wM _ (by omega) (by omega)) lx9 (zz_4df39e1e3c o14) ?_
            intro h10 Th10 ih10 ah10
            have o15 : vI h10 v0 65 = vI h v0 65 := (by rw [ih10 v0 65])
            have o16 : vI h10 v0 66 = vI h v0 66 := (by rw [ih10 v0 66])
            have o17 := g_Mo_66 T kv0
            refine qk_mono (p_Mod_holds_261 (v0 := v0) (v2 := 0) Th10 kv0 wM (by show (0 : Int32) ≤ 0; decide) (by show (0 : Int32) ≤ 64; decide) (zz_9ee744a955 o15 o16 cc7 o14 o17) hN) ?_
            rintro ⟨y, hz⟩ ⟨Tz, g0, g1⟩
            try dsimp only at *
            exact ⟨Tz, (by show ∀ a k, ¬ (a = v0 ∧ (k = 6 ∨ k = 76 ∨ k = 65 ∨ k = 66)) → vI hz a k = vI h a k; intro a k n0; rw [g0 a k (by omega), ih10]), (by show ∀ a j, 0 ≤ j → ¬ (a = v0 + 39 ∨ a = v0 + 40) → vA hz a j = vA h a j; intro a j j0 n0; rw [g1 a j j0 (by omega), ah10 a j j0, if_neg (by omega)])⟩
        · skip
          refine r_Mo_o T kv0 ?_
          refine c_Mod_full (v0 := v0) T kv0 wM ?_
          intro yr15 hr15 Tr15 gr15_0 gr15_1 gr15_2 gr15_3
          dsimp only
          refine qk_zB (by first | with_reducible assumption | grind | lia) ?_
          refine qk_some ?_
          exact ⟨Tr15, (by show ∀ a k, ¬ (a = v0 ∧ (k = 6 ∨ k = 76 ∨ k = 65 ∨ k = 66)) → vI hr15 a k = vI h a k; intro a k n0; rw [gr15_1 a k (by omega)]), (by show ∀ a j, 0 ≤ j → ¬ (a = v0 + 39 ∨ a = v0 + 40) → vA hr15 a j = vA h a j; intro a j j0 n0; rw [gr15_2 a j])⟩
theorem c_Mod_holds {L : q_L} {W : Nat → Prop} {h0 : z_H} {π : Nat → Nat → Option Nat} {N : Nat} {h : z_H} {v0 : Nat} {v1 : Int32} {β : Type} {f : Int32 × z_H → Option β} {Q : β → Prop} (T : q_U L W h0 π h) (kv0 : q_M L π v0) (wM : ∀ a, v0 ≤ a → a < v0 + 46 → W a) (hN : 100000 ≤ N) (H : ∀ y h', q_U L W h0 π h' → (∀ a k, ¬ (a = v0 ∧ (k = 6 ∨ k = 76 ∨ k = 65 ∨ k = 66)) → vI h' a k = vI h a k) → (∀ a j, 0 ≤ j → ¬ (a = v0 + 39 ∨ a = v0 + 40) → vA h' a j = vA h a j) → qk (f (y, h')) Q) : qk (z_b (f_Mod_holds N v0 v1 h) f) Q := by
  refine qk_b (p_Mod_holds T kv0 wM hN) ?_
  rintro ⟨y, hz⟩ ⟨Tz, g0, g1⟩
  exact H y hz Tz g0 g1
