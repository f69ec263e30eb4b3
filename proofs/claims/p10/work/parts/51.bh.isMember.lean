set_option maxHeartbeats 1000000 in
theorem p_Mod_isMember {L : q_L} {W : Nat → Prop} {h0 : z_H} {π : Nat → Nat → Option Nat} {N : Nat} {h : z_H} {v0 : Nat} (T : q_U L W h0 π h) (kv0 : q_M L π v0) (wM : ∀ a, v0 ≤ a → a < v0 + 46 → W a) : qk (f_Mod_isMember N v0 h) (fun r => q_U L W h0 π r.2 ∧ (r.1 = 0 ∨ r.1 = 1) ∧ (∀ a k, ¬ (a = v0 ∧ (k = 5 ∨ k = 48)) → vI r.2 a k = vI h a k) ∧ (∀ a j, vA r.2 a j = vA h a j) ∧ (r.1 = 1 → vI r.2 v0 48 = vI h v0 48 ∧ vI h v0 41 < vI h v0 3) ∧ (r.1 = 0 → vI r.2 v0 48 = 1)) := by
  unfold f_Mod_isMember
  refine r_Mo_o T kv0 ?_
  refine c_Mod_here (v0 := v0) T kv0 ?_
  intro yr2 gr2_0 gr2_1 gr2_2 gr2_3
  dsimp only
  refine qk_bs ?_
  refine qk_if (fun cc1 => ?_) (fun cc1 => ?_)
  · skip
    unfold f_Mod_isMember_30
    refine qk_if (fun cc3 => ?_) (fun cc3 => ?_)
    · skip
      refine r_Mo_3 T kv0 ?_
      intro x3i2 ex3i2 lx3i2 ux3i2
      subst ex3i2
      unfold f_Mod_isMember_47
      refine r_Mo_o T kv0 ?_
      refine c_Mod_wrong (v0 := v0) (v1 := (vI h v0 3)) T kv0 (by first | with_reducible assumption | grind | lia) ?_
      intro r2i4 Tr2i4 gr2i4_0 gr2i4_1 gr2i4_2
      refine qk_some ?_
      exact ⟨Tr2i4, (by first | with_reducible assumption | grind | lia), (by intro a k n0; rw [gr2i4_0 a k (by omega)]), (by intro a j ; rw [gr2i4_2 a j]), (by first | with_reducible assumption | grind | lia), (by first | with_reducible assumption | grind | lia)⟩
    · skip
      refine r_Mo_41 T kv0 ?_
      intro x2i2 ex2i2 lx2i2 ux2i2
      subst ex2i2
      unfold f_Mod_isMember_47
      refine r_Mo_o T kv0 ?_
      refine c_Mod_wrong (v0 := v0) (v1 := (vI h v0 41)) T kv0 (by first | with_reducible assumption | grind | lia) ?_
      intro r2i5 Tr2i5 gr2i5_0 gr2i5_1 gr2i5_2
      refine qk_some ?_
      exact ⟨Tr2i5, (by first | with_reducible assumption | grind | lia), (by intro a k n0; rw [gr2i5_0 a k (by omega)]), (by intro a j ; rw [gr2i5_2 a j]), (by first | with_reducible assumption | grind | lia), (by first | with_reducible assumption | grind | lia)⟩
  · skip
    refine qk_if (fun cc6 => ?_) (fun cc6 => ?_)
    · skip
      unfold f_Mod_isMember_30
      refine qk_if (fun cc8 => ?_) (fun cc8 => ?_)
      · skip
        refine r_Mo_3 T kv0 ?_
        intro x3i7 ex3i7 lx3i7 ux3i7
        subst ex3i7
        unfold f_Mod_isMember_47
        refine r_Mo_o T kv0 ?_
        refine c_Mod_wrong (v0 := v0) (v1 := (vI h v0 3)) T kv0 (by first | with_reducible assumption | grind | lia) ?_
        intro r2i9 Tr2i9 gr2i9_0 gr2i9_1 gr2i9_2
        refine qk_some ?_
        exact ⟨Tr2i9, (by first | with_reducible assumption | grind | lia), (by intro a k n0; rw [gr2i9_0 a k (by omega)]), (by intro a j ; rw [gr2i9_2 a j]), (by first | with_reducible assumption | grind | lia), (by first | with_reducible assumption | grind | lia)⟩
      · skip
        refine r_Mo_41 T kv0 ?_
        intro x2i7 ex2i7 lx2i7 ux2i7
        subst ex2i7
        unfold f_Mod_isMember_47
        refine r_Mo_o T kv0 ?_
        refine c_Mod_wrong (v0 := v0) (v1 := (vI h v0 41)) T kv0 (by first | with_reducible assumption | grind | lia) ?_
        intro r2i10 Tr2i10 gr2i10_0 gr2i10_1 gr2i10_2
        refine qk_some ?_
        exact ⟨Tr2i10, (by first | with_reducible assumption | grind | lia), (by intro a k n0; rw [gr2i10_0 a k (by omega)]), (by intro a j ; rw [gr2i10_2 a j]), (by first | with_reducible assumption | grind | lia), (by first | with_reducible assumption | grind | lia)⟩
    · skip
      refine qk_if (fun cc11 => ?_) (fun cc11 => ?_)
      · skip
        unfold f_Mod_isMember_30
        refine qk_if (fun cc13 => ?_) (fun cc13 => ?_)
        · skip
          refine r_Mo_3 T kv0 ?_
          intro x3i12 ex3i12 lx3i12 ux3i12
          subst ex3i12
          unfold f_Mod_isMember_47
          refine r_Mo_o T kv0 ?_
          refine c_Mod_wrong (v0 := v0) (v1 := (vI h v0 3)) T kv0 (by first | with_reducible assumption | grind | lia) ?_
          intro r2i14 Tr2i14 gr2i14_0 gr2i14_1 gr2i14_2
          refine qk_some ?_
          exact ⟨Tr2i14, (by first | with_reducible assumption | grind | lia), (by intro a k n0; rw [gr2i14_0 a k (by omega)]), (by intro a j ; rw [gr2i14_2 a j]), (by first | with_reducible assumption | grind | lia), (by first | with_reducible assumption | grind | lia)⟩
        · skip
          refine r_Mo_41 T kv0 ?_
          intro x2i12 ex2i12 lx2i12 ux2i12
          subst ex2i12
          unfold f_Mod_isMember_47
          refine r_Mo_o T kv0 ?_
          refine c_Mod_wrong (v0 := v0) (v1 := (vI h v0 41)) T kv0 (by first | with_reducible assumption | grind | lia) ?_
          intro r2i15 Tr2i15 gr2i15_0 gr2i15_1 gr2i15_2
          refine qk_some ?_
          exact ⟨Tr2i15, (by first | with_reducible assumption | grind | lia), (by intro a k n0; rw [gr2i15_0 a k (by omega)]), (by intro a j ; rw [gr2i15_2 a j]), (by first | with_reducible assumption | grind | lia), (by first | with_reducible assumption | grind | lia)⟩
      · skip
        refine qk_if (fun cc16 => ?_) (fun cc16 => ?_)
        · skip
          unfold f_Mod_isMember_30
          refine qk_if (fun cc18 => ?_) (fun cc18 => ?_)
          · skip
            refine r_Mo_3 T kv0 ?_
            intro x3i17 ex3i17 lx3i17 ux3i17
            subst ex3i17
            unfold f_Mod_isMember_47
            refine r_Mo_o T kv0 ?_
            refine c_Mod_wrong (v0 := v0) (v1 := (vI h v0 3)) T kv0 (by first | with_reducible assumption | grind | lia) ?_
            intro r2i19 Tr2i19 gr2i19_0 gr2i19_1 gr2i19_2
            refine qk_some ?_
            exact ⟨Tr2i19, (by first | with_reducible assumption | grind | lia), (by intro a k n0; rw [gr2i19_0 a k (by omega)]), (by intro a j ; rw [gr2i19_2 a j]), (by first | with_reducible assumption | grind | lia), (by first | with_reducible assumption | grind | lia)⟩
          · skip
            refine r_Mo_41 T kv0 ?_
            intro x2i17 ex2i17 lx2i17 ux2i17
            subst ex2i17
            unfold f_Mod_isMember_47
            refine r_Mo_o T kv0 ?_
            refine c_Mod_wrong (v0 := v0) (v1 := (vI h v0 41)) T kv0 (by first | with_reducible assumption | grind | lia) ?_
            intro r2i20 Tr2i20 gr2i20_0 gr2i20_1 gr2i20_2
            refine qk_some ?_
            exact ⟨Tr2i20, (by first | with_reducible assumption | grind | lia), (by intro a k n0; rw [gr2i20_0 a k (by omega)]), (by intro a j ; rw [gr2i20_2 a j]), (by first | with_reducible assumption | grind | lia), (by first | with_reducible assumption | grind | lia)⟩
        · skip
          refine qk_some ?_
          exact ⟨T, (by first | with_reducible assumption | grind | lia), (by intro a k n0; rfl), (by intro a j ; rfl), (by first | with_reducible assumption | grind | lia), (by first | with_reducible assumption | grind | lia)⟩
theorem c_Mod_isMember {L : q_L} {W : Nat → Prop} {h0 : z_H} {π : Nat → Nat → Option Nat} {N : Nat} {h : z_H} {v0 : Nat} {β : Type} {f : Int32 × z_H → Option β} {Q : β → Prop} (T : q_U L W h0 π h) (kv0 : q_M L π v0) (wM : ∀ a, v0 ≤ a → a < v0 + 46 → W a) (H : ∀ y h', q_U L W h0 π h' → (y = 0 ∨ y = 1) → (∀ a k, ¬ (a = v0 ∧ (k = 5 ∨ k = 48)) → vI h' a k = vI h a k) → (∀ a j, vA h' a j = vA h a j) → (y = 1 → vI h' v0 48 = vI h v0 48 ∧ vI h v0 41 < vI h v0 3) → (y = 0 → vI h' v0 48 = 1) → qk (f (y, h')) Q) : qk (z_b (f_Mod_isMember N v0 h) f) Q := by
  refine qk_b (p_Mod_isMember T kv0 wM) ?_
  rintro ⟨y, hz⟩ ⟨Tz, g0, g1, g2, g3, g4⟩
  exact H y hz Tz g0 g1 g2 g3 g4

