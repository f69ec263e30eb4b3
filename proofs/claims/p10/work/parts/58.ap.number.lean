theorem zz_4dfe56a784  : (0 : Int32) ≤ 0 + 1 := by lia
theorem zz_2a08ac23bd  : (0 + 1 : Int32) ≤ 400 := by lia
theorem zz_3869d4cc94  : (0 : Int32) ≤ 0 + 1 + 1 := by lia
theorem zz_bf65c49210  : (0 + 1 + 1 : Int32) ≤ 400 := by lia
theorem zz_b77bf3cbb9  : (0 + 1 : Int32) < 400 := by lia
set_option maxHeartbeats 1000000 in
theorem p_Mod_tellNumber {L : q_L} {W : Nat → Prop} {h0 : z_H} {π : Nat → Nat → Option Nat} {N : Nat} {h : z_H} {v0 : Nat} (T : q_U L W h0 π h) (kv0 : q_M L π v0) (wM : ∀ a, v0 ≤ a → a < v0 + 46 → W a) (hN : 100000 ≤ N) : qk (f_Mod_tellNumber N v0 h) (fun r => q_U L W h0 π r.2 ∧ (r.1 = 0 ∨ r.1 = 1) ∧ (r.1 = 0 → vI r.2 v0 76 = 1) ∧ (∀ a k, ¬ (a = v0 ∧ (k = 6 ∨ k = 76 ∨ k = 69 ∨ k = 67)) → vI r.2 a k = vI h a k) ∧ (∀ a j, 0 ≤ j → ¬ (a = v0 + 43 ∨ a = v0 + 41) → vA r.2 a j = vA h a j)) := by
  unfold f_Mod_tellNumber
  refine w_Mo_67 T kv0 (wM _ (by omega) (by omega)) (by show (0 : Int32) ≤ 0; decide) (by show (0 : Int32) ≤ 400; decide) ?_
  intro h1 Th1 ih1 ah1
  refine r_Mo_70 Th1 kv0 ?_
  intro x2 ex2 lx2 ux2
  have sx2 : (vI h v0 70) = x2 := (ex2.trans (by rw [ih1 v0 70, if_neg (fun z => absurd z.2 (by decide))])).symm
  subst sx2
  refine qk_if (fun cc1 => ?_) (fun cc1 => ?_)
  · skip
    unfold f_Mod_tellNumber_40
    refine r_Mo_60 Th1 kv0 ?_
    refine r_Mo_67 Th1 kv0 ?_
    intro x2i2 ex2i2 lx2i2 ux2i2
    have sx2i2 : 0 = x2i2 := (ex2i2.trans (by rw [ih1 v0 67, if_pos ⟨rfl, rfl⟩])).symm
    subst sx2i2
    refine w_Mo_67 Th1 kv0 (wM _ (by omega) (by omega)) (zz_4dfe56a784) (zz_2a08ac23bd) ?_
    intro h3i2 Th3i2 ih3i2 ah3i2
    refine r_Mo_70 Th3i2 kv0 ?_
    intro x4i2 ex4i2 lx4i2 ux4i2
    have sx4i2 : (vI h v0 70) = x4i2 := (ex4i2.trans (by rw [ih3i2 v0 70, if_neg (fun z => absurd z.2 (by decide)), ih1 v0 70, if_neg (fun z => absurd z.2 (by decide))])).symm
    subst sx4i2
    refine w_Mo_e41 Th3i2 kv0 (wM _ (by omega) (by omega)) (by show (0 : Int32) ≤ 0; decide) (by show (0 : Int32) < 400; decide) ?_
    intro h5i2 Th5i2 ih5i2 ah5i2
    refine r_Mo_o Th5i2 kv0 ?_
    refine c_Mod_tell (v0 := v0) Th5i2 kv0 wM hN ?_
    intro yr7i2 hr7i2 Tr7i2 gr7i2_0 gr7i2_1 gr7i2_2 gr7i2_3
    dsimp only
    refine qk_zB (by first | with_reducible assumption | grind | lia) ?_
    refine qk_some ?_
    exact ⟨Tr7i2, (zz_2eca02bf2d gr7i2_0), (zz_89d5dbace5 gr7i2_1), (by show ∀ a k, ¬ (a = v0 ∧ (k = 6 ∨ k = 76 ∨ k = 69 ∨ k = 67)) → vI hr7i2 a k = vI h a k; intro a k n0; rw [gr7i2_2 a k (by omega), ih5i2, ih3i2, if_neg (by omega), ih1, if_neg (by omega)]), (by show ∀ a j, 0 ≤ j → ¬ (a = v0 + 43 ∨ a = v0 + 41) → vA hr7i2 a j = vA h a j; intro a j j0 n0; rw [gr7i2_3 a j j0 (by omega), ah5i2 a j j0, if_neg (by omega), ah3i2, ah1])⟩
  · skip
    refine r_Mo_60 Th1 kv0 ?_
    refine r_Mo_67 Th1 kv0 ?_
    intro x5 ex5 lx5 ux5
    have sx5 : 0 = x5 := (ex5.trans (by rw [ih1 v0 67, if_pos ⟨rfl, rfl⟩])).symm
    subst sx5
    refine w_Mo_67 Th1 kv0 (wM _ (by omega) (by omega)) (zz_4dfe56a784) (zz_2a08ac23bd) ?_
    intro h6 Th6 ih6 ah6
    refine r_Mo_70 Th6 kv0 ?_
    intro x7 ex7 lx7 ux7
    have sx7 : (vI h v0 70) = x7 := (ex7.trans (by rw [ih6 v0 70, if_neg (fun z => absurd z.2 (by decide)), ih1 v0 70, if_neg (fun z => absurd z.2 (by decide))])).symm
    subst sx7
    refine w_Mo_e41 Th6 kv0 (wM _ (by omega) (by omega)) (by show (0 : Int32) ≤ 0; decide) (by show (0 : Int32) < 400; decide) ?_
    intro h8 Th8 ih8 ah8
    unfold f_Mod_tellNumber_40
    refine r_Mo_60 Th8 kv0 ?_
    refine r_Mo_67 Th8 kv0 ?_
    intro x2i3 ex2i3 lx2i3 ux2i3
    have sx2i3 : 0 + 1 = x2i3 := (ex2i3.trans (by rw [ih8 v0 67, ih6 v0 67, if_pos ⟨rfl, rfl⟩])).symm
    subst sx2i3
    refine w_Mo_67 Th8 kv0 (wM _ (by omega) (by omega)) (zz_3869d4cc94) (zz_bf65c49210) ?_
    intro h3i3 Th3i3 ih3i3 ah3i3
    refine r_Mo_70 Th3i3 kv0 ?_
    intro x4i3 ex4i3 lx4i3 ux4i3
    have sx4i3 : (vI h v0 70) = x4i3 := (ex4i3.trans (by rw [ih3i3 v0 70, if_neg (fun z => absurd z.2 (by decide)), ih8 v0 70, ih6 v0 70, if_neg (fun z => absurd z.2 (by decide)), ih1 v0 70, if_neg (fun z => absurd z.2 (by decide))])).symm
    subst sx4i3
    refine w_Mo_e41 Th3i3 kv0 (wM _ (by omega) (by omega)) (zz_4dfe56a784) (zz_b77bf3cbb9) ?_
    intro h5i3 Th5i3 ih5i3 ah5i3
    refine r_Mo_o Th5i3 kv0 ?_
    refine c_Mod_tell (v0 := v0) Th5i3 kv0 wM hN ?_
    intro yr7i3 hr7i3 Tr7i3 gr7i3_0 gr7i3_1 gr7i3_2 gr7i3_3
    dsimp only
    refine qk_zB (by first | with_reducible assumption | grind | lia) ?_
    refine qk_some ?_
    exact ⟨Tr7i3, (zz_2eca02bf2d gr7i3_0), (zz_89d5dbace5 gr7i3_1), (by show ∀ a k, ¬ (a = v0 ∧ (k = 6 ∨ k = 76 ∨ k = 69 ∨ k = 67)) → vI hr7i3 a k = vI h a k; intro a k n0; rw [gr7i3_2 a k (by omega), ih5i3, ih3i3, if_neg (by omega), ih8, ih6, if_neg (by omega), ih1, if_neg (by omega)]), (by show ∀ a j, 0 ≤ j → ¬ (a = v0 + 43 ∨ a = v0 + 41) → vA hr7i3 a j = vA h a j; intro a j j0 n0; rw [gr7i3_3 a j j0 (by omega), ah5i3 a j j0, if_neg (by omega), ah3i3, ah8 a j j0, if_neg (by omega), ah6, ah1])⟩
theorem c_Mod_tellNumber {L : q_L} {W : Nat → Prop} {h0 : z_H} {π : Nat → Nat → Option Nat} {N : Nat} {h : z_H} {v0 : Nat} {β : Type} {f : Int32 × z_H → Option β} {Q : β → Prop} (T : q_U L W h0 π h) (kv0 : q_M L π v0) (wM : ∀ a, v0 ≤ a → a < v0 + 46 → W a) (hN : 100000 ≤ N) (H : ∀ y h', q_U L W h0 π h' → (y = 0 ∨ y = 1) → (y = 0 → vI h' v0 76 = 1) → (∀ a k, ¬ (a = v0 ∧ (k = 6 ∨ k = 76 ∨ k = 69 ∨ k = 67)) → vI h' a k = vI h a k) → (∀ a j, 0 ≤ j → ¬ (a = v0 + 43 ∨ a = v0 + 41) → vA h' a j = vA h a j) → qk (f (y, h')) Q) : qk (z_b (f_Mod_tellNumber N v0 h) f) Q := by
  refine qk_b (p_Mod_tellNumber T kv0 wM hN) ?_
  rintro ⟨y, hz⟩ ⟨Tz, g0, g1, g2, g3⟩
  exact H y hz Tz g0 g1 g2 g3
