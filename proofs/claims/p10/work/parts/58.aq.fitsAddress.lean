theorem zz_63713b5764 {a1 : Int32} (h0 : ¬ (a1 = 1)) : a1 ≠ 1 := by simp only [Int32.le_iff_toInt_le, Int32.lt_iff_toInt_lt, ← Int32.toInt_inj, ne_eq] at *; have l0 : (1 : Int32).toInt = 1 := (by decide); omega
theorem zz_074ca092c4 {a1 : Int32} (h0 : ¬ (a1 = 2)) : a1 ≠ 2 := by simp only [Int32.le_iff_toInt_le, Int32.lt_iff_toInt_lt, ← Int32.toInt_inj, ne_eq] at *; have l0 : (2 : Int32).toInt = 2 := (by decide); omega
set_option maxHeartbeats 2000000 in
theorem p_Mod_fitsAddress {L : q_L} {W : Nat → Prop} {h0 : z_H} {π : Nat → Nat → Option Nat} {N : Nat} {h : z_H} {v0 : Nat} {v1 : Int32} {v2 : Int32} (T : q_U L W h0 π h) (kv0 : q_M L π v0) (wM : ∀ a, v0 ≤ a → a < v0 + 46 → W a) (PM : v1 ≠ 1 → v1 ≠ 2 → q_PM h v0 v2) (q0 : 0 ≤ v2) (q1 : v2 < 260) (hN : 100000 ≤ N) : qk (f_Mod_fitsAddress N v0 v1 v2 h) (fun r => q_U L W h0 π r.2 ∧ (r.1 = 0 ∨ r.1 = 1) ∧ (∀ a k, ¬ (a = v0 ∧ (k = 54 ∨ k = 55 ∨ k = 56 ∨ k = 57)) → vI r.2 a k = vI h a k) ∧ (∀ a j, 0 ≤ j → ¬ (a = v0 + 36 ∨ a = v0 + 37 ∨ a = v0 + 38) → vA r.2 a j = vA h a j)) := by
  unfold f_Mod_fitsAddress
  refine qk_if (fun cc1 => ?_) (fun cc1 => ?_)
  · skip
    refine r_Mo_70 T kv0 ?_
    intro x11 ex11 lx11 ux11
    subst ex11
    refine qk_if (fun cc2 => ?_) (fun cc2 => ?_)
    · skip
      refine qk_some ?_
      exact ⟨T, (zz_ee5abc318c), (by show ∀ a k, ¬ (a = v0 ∧ (k = 54 ∨ k = 55 ∨ k = 56 ∨ k = 57)) → vI h a k = vI h a k; intro a k n0; rfl), (by show ∀ a j, 0 ≤ j → ¬ (a = v0 + 36 ∨ a = v0 + 37 ∨ a = v0 + 38) → vA h a j = vA h a j; intro a j j0 n0; rfl)⟩
    · skip
      refine qk_some ?_
      exact ⟨T, (zz_aae670e278), (by show ∀ a k, ¬ (a = v0 ∧ (k = 54 ∨ k = 55 ∨ k = 56 ∨ k = 57)) → vI h a k = vI h a k; intro a k n0; rfl), (by show ∀ a j, 0 ≤ j → ¬ (a = v0 + 36 ∨ a = v0 + 37 ∨ a = v0 + 38) → vA h a j = vA h a j; intro a j j0 n0; rfl)⟩
  · skip
    refine qk_if (fun cc3 => ?_) (fun cc3 => ?_)
    · skip
      refine r_Mo_70 T kv0 ?_
      intro x8 ex8 lx8 ux8
      subst ex8
      refine r_Mo_4 T kv0 ?_
      intro x9 ex9 lx9 ux9
      subst ex9
      refine qk_if (fun cc4 => ?_) (fun cc4 => ?_)
      · skip
        refine qk_some ?_
        exact ⟨T, (zz_ee5abc318c), (by show ∀ a k, ¬ (a = v0 ∧ (k = 54 ∨ k = 55 ∨ k = 56 ∨ k = 57)) → vI h a k = vI h a k; intro a k n0; rfl), (by show ∀ a j, 0 ≤ j → ¬ (a = v0 + 36 ∨ a = v0 + 37 ∨ a = v0 + 38) → vA h a j = vA h a j; intro a j j0 n0; rfl)⟩
      · skip
        refine qk_some ?_
        exact ⟨T, (zz_aae670e278), (by show ∀ a k, ¬ (a = v0 ∧ (k = 54 ∨ k = 55 ∨ k = 56 ∨ k = 57)) → vI h a k = vI h a k; intro a k n0; rfl), (by show ∀ a j, 0 ≤ j → ¬ (a = v0 + 36 ∨ a = v0 + 37 ∨ a = v0 + 38) → vA h a j = vA h a j; intro a j j0 n0; rfl)⟩
    · skip
      refine r_Mo_o T kv0 ?_
      refine c_Mod_takeSpace (v0 := v0) T kv0 wM hN ?_
      intro r4 Tr4 gr4_0 gr4_1 gr4_2
      refine r_Mo_o Tr4 kv0 ?_
      refine c_Mod_find (v0 := v0) (v1 := v2) (v2 := 0) Tr4 kv0 wM (by exact (q_PM_eq2 (PM (zz_63713b5764 cc1) (zz_074ca092c4 cc3)) (by rw [gr4_1 (v0 + 23) v2 q0 (by omega)]) (by rw [gr4_1 (v0 + 24) v2 q0 (by omega)]) (fun j ja _ => (by have j0 := Int32.le_trans (PM (zz_63713b5764 cc1) (zz_074ca092c4 cc3)).1 ja; exact ⟨(by rw [gr4_1 (v0 + 26) j j0 (by omega)]), (by rw [gr4_1 (v0 + 27) j j0 (by omega)])⟩)))) q0 q1 (by show (0 : Int32) ≤ 0; decide) (by show (0 : Int32) ≤ 61; decide) hN ?_
      intro yr6 hr6 Tr6 gr6_0 gr6_1 gr6_2 gr6_3 gr6_4
      dsimp only
      refine qk_zB (by first | with_reducible assumption | grind | lia) ?_
      refine qk_some ?_
      exact ⟨Tr6, (zz_2eca02bf2d gr6_0), (by show ∀ a k, ¬ (a = v0 ∧ (k = 54 ∨ k = 55 ∨ k = 56 ∨ k = 57)) → vI hr6 a k = vI h a k; intro a k n0; rw [gr6_1 a k (by omega), gr4_0 a k (by omega)]), (by show ∀ a j, 0 ≤ j → ¬ (a = v0 + 36 ∨ a = v0 + 37 ∨ a = v0 + 38) → vA hr6 a j = vA h a j; intro a j j0 n0; rw [gr6_2 a j j0 (by omega), gr4_1 a j j0 (by omega)])⟩
theorem c_Mod_fitsAddress {L : q_L} {W : Nat → Prop} {h0 : z_H} {π : Nat → Nat → Option Nat} {N : Nat} {h : z_H} {v0 : Nat} {v1 : Int32} {v2 : Int32} {β : Type} {f : Int32 × z_H → Option β} {Q : β → Prop} (T : q_U L W h0 π h) (kv0 : q_M L π v0) (wM : ∀ a, v0 ≤ a → a < v0 + 46 → W a) (PM : v1 ≠ 1 → v1 ≠ 2 → q_PM h v0 v2) (q0 : 0 ≤ v2) (q1 : v2 < 260) (hN : 100000 ≤ N) (H : ∀ y h', q_U L W h0 π h' → (y = 0 ∨ y = 1) → (∀ a k, ¬ (a = v0 ∧ (k = 54 ∨ k = 55 ∨ k = 56 ∨ k = 57)) → vI h' a k = vI h a k) → (∀ a j, 0 ≤ j → ¬ (a = v0 + 36 ∨ a = v0 + 37 ∨ a = v0 + 38) → vA h' a j = vA h a j) → qk (f (y, h')) Q) : qk (z_b (f_Mod_fitsAddress N v0 v1 v2 h) f) Q := by
  refine qk_b (p_Mod_fitsAddress T kv0 wM PM q0 q1 hN) ?_
  rintro ⟨y, hz⟩ ⟨Tz, g0, g1, g2⟩
  exact H y hz Tz g0 g1 g2
