theorem zz_dbfc9f1e2e {a1 a2 a3 : Int32} (h0 : a1 + (a2 - a3 + 1) ≤ 200) (h1 : (0 ≤ a1) ∧ (a1 ≤ 200)) (h2 : (0 ≤ a2) ∧ (a2 ≤ 600)) (h3 : (0 ≤ a3) ∧ (a3 ≤ 600)) : a1 + (a2 - a3) + 1 ≤ 200 := by simp only [Int32.le_iff_toInt_le, Int32.lt_iff_toInt_lt, ← Int32.toInt_inj, ne_eq] at *; have b0 := Int32.le_toInt a2; have c0 := Int32.toInt_lt a2; have b1 := Int32.le_toInt a3; have c1 := Int32.toInt_lt a3; have b2 := Int32.le_toInt a1; have c2 := Int32.toInt_lt a1; have l0 : (1 : Int32).toInt = 1 := (by decide); have l1 : (200 : Int32).toInt = 200 := (by decide); have l2 : (0 : Int32).toInt = 0 := (by decide); have l3 : (600 : Int32).toInt = 600 := (by decide); have s0 : (a2 - a3).toInt = a2.toInt - a3.toInt := q_tS rfl (by omega) (by omega); have s1 : (a2 - a3 + 1).toInt = (a2 - a3).toInt + 1 := q_tA (by decide) (by omega) (by omega); have s2 : (a1 + (a2 - a3 + 1)).toInt = a1.toInt + (a2 - a3 + 1).toInt := q_tA rfl (by omega) (by omega); have s3 : (a1 + (a2 - a3)).toInt = a1.toInt + (a2 - a3).toInt := q_tA rfl (by omega) (by omega); have s4 : (a1 + (a2 - a3) + 1).toInt = (a1 + (a2 - a3)).toInt + 1 := q_tA (by decide) (by omega) (by omega); omega
set_option maxHeartbeats 2000000 in
theorem p_Mod_append {L : q_L} {W : Nat → Prop} {h0 : z_H} {π : Nat → Nat → Option Nat} {N : Nat} {h : z_H} {v0 : Nat} {v1 : Int32} (T : q_U L W h0 π h) (kv0 : q_M L π v0) (wM : ∀ a, v0 ≤ a → a < v0 + 46 → W a) (s0 : 0 ≤ v1) (s1 : v1 < 80) (ft : vA h (v0 + 10) v1 ≤ vA h (v0 + 11) v1) (AP : vI h v0 68 = 0 ∨ vA h (v0 + 42) (vI h v0 68 - 1) = 10) (hN : 100000 ≤ N) : qk (f_Mod_append N v0 v1 h) (fun r => q_U L W h0 π r.2 ∧ (∀ a k, ¬ (a = v0 ∧ (k = 6 ∨ k = 76 ∨ k = 68)) → vI r.2 a k = vI h a k) ∧ (∀ a j, 0 ≤ j → ¬ (a = v0 + 42) → vA r.2 a j = vA h a j) ∧ (vI r.2 v0 68 = 0 ∨ vA r.2 (v0 + 42) (vI r.2 v0 68 - 1) = 10)) := by
  unfold f_Mod_append
  refine r_Mo_16 T kv0 ?_
  refine r_Mo_e11 T kv0 s0 s1 ?_
  intro x2 ex2 lx2 ux2
  subst ex2
  refine r_Mo_15 T kv0 ?_
  refine r_Mo_e10 T kv0 s0 s1 ?_
  intro x4 ex4 lx4 ux4
  subst ex4
  refine qk_bs ?_
  refine r_Mo_68 T kv0 ?_
  intro x6 ex6 lx6 ux6
  subst ex6
  refine qk_if (fun cc1 => ?_) (fun cc1 => ?_)
  · skip
    refine r_Mo_15 T kv0 ?_
    refine r_Mo_e10 T kv0 s0 s1 ?_
    intro x9 ex9 lx9 ux9
    subst ex9
    have o2 := g_Mo_68 T kv0
    have o3 := g_Mo_e11 T kv0 v1
    have o4 := g_Mo_e10 T kv0 v1
    refine qk_mono (p_Mod_append_40 (v0 := v0) (v1 := v1) (v3 := (vA h (v0 + 10) v1)) T kv0 wM s0 s1 lx9 ft (zz_dbfc9f1e2e cc1 o2 o3 o4) hN) ?_
    rintro ⟨y, hz⟩ ⟨Tz, g0, g1, g2⟩
    try dsimp only at *
    exact ⟨Tz, (by show ∀ a k, ¬ (a = v0 ∧ (k = 6 ∨ k = 76 ∨ k = 68)) → vI hz a k = vI h a k; intro a k n0; rw [g0 a k (by omega)]), (by show ∀ a j, 0 ≤ j → ¬ (a = v0 + 42) → vA hz a j = vA h a j; intro a j j0 n0; rw [g1 a j j0 (by omega)]), (by show vI hz v0 68 = 0 ∨ vA hz (v0 + 42) (vI hz v0 68 - 1) = 10; exact g2)⟩
  · skip
    refine r_Mo_o T kv0 ?_
    refine c_Mod_full (v0 := v0) T kv0 wM ?_
    intro yr11 hr11 Tr11 gr11_0 gr11_1 gr11_2 gr11_3
    dsimp only
    refine qk_zB (by first | with_reducible assumption | grind | lia) ?_
    refine qk_some ?_
    have o6 := g_Mo_68 T kv0
    exact ⟨Tr11, (by show ∀ a k, ¬ (a = v0 ∧ (k = 6 ∨ k = 76 ∨ k = 68)) → vI hr11 a k = vI h a k; intro a k n0; rw [gr11_1 a k (by omega)]), (by show ∀ a j, 0 ≤ j → ¬ (a = v0 + 42) → vA hr11 a j = vA h a j; intro a j j0 n0; rw [gr11_2 a j]), (by show vI hr11 v0 68 = 0 ∨ vA hr11 (v0 + 42) (vI hr11 v0 68 - 1) = 10; by_cases z : vI h v0 68 = 0; (left; rw [gr11_1 v0 68 (by omega)]; exact z); (right; have jz : 0 ≤ vI h v0 68 - 1 := (zz_e8fb340edd o6 z); rw [gr11_1 v0 68 (by omega)]; rw [gr11_2 (v0 + 42) (vI h v0 68 - 1)]; exact (AP).resolve_left z))⟩
theorem c_Mod_append {L : q_L} {W : Nat → Prop} {h0 : z_H} {π : Nat → Nat → Option Nat} {N : Nat} {h : z_H} {v0 : Nat} {v1 : Int32} {β : Type} {f : Int32 × z_H → Option β} {Q : β → Prop} (T : q_U L W h0 π h) (kv0 : q_M L π v0) (wM : ∀ a, v0 ≤ a → a < v0 + 46 → W a) (s0 : 0 ≤ v1) (s1 : v1 < 80) (ft : vA h (v0 + 10) v1 ≤ vA h (v0 + 11) v1) (AP : vI h v0 68 = 0 ∨ vA h (v0 + 42) (vI h v0 68 - 1) = 10) (hN : 100000 ≤ N) (H : ∀ y h', q_U L W h0 π h' → (∀ a k, ¬ (a = v0 ∧ (k = 6 ∨ k = 76 ∨ k = 68)) → vI h' a k = vI h a k) → (∀ a j, 0 ≤ j → ¬ (a = v0 + 42) → vA h' a j = vA h a j) → (vI h' v0 68 = 0 ∨ vA h' (v0 + 42) (vI h' v0 68 - 1) = 10) → qk (f (y, h')) Q) : qk (z_b (f_Mod_append N v0 v1 h) f) Q := by
  refine qk_b (p_Mod_append T kv0 wM s0 s1 ft AP hN) ?_
  rintro ⟨y, hz⟩ ⟨Tz, g0, g1, g2⟩
  exact H y hz Tz g0 g1 g2
