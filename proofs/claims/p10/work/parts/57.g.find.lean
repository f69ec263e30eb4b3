theorem zz_4e36470975 {a1 a2 a3 a4 a5 : Int32} (h0 : (a1 ≠ 0) → ((a2 ≤ a3) ∧ ((a3 ≤ a4) ∧ (a4 ≤ a5)))) : (a1 ≠ 0) → ((a2 ≤ a3) ∧ ((a3 ≤ a4) ∧ (a4 ≤ a5))) := by simp only [Int32.le_iff_toInt_le, Int32.lt_iff_toInt_lt, ← Int32.toInt_inj, ne_eq] at *; have l0 : (0 : Int32).toInt = 0 := (by decide); omega
set_option maxHeartbeats 2000000 in
theorem p_Mod_find {L : q_L} {W : Nat → Prop} {h0 : z_H} {π : Nat → Nat → Option Nat} {N : Nat} {h : z_H} {v0 : Nat} {v1 : Int32} {v2 : Int32} (T : q_U L W h0 π h) (kv0 : q_M L π v0) (wM : ∀ a, v0 ≤ a → a < v0 + 46 → W a) (PM : q_PM h v0 v1) (q0 : 0 ≤ v1) (q1 : v1 < 260) (s0 : 0 ≤ v2) (s2 : v2 ≤ 61) (hN : 100000 ≤ N) : qk (f_Mod_find N v0 v1 v2 h) (fun r => q_U L W h0 π r.2 ∧ (r.1 = 0 ∨ r.1 = 1) ∧ (∀ a k, ¬ (a = v0 ∧ (k = 55 ∨ k = 56 ∨ k = 57)) → vI r.2 a k = vI h a k) ∧ (∀ a j, 0 ≤ j → ¬ (a = v0 + 37 ∨ a = v0 + 38) → vA r.2 a j = vA h a j) ∧ (r.1 ≠ 0 → v2 ≤ vI r.2 v0 56 ∧ vI r.2 v0 56 ≤ vI r.2 v0 57 ∧ vI r.2 v0 57 ≤ vI h v0 54) ∧ (r.1 ≠ 0 → q_GS r.2 v0)) := by
  unfold f_Mod_find
  refine r_Mo_o T kv0 ?_
  refine c_Mod_starsOf (v0 := v0) (v1 := v1) T kv0 q0 q1 hN ?_
  intro yr2 gr2_0
  dsimp only
  refine qk_bs ?_
  refine qk_mono (p_Mod_find_9 (v0 := v0) (v1 := v1) (v3 := (yr2)) (v4 := v2) T kv0 wM (by exact PM) q0 q1 s0 s2 hN) ?_
  rintro ⟨y, hz⟩ ⟨Tz, g0, g1, g2, g3, g4⟩
  try dsimp only at *
  exact ⟨Tz, (zz_2eca02bf2d g0), (by show ∀ a k, ¬ (a = v0 ∧ (k = 55 ∨ k = 56 ∨ k = 57)) → vI hz a k = vI h a k; intro a k n0; rw [g1 a k (by omega)]), (by show ∀ a j, 0 ≤ j → ¬ (a = v0 + 37 ∨ a = v0 + 38) → vA hz a j = vA h a j; intro a j j0 n0; rw [g2 a j j0 (by omega)]), (zz_4e36470975 g3), (by show y ≠ 0 → q_GS hz v0; exact g4)⟩
theorem c_Mod_find {L : q_L} {W : Nat → Prop} {h0 : z_H} {π : Nat → Nat → Option Nat} {N : Nat} {h : z_H} {v0 : Nat} {v1 : Int32} {v2 : Int32} {β : Type} {f : Int32 × z_H → Option β} {Q : β → Prop} (T : q_U L W h0 π h) (kv0 : q_M L π v0) (wM : ∀ a, v0 ≤ a → a < v0 + 46 → W a) (PM : q_PM h v0 v1) (q0 : 0 ≤ v1) (q1 : v1 < 260) (s0 : 0 ≤ v2) (s2 : v2 ≤ 61) (hN : 100000 ≤ N) (H : ∀ y h', q_U L W h0 π h' → (y = 0 ∨ y = 1) → (∀ a k, ¬ (a = v0 ∧ (k = 55 ∨ k = 56 ∨ k = 57)) → vI h' a k = vI h a k) → (∀ a j, 0 ≤ j → ¬ (a = v0 + 37 ∨ a = v0 + 38) → vA h' a j = vA h a j) → (y ≠ 0 → v2 ≤ vI h' v0 56 ∧ vI h' v0 56 ≤ vI h' v0 57 ∧ vI h' v0 57 ≤ vI h v0 54) → (y ≠ 0 → q_GS h' v0) → qk (f (y, h')) Q) : qk (z_b (f_Mod_find N v0 v1 v2 h) f) Q := by
  refine qk_b (p_Mod_find T kv0 wM PM q0 q1 s0 s2 hN) ?_
  rintro ⟨y, hz⟩ ⟨Tz, g0, g1, g2, g3, g4⟩
  exact H y hz Tz g0 g1 g2 g3 g4
