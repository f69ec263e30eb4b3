set_option maxHeartbeats 2000000 in
theorem p_Mod_way {L : q_L} {W : Nat → Prop} {h0 : z_H} {π : Nat → Nat → Option Nat} {N : Nat} {h : z_H} {v0 : Nat} {v1 : Int32} {v2 : Int32} {v3 : Int32} {v4 : Int32} (T : q_U L W h0 π h) (kv0 : q_M L π v0) (wM : ∀ a, v0 ≤ a → a < v0 + 46 → W a) (PM : q_PM h v0 v1) (q0 : 0 ≤ v1) (q1 : v1 < 260) (s0 : 0 ≤ v2) (s1 : v2 ≤ vI h v0 54) (ka : v3 ≤ 61) (kb : v4 ≤ 61) (hN : 100000 ≤ N) : qk (f_Mod_way N v0 v1 v2 v3 v4 h) (fun r => q_U L W h0 π r.2 ∧ (r.1 = -1 ∨ (v2 ≤ r.1 ∧ r.1 ≤ vI h v0 54)) ∧ (∀ a k, ¬ (a = v0 ∧ (k = 55)) → vI r.2 a k = vI h a k) ∧ (∀ a j, 0 ≤ j → ¬ (a = v0 + 37 ∨ a = v0 + 38) → vA r.2 a j = vA h a j) ∧ (q_rst v0 r.2 = q_rst v0 h) ∧ (r.1 ≠ -1 → q_GS r.2 v0)) := by
  unfold f_Mod_way
  refine w_Mo_55 T kv0 (wM _ (by omega) (by omega)) ?_
  intro h1 Th1 ih1 ah1 dh1
  have o1 : vI h1 v0 54 = vI h v0 54 := (by rw [ih1 v0 54, if_neg (fun z => absurd z.2 (by decide))])
  refine qk_mono (p_Mod_way_14 (v0 := v0) (v1 := v1) (v2 := v2) (v3 := v3) (v4 := v4) (v5 := v2) (v6 := 0) (v7 := 1) (st := v2) Th1 kv0 wM (by exact (q_PM_eq2 PM (by rw [ah1 (v0 + 23) v1]) (by rw [ah1 (v0 + 24) v1]) (fun j ja _ => (by have j0 := Int32.le_trans PM.1 ja; exact ⟨(by rw [ah1 (v0 + 26) j]), (by rw [ah1 (v0 + 27) j])⟩)))) q0 q1 ka kb s0 (zz_c508abc292 o1 s1) (zz_52924cceca) (by decide) (by decide) hN) ?_
  rintro ⟨y, hz⟩ ⟨Tz, g0, g1, g2, g3, g4⟩
  try dsimp only at *
  exact ⟨Tz, (zz_87647c7f75 g0 o1), (by show ∀ a k, ¬ (a = v0 ∧ (k = 55)) → vI hz a k = vI h a k; intro a k n0; rw [g1 a k (by omega), ih1, if_neg (by omega)]), (by show ∀ a j, 0 ≤ j → ¬ (a = v0 + 37 ∨ a = v0 + 38) → vA hz a j = vA h a j; intro a j j0 n0; rw [g2 a j j0 (by omega), ah1]), (by show q_rst v0 hz = q_rst v0 h; exact (g3).trans (dh1)), (by show y ≠ -1 → q_GS hz v0; exact g4)⟩
theorem c_Mod_way {L : q_L} {W : Nat → Prop} {h0 : z_H} {π : Nat → Nat → Option Nat} {N : Nat} {h : z_H} {v0 : Nat} {v1 : Int32} {v2 : Int32} {v3 : Int32} {v4 : Int32} {β : Type} {f : Int32 × z_H → Option β} {Q : β → Prop} (T : q_U L W h0 π h) (kv0 : q_M L π v0) (wM : ∀ a, v0 ≤ a → a < v0 + 46 → W a) (PM : q_PM h v0 v1) (q0 : 0 ≤ v1) (q1 : v1 < 260) (s0 : 0 ≤ v2) (s1 : v2 ≤ vI h v0 54) (ka : v3 ≤ 61) (kb : v4 ≤ 61) (hN : 100000 ≤ N) (H : ∀ y h', q_U L W h0 π h' → (y = -1 ∨ (v2 ≤ y ∧ y ≤ vI h v0 54)) → (∀ a k, ¬ (a = v0 ∧ (k = 55)) → vI h' a k = vI h a k) → (∀ a j, 0 ≤ j → ¬ (a = v0 + 37 ∨ a = v0 + 38) → vA h' a j = vA h a j) → (q_rst v0 h' = q_rst v0 h) → (y ≠ -1 → q_GS h' v0) → qk (f (y, h')) Q) : qk (z_b (f_Mod_way N v0 v1 v2 v3 v4 h) f) Q := by
  refine qk_b (p_Mod_way T kv0 wM PM q0 q1 s0 s1 ka kb hN) ?_
  rintro ⟨y, hz⟩ ⟨Tz, g0, g1, g2, g3, g4⟩
  exact H y hz Tz g0 g1 g2 g3 g4
