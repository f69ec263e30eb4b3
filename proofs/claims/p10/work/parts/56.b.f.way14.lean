set_option maxHeartbeats 2000000 in
theorem p_Mod_way_14_n {L : q_L} {W : Nat → Prop} {h0 : z_H} {π : Nat → Nat → Option Nat} {N : Nat} {st : Int32} {lo : Nat → Int32} (hqn : q_Q lo 5) : ∀ (n : Nat) (v0 : Nat) (v1 : Int32) (v2 : Int32) (v3 : Int32) (v4 : Int32) (v5 : Int32) (v6 : Int32) (v7 : Int32) (h : z_H), q_U L W h0 π h → q_M L π v0 → (∀ a, v0 ≤ a → a < v0 + 46 → W a) → (q_PM h v0 v1) → (0 ≤ v1) → (v1 < 260) → (v3 ≤ 61) → (v4 ≤ 61) → (0 ≤ v5) → (v5 ≤ vI h v0 54) → (st ≤ v5) → (1 ≤ v7) → (v7 ≤ 4) → (100000 ≤ N) → (lo n ≤ v7) → qk (f_Mod_way_14 N  n v0 v1 v2 v3 v4 v5 v6 v7 h) (fun r => q_U L W h0 π r.2 ∧ (r.1 = -1 ∨ (st ≤ r.1 ∧ r.1 ≤ vI h v0 54)) ∧ (∀ a k, ¬ (a = v0 ∧ (k = 55)) → vI r.2 a k = vI h a k) ∧ (∀ a j, 0 ≤ j → ¬ (a = v0 + 37 ∨ a = v0 + 38) → vA r.2 a j = vA h a j) ∧ (q_rst v0 r.2 = q_rst v0 h) ∧ (r.1 ≠ -1 → q_GS r.2 v0)) := by
  intro n
  induction n with
  | zero => intro v0 v1 v2 v3 v4 v5 v6 v7 h T kv0 wM PM q0 q1 ka kb p0 p1 st_ g0 g1 hN hms; have hz := hqn.1; exact absurd hms (by grind)
  | succ n ih =>
    intro v0 v1 v2 v3 v4 v5 v6 v7 h T kv0 wM PM q0 q1 ka kb p0 p1 st_ g0 g1 hN hms
    obtain ⟨hq1, hq2, hq3⟩ := hqn.2 n
    rw [f_Mod_way_14]
    refine qk_if (fun cc1 => ?_) (fun cc1 => ?_)
    · skip
      refine qk_mono (p_Mod_way_37 (v0 := v0) (v1 := v1) (v2 := v2) (v3 := v3) (v4 := v4) (v5 := v5) (v6 := v6) (v7 := 1) (st := st) T kv0 wM (by clear ih; exact PM) q0 q1 ka kb p0 p1 st_ (by decide) (by decide) (by clear ih; exact fun g a b => absurd (Int32.lt_of_lt_of_le b a) Int32.lt_irrefl) hN) ?_
      rintro ⟨y, hz⟩ ⟨Tz, g0, g1, g2, g3, g4⟩
      try dsimp only at *
      exact ⟨Tz, (zz_ec74f043d4 g0), (by clear ih; show ∀ a k, ¬ (a = v0 ∧ (k = 55)) → vI hz a k = vI h a k; intro a k n0; rw [g1 a k (by omega)]), (by clear ih; show ∀ a j, 0 ≤ j → ¬ (a = v0 + 37 ∨ a = v0 + 38) → vA hz a j = vA h a j; intro a j j0 n0; rw [g2 a j j0 (by omega)]), (by clear ih; show q_rst v0 hz = q_rst v0 h; exact g3), (by clear ih; show y ≠ -1 → q_GS hz v0; exact g4)⟩
    · skip
      refine r_Mo_52 T kv0 ?_
      refine w_Mo_e37 T kv0 (wM _ (by omega) (by omega)) g0 (zz_96afbe41ec cc1) (by decide) (by decide) ?_
      intro h3 Th3 ih3 ah3 dh3
      refine qk_bs ?_
      have o3 : vI h3 v0 54 = vI h v0 54 := (by rw [ih3 v0 54])
      refine qk_mono (ih (v0) (v1) (v2) (v3) (v4) (v5) (v6) ((v7 + 1)) h3 Th3 kv0 wM (by clear ih; exact (q_PM_eq2 PM (by rw [ah3 (v0 + 23) v1 q0, if_neg (fun z => absurd z.1 (by omega))]) (by rw [ah3 (v0 + 24) v1 q0, if_neg (fun z => absurd z.1 (by omega))]) (fun j ja _ => (by have j0 := Int32.le_trans PM.1 ja; exact ⟨(by rw [ah3 (v0 + 26) j j0, if_neg (fun z => absurd z.1 (by omega))]), (by rw [ah3 (v0 + 27) j j0, if_neg (fun z => absurd z.1 (by omega))])⟩)))) q0 q1 ka kb p0 (zz_c508abc292 o3 p1) st_ (zz_5d5ac12564 g0 cc1) (zz_11434e2774 cc1 g0) hN (zz_e71a6907b8 hms hq1 hq2 cc1 g0)) ?_
      rintro ⟨y, hz⟩ ⟨Tz, g0, g1, g2, g3, g4⟩
      try dsimp only at *
      exact ⟨Tz, (zz_87647c7f75 g0 o3), (by clear ih; show ∀ a k, ¬ (a = v0 ∧ (k = 55)) → vI hz a k = vI h a k; intro a k n0; rw [g1 a k (by omega), ih3]), (by clear ih; show ∀ a j, 0 ≤ j → ¬ (a = v0 + 37 ∨ a = v0 + 38) → vA hz a j = vA h a j; intro a j j0 n0; rw [g2 a j j0 (by omega), ah3 a j j0, if_neg (by omega)]), (by clear ih; show q_rst v0 hz = q_rst v0 h; exact (g3).trans (dh3)), (by clear ih; show y ≠ -1 → q_GS hz v0; exact g4)⟩
theorem p_Mod_way_14 {L : q_L} {W : Nat → Prop} {h0 : z_H} {π : Nat → Nat → Option Nat} {N : Nat} {st : Int32} {h : z_H} {v0 : Nat} {v1 : Int32} {v2 : Int32} {v3 : Int32} {v4 : Int32} {v5 : Int32} {v6 : Int32} {v7 : Int32} (T : q_U L W h0 π h) (kv0 : q_M L π v0) (wM : ∀ a, v0 ≤ a → a < v0 + 46 → W a) (PM : q_PM h v0 v1) (q0 : 0 ≤ v1) (q1 : v1 < 260) (ka : v3 ≤ 61) (kb : v4 ≤ 61) (p0 : 0 ≤ v5) (p1 : v5 ≤ vI h v0 54) (st_ : st ≤ v5) (g0 : 1 ≤ v7) (g1 : v7 ≤ 4) (hN : 100000 ≤ N) : qk (f_Mod_way_14 N  N v0 v1 v2 v3 v4 v5 v6 v7 h) (fun r => q_U L W h0 π r.2 ∧ (r.1 = -1 ∨ (st ≤ r.1 ∧ r.1 ≤ vI h v0 54)) ∧ (∀ a k, ¬ (a = v0 ∧ (k = 55)) → vI r.2 a k = vI h a k) ∧ (∀ a j, 0 ≤ j → ¬ (a = v0 + 37 ∨ a = v0 + 38) → vA r.2 a j = vA h a j) ∧ (q_rst v0 r.2 = q_rst v0 h) ∧ (r.1 ≠ -1 → q_GS r.2 v0)) := by
  have hq := q_qnN hN
  refine p_Mod_way_14_n (q_lo (M := 5) (by decide) (by decide)) N v0 v1 v2 v3 v4 v5 v6 v7 h T kv0 wM PM q0 q1 ka kb p0 p1 st_ g0 g1 hN ?_ 
  show 5 - q_n N ≤ _
  rw [hq]
  lia
