/-- a pattern that may be matched -/
def q_PV (kd gr : Int32 → Int32) (f fs ss t : Int32) : Prop :=
  0 ≤ f ∧ f ≤ fs ∧ fs ≤ ss ∧ ss ≤ t ∧ t ≤ 240 ∧ q_V kd gr f t ∧ (fs < t → fs < ss ∧ kd fs = 0) ∧ (ss < t → kd ss = 0)
theorem q_half {x : Int32} (h0 : 0 ≤ x) (h1 : x ≤ 7) : 0 ≤ x / 2 ∧ x / 2 ≤ 3 := by
  have h : x = 0 ∨ x = 1 ∨ x = 2 ∨ x = 3 ∨ x = 4 ∨ x = 5 ∨ x = 6 ∨ x = 7 := by lia
  rcases h with h | h | h | h | h | h | h | h <;> subst h <;> decide
set_option maxHeartbeats 1000000 in
theorem p_Ma_find_42_n {L : q_L} {W : Nat → Prop} {h0 : z_H} {π : Nat → Nat → Option Nat} {N : Nat} {it : Nat} {pt : Nat} {tx : Nat} {kd gr : Int32 → Int32} {f0 fs ss t0 : Int32} {hE : z_H} {lo : Nat → Int32} (hqn : q_Q lo 602) : ∀ (n : Nat) (v0 : Nat) (v5 : Int32) (v6 : Int32) (h : z_H), q_U L W h0 π h → qκ L v0 = 6 → (qκ L it = 5) → (π v0 2 = some it) → (qκ L pt = 8) → (π v0 3 = some pt) → (qκ L tx = 11) → (π v0 4 = some tx) → (W v0) → (W (v0 + 1)) → (W (v0 + 2)) → (W (v0 + 3)) → (W (v0 + 4)) → (∀ j, 0 ≤ j → vA hE (it + 1) j = kd j) → (∀ j, 0 ≤ j → vA hE (it + 2) j = gr j) → (∀ j, 0 ≤ j → 0 ≤ gr j) → (q_V kd gr f0 t0) → (0 ≤ f0) → (t0 ≤ 240) → (vI hE pt 2 = f0) → (vI hE pt 3 = t0) → (vI hE pt 4 = fs) → (vI hE pt 5 = ss) → (f0 ≤ fs) → (fs ≤ ss) → (ss ≤ t0) → (fs < t0 → fs < ss ∧ kd fs = 0) → (ss < t0 → kd ss = 0) → (∀ a k, ¬ (a = v0 ∧ (k = 0 ∨ k = 1)) → vI h a k = vI hE a k) → (∀ a j, 0 ≤ j → ¬ (a = v0 + 1 ∨ a = v0 + 2 ∨ a = v0 + 3 ∨ a = v0 + 4) → vA h a j = vA hE a j) → (0 ≤ v6) → (v6 ≤ 601) → (v5 ≤ vI hE tx 1) → (100000 ≤ N) → (lo n ≤ v6) → qk (f_Ma_find_42 N  n v0 v5 v6 h) (fun r => q_U L W h0 π r.2 ∧ (r.1 = 0 ∨ r.1 = 1) ∧ (r.1 = 1 → 0 ≤ vI r.2 v0 1) ∧ (∀ a k, ¬ (a = v0 ∧ (k = 0 ∨ k = 1)) → vI r.2 a k = vI hE a k) ∧ (∀ a j, 0 ≤ j → ¬ (a = v0 + 1 ∨ a = v0 + 2 ∨ a = v0 + 3 ∨ a = v0 + 4) → vA r.2 a j = vA hE a j)) := by
  intro n
  induction n with
  | zero => intro v0 v5 v6 h T kv0 kit pit kpt ppt ktx ptx w0 w1 w2 w3 w4 hkd hgr hg V bf bt e2 e3 e4 e5 o1 o2 o3 o4 o5 F1 F2 a0 a1 a2 hN hms; have hr_tx := q_rowhi T ktx; have hz := hqn.1; exact absurd hms (by grind)
  | succ n ih =>
    intro v0 v5 v6 h T kv0 kit pit kpt ppt ktx ptx w0 w1 w2 w3 w4 hkd hgr hg V bf bt e2 e3 e4 e5 o1 o2 o3 o4 o5 F1 F2 a0 a1 a2 hN hms
    obtain ⟨hq1, hq2, hq3⟩ := hqn.2 n
    rw [f_Ma_find_42]
    have hr_tx := q_rowhi T ktx
    obtain ⟨n11, n12, n13, n14, n21, n22, n23, n24⟩ := q_neIM8 T kit kv0
    have hLN : vI h tx 1 = vI hE tx 1 := F1 tx 1 (fun z => absurd (z.1 ▸ ktx) (by rw [kv0]; decide))
    have hL0 : 0 ≤ vI hE tx 1 := by rw [← hLN]; exact hr_tx.2.2.1
    have hL6 : vI hE tx 1 ≤ 600 := by rw [← hLN]; exact Int32.le_trans hr_tx.2.2.2 hr_tx.2.1
    refine qk_if (fun cc1 => ?_) (fun cc1 => ?_)
    · skip
      refine qk_some ?_
      exact ⟨T, (by clear ih; first | with_reducible assumption | grind | grind (ematch := 40) (gen := 40) (liaSteps := 300000) | lia), (by clear ih; first | with_reducible assumption | grind | grind (ematch := 40) (gen := 40) (liaSteps := 300000) | lia), (by clear ih; first | with_reducible assumption | grind | grind (ematch := 40) (gen := 40) (liaSteps := 300000) | lia), (by clear ih; first | with_reducible assumption | grind | grind (ematch := 40) (gen := 40) (liaSteps := 300000) | lia)⟩
    · skip
      refine r_Ma_o T kv0 ?_
      refine c_Ma_findLongest (v0 := v0) (v1 := v6) (it := it) (pt := pt) (tx := tx) (kd := kd) (gr := gr) (f0 := f0) (fs := fs) (ss := ss) (t0 := t0) T kv0 kit pit kpt ppt ktx ptx (by clear ih; first | with_reducible assumption | grind | grind (ematch := 40) (gen := 40) (liaSteps := 300000) | lia) (by clear ih; first | with_reducible assumption | grind | grind (ematch := 40) (gen := 40) (liaSteps := 300000) | lia) (by clear ih; first | with_reducible assumption | grind | grind (ematch := 40) (gen := 40) (liaSteps := 300000) | lia) (by clear ih; first | with_reducible assumption | grind | grind (ematch := 40) (gen := 40) (liaSteps := 300000) | lia) (by clear ih; first | with_reducible assumption | grind | grind (ematch := 40) (gen := 40) (liaSteps := 300000) | lia) (by clear ih; exact (fun j hj => (F2 (it + 1) j hj (by omega)).trans (hkd j hj))) (by clear ih; exact (fun j hj => (F2 (it + 2) j hj (by omega)).trans (hgr j hj))) (by clear ih; first | with_reducible assumption | grind | grind (ematch := 40) (gen := 40) (liaSteps := 300000) | lia) (by clear ih; first | with_reducible assumption | grind | grind (ematch := 40) (gen := 40) (liaSteps := 300000) | lia) (by clear ih; first | with_reducible assumption | grind | grind (ematch := 40) (gen := 40) (liaSteps := 300000) | lia) (by clear ih; first | with_reducible assumption | grind | grind (ematch := 40) (gen := 40) (liaSteps := 300000) | lia) (by clear ih; first | with_reducible assumption | grind | grind (ematch := 40) (gen := 40) (liaSteps := 300000) | lia) (by clear ih; first | with_reducible assumption | grind | grind (ematch := 40) (gen := 40) (liaSteps := 300000) | lia) (by clear ih; first | with_reducible assumption | grind | grind (ematch := 40) (gen := 40) (liaSteps := 300000) | lia) (by clear ih; first | with_reducible assumption | grind | grind (ematch := 40) (gen := 40) (liaSteps := 300000) | lia) (by clear ih; first | with_reducible assumption | grind | grind (ematch := 40) (gen := 40) (liaSteps := 300000) | lia) (by clear ih; first | with_reducible assumption | grind | grind (ematch := 40) (gen := 40) (liaSteps := 300000) | lia) (by clear ih; first | with_reducible assumption | grind | grind (ematch := 40) (gen := 40) (liaSteps := 300000) | lia) (by clear ih; first | with_reducible assumption | grind | grind (ematch := 40) (gen := 40) (liaSteps := 300000) | lia) (by clear ih; first | with_reducible assumption | grind | grind (ematch := 40) (gen := 40) (liaSteps := 300000) | lia) (by clear ih; first | with_reducible assumption | grind | grind (ematch := 40) (gen := 40) (liaSteps := 300000) | lia) (by clear ih; first | with_reducible assumption | grind | grind (ematch := 40) (gen := 40) (liaSteps := 300000) | lia) (by clear ih; first | with_reducible assumption | grind | grind (ematch := 40) (gen := 40) (liaSteps := 300000) | lia) ?_
      intro yr3 hr3 Tr3 gr3_0 gr3_1 gr3_2 gr3_3
      dsimp only
      refine qk_if (fun cc2 => ?_) (fun cc2 => ?_)
      · skip
        refine qk_bs ?_
        exact ih (v0) (v5) ((v6 + 1)) hr3 Tr3 kv0 kit pit kpt ppt ktx ptx (by clear ih; first | with_reducible assumption | grind | grind (ematch := 40) (gen := 40) (liaSteps := 300000) | lia) (by clear ih; first | with_reducible assumption | grind | grind (ematch := 40) (gen := 40) (liaSteps := 300000) | lia) (by clear ih; first | with_reducible assumption | grind | grind (ematch := 40) (gen := 40) (liaSteps := 300000) | lia) (by clear ih; first | with_reducible assumption | grind | grind (ematch := 40) (gen := 40) (liaSteps := 300000) | lia) (by clear ih; first | with_reducible assumption | grind | grind (ematch := 40) (gen := 40) (liaSteps := 300000) | lia) (by clear ih; first | with_reducible assumption | grind | grind (ematch := 40) (gen := 40) (liaSteps := 300000) | lia) (by clear ih; first | with_reducible assumption | grind | grind (ematch := 40) (gen := 40) (liaSteps := 300000) | lia) (by clear ih; first | with_reducible assumption | grind | grind (ematch := 40) (gen := 40) (liaSteps := 300000) | lia) (by clear ih; first | with_reducible assumption | grind | grind (ematch := 40) (gen := 40) (liaSteps := 300000) | lia) (by clear ih; first | with_reducible assumption | grind | grind (ematch := 40) (gen := 40) (liaSteps := 300000) | lia) (by clear ih; first | with_reducible assumption | grind | grind (ematch := 40) (gen := 40) (liaSteps := 300000) | lia) (by clear ih; first | with_reducible assumption | grind | grind (ematch := 40) (gen := 40) (liaSteps := 300000) | lia) (by clear ih; first | with_reducible assumption | grind | grind (ematch := 40) (gen := 40) (liaSteps := 300000) | lia) (by clear ih; first | with_reducible assumption | grind | grind (ematch := 40) (gen := 40) (liaSteps := 300000) | lia) (by clear ih; first | with_reducible assumption | grind | grind (ematch := 40) (gen := 40) (liaSteps := 300000) | lia) (by clear ih; first | with_reducible assumption | grind | grind (ematch := 40) (gen := 40) (liaSteps := 300000) | lia) (by clear ih; first | with_reducible assumption | grind | grind (ematch := 40) (gen := 40) (liaSteps := 300000) | lia) (by clear ih; first | with_reducible assumption | grind | grind (ematch := 40) (gen := 40) (liaSteps := 300000) | lia) (by clear ih; first | with_reducible assumption | grind | grind (ematch := 40) (gen := 40) (liaSteps := 300000) | lia) (by clear ih; first | with_reducible assumption | grind | grind (ematch := 40) (gen := 40) (liaSteps := 300000) | lia) (by clear ih; first | with_reducible assumption | grind | grind (ematch := 40) (gen := 40) (liaSteps := 300000) | lia) (by clear ih; first | with_reducible assumption | grind | grind (ematch := 40) (gen := 40) (liaSteps := 300000) | lia) (by clear ih; first | with_reducible assumption | grind | grind (ematch := 40) (gen := 40) (liaSteps := 300000) | lia) (by clear ih; first | with_reducible assumption | grind | grind (ematch := 40) (gen := 40) (liaSteps := 300000) | lia) (by clear ih; first | with_reducible assumption | grind | grind (ematch := 40) (gen := 40) (liaSteps := 300000) | lia) (by clear ih; first | with_reducible assumption | grind | grind (ematch := 40) (gen := 40) (liaSteps := 300000) | lia) (by clear ih; first | with_reducible assumption | grind | grind (ematch := 40) (gen := 40) (liaSteps := 300000) | lia) 
      · skip
        refine qk_some ?_
        exact ⟨Tr3, (by clear ih; first | with_reducible assumption | grind | grind (ematch := 40) (gen := 40) (liaSteps := 300000) | lia), (by clear ih; first | with_reducible assumption | grind | grind (ematch := 40) (gen := 40) (liaSteps := 300000) | lia), (by clear ih; first | with_reducible assumption | grind | grind (ematch := 40) (gen := 40) (liaSteps := 300000) | lia), (by clear ih; first | with_reducible assumption | grind | grind (ematch := 40) (gen := 40) (liaSteps := 300000) | lia)⟩
theorem p_Ma_find_42 {L : q_L} {W : Nat → Prop} {h0 : z_H} {π : Nat → Nat → Option Nat} {N : Nat} {it : Nat} {pt : Nat} {tx : Nat} {kd gr : Int32 → Int32} {f0 fs ss t0 : Int32} {hE : z_H} {h : z_H} {v0 : Nat} {v5 : Int32} {v6 : Int32} (T : q_U L W h0 π h) (kv0 : qκ L v0 = 6) (kit : qκ L it = 5) (pit : π v0 2 = some it) (kpt : qκ L pt = 8) (ppt : π v0 3 = some pt) (ktx : qκ L tx = 11) (ptx : π v0 4 = some tx) (w0 : W v0) (w1 : W (v0 + 1)) (w2 : W (v0 + 2)) (w3 : W (v0 + 3)) (w4 : W (v0 + 4)) (hkd : ∀ j, 0 ≤ j → vA hE (it + 1) j = kd j) (hgr : ∀ j, 0 ≤ j → vA hE (it + 2) j = gr j) (hg : ∀ j, 0 ≤ j → 0 ≤ gr j) (V : q_V kd gr f0 t0) (bf : 0 ≤ f0) (bt : t0 ≤ 240) (e2 : vI hE pt 2 = f0) (e3 : vI hE pt 3 = t0) (e4 : vI hE pt 4 = fs) (e5 : vI hE pt 5 = ss) (o1 : f0 ≤ fs) (o2 : fs ≤ ss) (o3 : ss ≤ t0) (o4 : fs < t0 → fs < ss ∧ kd fs = 0) (o5 : ss < t0 → kd ss = 0) (F1 : ∀ a k, ¬ (a = v0 ∧ (k = 0 ∨ k = 1)) → vI h a k = vI hE a k) (F2 : ∀ a j, 0 ≤ j → ¬ (a = v0 + 1 ∨ a = v0 + 2 ∨ a = v0 + 3 ∨ a = v0 + 4) → vA h a j = vA hE a j) (a0 : 0 ≤ v6) (a1 : v6 ≤ 601) (a2 : v5 ≤ vI hE tx 1) (hN : 100000 ≤ N) : qk (f_Ma_find_42 N  N v0 v5 v6 h) (fun r => q_U L W h0 π r.2 ∧ (r.1 = 0 ∨ r.1 = 1) ∧ (r.1 = 1 → 0 ≤ vI r.2 v0 1) ∧ (∀ a k, ¬ (a = v0 ∧ (k = 0 ∨ k = 1)) → vI r.2 a k = vI hE a k) ∧ (∀ a j, 0 ≤ j → ¬ (a = v0 + 1 ∨ a = v0 + 2 ∨ a = v0 + 3 ∨ a = v0 + 4) → vA r.2 a j = vA hE a j)) := by
  have hq := q_qnN hN
  have hr_tx := q_rowhi T ktx
  refine p_Ma_find_42_n (q_lo (M := 602) (by decide) (by decide)) N v0 v5 v6 h T kv0 kit pit kpt ppt ktx ptx w0 w1 w2 w3 w4 hkd hgr hg V bf bt e2 e3 e4 e5 o1 o2 o3 o4 o5 F1 F2 a0 a1 a2 hN ?_ 
  show 602 - q_n N ≤ _
  rw [hq]
  lia

set_option maxHeartbeats 2000000 in
theorem p_Ma_find {L : q_L} {W : Nat → Prop} {h0 : z_H} {π : Nat → Nat → Option Nat} {N : Nat} {h : z_H} {v0 : Nat} {v1 : Nat} {v2 : Nat} {v3 : Nat} {v4 : Int32} (T : q_U L W h0 π h) (kv0 : qκ L v0 = 6) (kv1 : qκ L v1 = 5) (kv2 : qκ L v2 = 8) (kv3 : qκ L v3 = 11) (w0 : W v0) (w1 : W (v0 + 1)) (w2 : W (v0 + 2)) (w3 : W (v0 + 3)) (w4 : W (v0 + 4)) (PV : q_PV (vA h (v1 + 1)) (vA h (v1 + 2)) (vI h v2 2) (vI h v2 4) (vI h v2 5) (vI h v2 3)) (hg : ∀ j, 0 ≤ j → 0 ≤ vA h (v1 + 2) j) (a0 : 0 ≤ v4) (a1 : v4 ≤ 601) (hN : 100000 ≤ N) : qk (f_Ma_find N v0 v1 v2 v3 v4 h) (fun r => ∃ π1, q_U L W h0 π1 r.2 ∧ (∀ a k, ¬ (a = v0 ∧ k = 2) → ¬ (a = v0 ∧ k = 3) → ¬ (a = v0 ∧ k = 4) → π1 a k = π a k) ∧ (π1 v0 2 = some v1) ∧ (π1 v0 3 = some v2) ∧ (π1 v0 4 = some v3) ∧ (r.1 = 0 ∨ r.1 = 1) ∧ (r.1 = 1 → 0 ≤ vI r.2 v0 1) ∧ (∀ a k, ¬ (a = v0 ∧ (k = 0 ∨ k = 1)) → vI r.2 a k = vI h a k) ∧ (∀ a j, 0 ≤ j → ¬ (a = v0 + 1 ∨ a = v0 + 2 ∨ a = v0 + 3 ∨ a = v0 + 4) → vA r.2 a j = vA h a j)) := by
  have hr_v3 := q_rowhi T kv3
  obtain ⟨p1, p2, p3, p4, p5, V, p7, p8⟩ := PV
  unfold f_Ma_find
  refine w_Ma_2 (q := v1) T kv0 (by first | with_reducible assumption | grind | grind (ematch := 40) (gen := 40) (liaSteps := 300000) | lia) ?_
  intro πh1 h1 Th1 ph1 ih1 ah1
  have q1_h1 : πh1 v0 2 = some v1 := by rw [ph1, if_pos ⟨rfl, rfl⟩]
  refine w_Ma_3 (q := v2) Th1 kv0 (by first | with_reducible assumption | grind | grind (ematch := 40) (gen := 40) (liaSteps := 300000) | lia) ?_
  intro πh2 h2 Th2 ph2 ih2 ah2
  have q1_h2 : πh2 v0 2 = some v1 := by rw [ph2, if_neg (by grind)]; exact q1_h1
  have q2_h2 : πh2 v0 3 = some v2 := by rw [ph2, if_pos ⟨rfl, rfl⟩]
  refine w_Ma_4 (q := v3) Th2 kv0 (by first | with_reducible assumption | grind | grind (ematch := 40) (gen := 40) (liaSteps := 300000) | lia) ?_
  intro πh3 h3 Th3 ph3 ih3 ah3
  have q1_h3 : πh3 v0 2 = some v1 := by rw [ph3, if_neg (by grind)]; exact q1_h2
  have q2_h3 : πh3 v0 3 = some v2 := by rw [ph3, if_neg (by grind)]; exact q2_h2
  have q3_h3 : πh3 v0 4 = some v3 := by rw [ph3, if_pos ⟨rfl, rfl⟩]
  refine r_Ma_3 Th3 kv0 q2_h3 ?_
  refine r_Pt_0 Th3 kv2 ?_
  intro x5 ex5
  subst ex5
  refine qk_if (fun cc4 => ?_) (fun cc4 => ?_)
  · skip
    refine r_Ma_4 Th3 kv0 q3_h3 ?_
    refine r_Row_1 Th3 kv3 ?_
    intro x8 ex8 lx8 ux8 mx8
    subst ex8
    refine qk_mono (p_Ma_find_42 (v0 := v0) (v5 := (vI h3 v3 1)) (v6 := v4) (it := v1) (pt := v2) (tx := v3) (kd := vA h (v1 + 1)) (gr := vA h (v1 + 2)) (f0 := (vI h v2 2)) (fs := (vI h v2 4)) (ss := (vI h v2 5)) (t0 := (vI h v2 3)) (hE := h3) Th3 kv0 kv1 q1_h3 kv2 q2_h3 kv3 q3_h3 (by first | with_reducible assumption | grind | grind (ematch := 40) (gen := 40) (liaSteps := 300000) | lia) (by first | with_reducible assumption | grind | grind (ematch := 40) (gen := 40) (liaSteps := 300000) | lia) (by first | with_reducible assumption | grind | grind (ematch := 40) (gen := 40) (liaSteps := 300000) | lia) (by first | with_reducible assumption | grind | grind (ematch := 40) (gen := 40) (liaSteps := 300000) | lia) (by first | with_reducible assumption | grind | grind (ematch := 40) (gen := 40) (liaSteps := 300000) | lia) (by first | with_reducible assumption | grind | grind (ematch := 40) (gen := 40) (liaSteps := 300000) | lia) (by first | with_reducible assumption | grind | grind (ematch := 40) (gen := 40) (liaSteps := 300000) | lia) (by first | with_reducible assumption | grind | grind (ematch := 40) (gen := 40) (liaSteps := 300000) | lia) (by first | with_reducible assumption | grind | grind (ematch := 40) (gen := 40) (liaSteps := 300000) | lia) (by first | with_reducible assumption | grind | grind (ematch := 40) (gen := 40) (liaSteps := 300000) | lia) (by first | with_reducible assumption | grind | grind (ematch := 40) (gen := 40) (liaSteps := 300000) | lia) (by first | with_reducible assumption | grind | grind (ematch := 40) (gen := 40) (liaSteps := 300000) | lia) (by first | with_reducible assumption | grind | grind (ematch := 40) (gen := 40) (liaSteps := 300000) | lia) (by first | with_reducible assumption | grind | grind (ematch := 40) (gen := 40) (liaSteps := 300000) | lia) (by first | with_reducible assumption | grind | grind (ematch := 40) (gen := 40) (liaSteps := 300000) | lia) (by first | with_reducible assumption | grind | grind (ematch := 40) (gen := 40) (liaSteps := 300000) | lia) (by first | with_reducible assumption | grind | grind (ematch := 40) (gen := 40) (liaSteps := 300000) | lia) (by first | with_reducible assumption | grind | grind (ematch := 40) (gen := 40) (liaSteps := 300000) | lia) (by first | with_reducible assumption | grind | grind (ematch := 40) (gen := 40) (liaSteps := 300000) | lia) (by first | with_reducible assumption | grind | grind (ematch := 40) (gen := 40) (liaSteps := 300000) | lia) (by first | with_reducible assumption | grind | grind (ematch := 40) (gen := 40) (liaSteps := 300000) | lia) (by first | with_reducible assumption | grind | grind (ematch := 40) (gen := 40) (liaSteps := 300000) | lia) (by first | with_reducible assumption | grind | grind (ematch := 40) (gen := 40) (liaSteps := 300000) | lia) (by first | with_reducible assumption | grind | grind (ematch := 40) (gen := 40) (liaSteps := 300000) | lia) (by first | with_reducible assumption | grind | grind (ematch := 40) (gen := 40) (liaSteps := 300000) | lia) (by first | with_reducible assumption | grind | grind (ematch := 40) (gen := 40) (liaSteps := 300000) | lia)) ?_
    rintro ⟨y, hz⟩ ⟨Tz, g0, g1, g2, g3⟩
    try dsimp only at *
    exact ⟨_, Tz, (by first | with_reducible assumption | grind | grind (ematch := 40) (gen := 40) (liaSteps := 300000) | lia), (by first | with_reducible assumption | grind | grind (ematch := 40) (gen := 40) (liaSteps := 300000) | lia), (by first | with_reducible assumption | grind | grind (ematch := 40) (gen := 40) (liaSteps := 300000) | lia), (by first | with_reducible assumption | grind | grind (ematch := 40) (gen := 40) (liaSteps := 300000) | lia), (by first | with_reducible assumption | grind | grind (ematch := 40) (gen := 40) (liaSteps := 300000) | lia), (by first | with_reducible assumption | grind | grind (ematch := 40) (gen := 40) (liaSteps := 300000) | lia), (by first | with_reducible assumption | grind | grind (ematch := 40) (gen := 40) (liaSteps := 300000) | lia), (by first | with_reducible assumption | grind | grind (ematch := 40) (gen := 40) (liaSteps := 300000) | lia)⟩
  · skip
    refine qk_mono (p_Ma_find_42 (v0 := v0) (v5 := 0) (v6 := v4) (it := v1) (pt := v2) (tx := v3) (kd := vA h (v1 + 1)) (gr := vA h (v1 + 2)) (f0 := (vI h v2 2)) (fs := (vI h v2 4)) (ss := (vI h v2 5)) (t0 := (vI h v2 3)) (hE := h3) Th3 kv0 kv1 q1_h3 kv2 q2_h3 kv3 q3_h3 (by first | with_reducible assumption | grind | grind (ematch := 40) (gen := 40) (liaSteps := 300000) | lia) (by first | with_reducible assumption | grind | grind (ematch := 40) (gen := 40) (liaSteps := 300000) | lia) (by first | with_reducible assumption | grind | grind (ematch := 40) (gen := 40) (liaSteps := 300000) | lia) (by first | with_reducible assumption | grind | grind (ematch := 40) (gen := 40) (liaSteps := 300000) | lia) (by first | with_reducible assumption | grind | grind (ematch := 40) (gen := 40) (liaSteps := 300000) | lia) (by first | with_reducible assumption | grind | grind (ematch := 40) (gen := 40) (liaSteps := 300000) | lia) (by first | with_reducible assumption | grind | grind (ematch := 40) (gen := 40) (liaSteps := 300000) | lia) (by first | with_reducible assumption | grind | grind (ematch := 40) (gen := 40) (liaSteps := 300000) | lia) (by first | with_reducible assumption | grind | grind (ematch := 40) (gen := 40) (liaSteps := 300000) | lia) (by first | with_reducible assumption | grind | grind (ematch := 40) (gen := 40) (liaSteps := 300000) | lia) (by first | with_reducible assumption | grind | grind (ematch := 40) (gen := 40) (liaSteps := 300000) | lia) (by first | with_reducible assumption | grind | grind (ematch := 40) (gen := 40) (liaSteps := 300000) | lia) (by first | with_reducible assumption | grind | grind (ematch := 40) (gen := 40) (liaSteps := 300000) | lia) (by first | with_reducible assumption | grind | grind (ematch := 40) (gen := 40) (liaSteps := 300000) | lia) (by first | with_reducible assumption | grind | grind (ematch := 40) (gen := 40) (liaSteps := 300000) | lia) (by first | with_reducible assumption | grind | grind (ematch := 40) (gen := 40) (liaSteps := 300000) | lia) (by first | with_reducible assumption | grind | grind (ematch := 40) (gen := 40) (liaSteps := 300000) | lia) (by first | with_reducible assumption | grind | grind (ematch := 40) (gen := 40) (liaSteps := 300000) | lia) (by first | with_reducible assumption | grind | grind (ematch := 40) (gen := 40) (liaSteps := 300000) | lia) (by first | with_reducible assumption | grind | grind (ematch := 40) (gen := 40) (liaSteps := 300000) | lia) (by first | with_reducible assumption | grind | grind (ematch := 40) (gen := 40) (liaSteps := 300000) | lia) (by first | with_reducible assumption | grind | grind (ematch := 40) (gen := 40) (liaSteps := 300000) | lia) (by first | with_reducible assumption | grind | grind (ematch := 40) (gen := 40) (liaSteps := 300000) | lia) (by first | with_reducible assumption | grind | grind (ematch := 40) (gen := 40) (liaSteps := 300000) | lia) (by first | with_reducible assumption | grind | grind (ematch := 40) (gen := 40) (liaSteps := 300000) | lia) (by first | with_reducible assumption | grind | grind (ematch := 40) (gen := 40) (liaSteps := 300000) | lia)) ?_
    rintro ⟨y, hz⟩ ⟨Tz, g0, g1, g2, g3⟩
    try dsimp only at *
    exact ⟨_, Tz, (by first | with_reducible assumption | grind | grind (ematch := 40) (gen := 40) (liaSteps := 300000) | lia), (by first | with_reducible assumption | grind | grind (ematch := 40) (gen := 40) (liaSteps := 300000) | lia), (by first | with_reducible assumption | grind | grind (ematch := 40) (gen := 40) (liaSteps := 300000) | lia), (by first | with_reducible assumption | grind | grind (ematch := 40) (gen := 40) (liaSteps := 300000) | lia), (by first | with_reducible assumption | grind | grind (ematch := 40) (gen := 40) (liaSteps := 300000) | lia), (by first | with_reducible assumption | grind | grind (ematch := 40) (gen := 40) (liaSteps := 300000) | lia), (by first | with_reducible assumption | grind | grind (ematch := 40) (gen := 40) (liaSteps := 300000) | lia), (by first | with_reducible assumption | grind | grind (ematch := 40) (gen := 40) (liaSteps := 300000) | lia)⟩
theorem c_Ma_find {L : q_L} {W : Nat → Prop} {h0 : z_H} {π : Nat → Nat → Option Nat} {N : Nat} {h : z_H} {v0 : Nat} {v1 : Nat} {v2 : Nat} {v3 : Nat} {v4 : Int32} {β : Type} {f : Int32 × z_H → Option β} {Q : β → Prop} (T : q_U L W h0 π h) (kv0 : qκ L v0 = 6) (kv1 : qκ L v1 = 5) (kv2 : qκ L v2 = 8) (kv3 : qκ L v3 = 11) (w0 : W v0) (w1 : W (v0 + 1)) (w2 : W (v0 + 2)) (w3 : W (v0 + 3)) (w4 : W (v0 + 4)) (PV : q_PV (vA h (v1 + 1)) (vA h (v1 + 2)) (vI h v2 2) (vI h v2 4) (vI h v2 5) (vI h v2 3)) (hg : ∀ j, 0 ≤ j → 0 ≤ vA h (v1 + 2) j) (a0 : 0 ≤ v4) (a1 : v4 ≤ 601) (hN : 100000 ≤ N) (H : ∀ y π1 h', q_U L W h0 π1 h' → (∀ a k, ¬ (a = v0 ∧ k = 2) → ¬ (a = v0 ∧ k = 3) → ¬ (a = v0 ∧ k = 4) → π1 a k = π a k) → (π1 v0 2 = some v1) → (π1 v0 3 = some v2) → (π1 v0 4 = some v3) → (y = 0 ∨ y = 1) → (y = 1 → 0 ≤ vI h' v0 1) → (∀ a k, ¬ (a = v0 ∧ (k = 0 ∨ k = 1)) → vI h' a k = vI h a k) → (∀ a j, 0 ≤ j → ¬ (a = v0 + 1 ∨ a = v0 + 2 ∨ a = v0 + 3 ∨ a = v0 + 4) → vA h' a j = vA h a j) → qk (f (y, h')) Q) : qk (z_b (f_Ma_find N v0 v1 v2 v3 v4 h) f) Q := by
  refine qk_b (p_Ma_find T kv0 kv1 kv2 kv3 w0 w1 w2 w3 w4 PV hg a0 a1 hN) ?_
  rintro ⟨y, hz⟩ ⟨π1, Tz, z0, z1, z2, z3, g0, g1, g2, g3⟩
  exact H y π1 hz Tz z0 z1 z2 z3 g0 g1 g2 g3

set_option maxHeartbeats 1000000 in
theorem p_Ma_beginOf {L : q_L} {W : Nat → Prop} {h0 : z_H} {π : Nat → Nat → Option Nat} {N : Nat} {h : z_H} {v0 : Nat} {v1 : Int32} (T : q_U L W h0 π h) (kv0 : qκ L v0 = 6) (b0 : 0 ≤ v1) (b1 : v1 ≤ 3) : qk (f_Ma_beginOf N v0 v1 h) (fun r => r.2 = h ∧ (0 ≤ r.1 ∧ r.1 ≤ 600)) := by
  unfold f_Ma_beginOf
  refine r_Ma_5 T kv0 ?_
  refine r_Ma_e1 T kv0 (by first | with_reducible assumption | grind | grind (ematch := 40) (gen := 40) (liaSteps := 300000) | lia) (by first | with_reducible assumption | grind | grind (ematch := 40) (gen := 40) (liaSteps := 300000) | lia) ?_
  intro x2 ex2 lx2 ux2
  subst ex2
  refine qk_some ?_
  exact ⟨rfl, (by first | with_reducible assumption | grind | grind (ematch := 40) (gen := 40) (liaSteps := 300000) | lia)⟩
theorem c_Ma_beginOf {L : q_L} {W : Nat → Prop} {h0 : z_H} {π : Nat → Nat → Option Nat} {N : Nat} {h : z_H} {v0 : Nat} {v1 : Int32} {β : Type} {f : Int32 × z_H → Option β} {Q : β → Prop} (T : q_U L W h0 π h) (kv0 : qκ L v0 = 6) (b0 : 0 ≤ v1) (b1 : v1 ≤ 3) (H : ∀ y, (0 ≤ y ∧ y ≤ 600) → qk (f (y, h)) Q) : qk (z_b (f_Ma_beginOf N v0 v1 h) f) Q := by
  refine qk_b (p_Ma_beginOf T kv0 b0 b1) ?_
  rintro ⟨y, hz⟩ ⟨hy, g0⟩
  try dsimp only at *
  subst hy
  exact H y g0

set_option maxHeartbeats 1000000 in
theorem p_Ma_endOf {L : q_L} {W : Nat → Prop} {h0 : z_H} {π : Nat → Nat → Option Nat} {N : Nat} {h : z_H} {v0 : Nat} {v1 : Int32} (T : q_U L W h0 π h) (kv0 : qκ L v0 = 6) (b0 : 0 ≤ v1) (b1 : v1 ≤ 3) : qk (f_Ma_endOf N v0 v1 h) (fun r => r.2 = h ∧ (0 ≤ r.1 ∧ r.1 ≤ 600)) := by
  unfold f_Ma_endOf
  refine r_Ma_6 T kv0 ?_
  refine r_Ma_e2 T kv0 (by first | with_reducible assumption | grind | grind (ematch := 40) (gen := 40) (liaSteps := 300000) | lia) (by first | with_reducible assumption | grind | grind (ematch := 40) (gen := 40) (liaSteps := 300000) | lia) ?_
  intro x2 ex2 lx2 ux2
  subst ex2
  refine qk_some ?_
  exact ⟨rfl, (by first | with_reducible assumption | grind | grind (ematch := 40) (gen := 40) (liaSteps := 300000) | lia)⟩
theorem c_Ma_endOf {L : q_L} {W : Nat → Prop} {h0 : z_H} {π : Nat → Nat → Option Nat} {N : Nat} {h : z_H} {v0 : Nat} {v1 : Int32} {β : Type} {f : Int32 × z_H → Option β} {Q : β → Prop} (T : q_U L W h0 π h) (kv0 : qκ L v0 = 6) (b0 : 0 ≤ v1) (b1 : v1 ≤ 3) (H : ∀ y, (0 ≤ y ∧ y ≤ 600) → qk (f (y, h)) Q) : qk (z_b (f_Ma_endOf N v0 v1 h) f) Q := by
  refine qk_b (p_Ma_endOf T kv0 b0 b1) ?_
  rintro ⟨y, hz⟩ ⟨hy, g0⟩
  try dsimp only at *
  subst hy
  exact H y g0

set_option maxHeartbeats 1000000 in
theorem p_Ma_told {L : q_L} {W : Nat → Prop} {h0 : z_H} {π : Nat → Nat → Option Nat} {N : Nat} {pt : Nat} {h : z_H} {v0 : Nat} {v1 : Int32} (T : q_U L W h0 π h) (kv0 : qκ L v0 = 6) (kpt : qκ L pt = 8) (ppt : π v0 3 = some pt) (b0 : 0 ≤ v1) (b1 : v1 ≤ 7) : qk (f_Ma_told N v0 v1 h) (fun r => r.2 = h) := by
  have hh := q_half b0 b1
  unfold f_Ma_told
  refine qk_bs ?_
  refine r_Ma_3 T kv0 ppt ?_
  refine r_Pt_6 T kpt ?_
  intro x3 ex3 lx3 ux3
  subst ex3
  refine qk_if (fun cc1 => ?_) (fun cc1 => ?_)
  · skip
    refine qk_if (fun cc2 => ?_) (fun cc2 => ?_)
    · skip
      refine r_Ma_0 T kv0 ?_
      intro x8 ex8 lx8 ux8
      subst ex8
      unfold f_Ma_told_34
      refine qk_if (fun cc4 => ?_) (fun cc4 => ?_)
      · skip
        refine r_Ma_1 T kv0 ?_
        intro x4i3 ex4i3 lx4i3 ux4i3
        subst ex4i3
        unfold f_Ma_told_52
        refine qk_if (fun cc6 => ?_) (fun cc6 => ?_)
        · skip
          refine qk_some ?_
          exact rfl
        · skip
          refine qk_some ?_
          exact rfl
      · skip
        refine r_Ma_6 T kv0 ?_
        refine r_Ma_e2 T kv0 (by first | with_reducible assumption | grind | grind (ematch := 40) (gen := 40) (liaSteps := 300000) | lia) (by first | with_reducible assumption | grind | grind (ematch := 40) (gen := 40) (liaSteps := 300000) | lia) ?_
        intro x3i3 ex3i3 lx3i3 ux3i3
        subst ex3i3
        unfold f_Ma_told_52
        refine qk_if (fun cc8 => ?_) (fun cc8 => ?_)
        · skip
          refine qk_some ?_
          exact rfl
        · skip
          refine qk_some ?_
          exact rfl
    · skip
      refine r_Ma_5 T kv0 ?_
      refine r_Ma_e1 T kv0 (by first | with_reducible assumption | grind | grind (ematch := 40) (gen := 40) (liaSteps := 300000) | lia) (by first | with_reducible assumption | grind | grind (ematch := 40) (gen := 40) (liaSteps := 300000) | lia) ?_
      intro x7 ex7 lx7 ux7
      subst ex7
      unfold f_Ma_told_34
      refine qk_if (fun cc10 => ?_) (fun cc10 => ?_)
      · skip
        refine r_Ma_1 T kv0 ?_
        intro x4i9 ex4i9 lx4i9 ux4i9
        subst ex4i9
        unfold f_Ma_told_52
        refine qk_if (fun cc12 => ?_) (fun cc12 => ?_)
        · skip
          refine qk_some ?_
          exact rfl
        · skip
          refine qk_some ?_
          exact rfl
      · skip
        refine r_Ma_6 T kv0 ?_
        refine r_Ma_e2 T kv0 (by first | with_reducible assumption | grind | grind (ematch := 40) (gen := 40) (liaSteps := 300000) | lia) (by first | with_reducible assumption | grind | grind (ematch := 40) (gen := 40) (liaSteps := 300000) | lia) ?_
        intro x3i9 ex3i9 lx3i9 ux3i9
        subst ex3i9
        unfold f_Ma_told_52
        refine qk_if (fun cc14 => ?_) (fun cc14 => ?_)
        · skip
          refine qk_some ?_
          exact rfl
        · skip
          refine qk_some ?_
          exact rfl
  · skip
    refine qk_some ?_
    exact rfl
theorem c_Ma_told {L : q_L} {W : Nat → Prop} {h0 : z_H} {π : Nat → Nat → Option Nat} {N : Nat} {pt : Nat} {h : z_H} {v0 : Nat} {v1 : Int32} {β : Type} {f : Int32 × z_H → Option β} {Q : β → Prop} (T : q_U L W h0 π h) (kv0 : qκ L v0 = 6) (kpt : qκ L pt = 8) (ppt : π v0 3 = some pt) (b0 : 0 ≤ v1) (b1 : v1 ≤ 7) (H : ∀ y, qk (f (y, h)) Q) : qk (z_b (f_Ma_told N v0 v1 h) f) Q := by
  refine qk_b (p_Ma_told T kv0 kpt ppt b0 b1) ?_
  rintro ⟨y, hz⟩ hy
  try dsimp only at *
  subst hy
  exact H y 
