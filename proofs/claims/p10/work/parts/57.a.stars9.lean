/-! a walk begun anew answers the same -/
def q_WY (N v0 : Nat) (q s a b : Int32) (h : z_H) (y : Int32) : Prop := ∃ h1, f_Mod_way N v0 q s a b h = some (y, h1)
section QWY
variable {L : q_L} {W : Nat → Prop} {h0 : z_H} {π : Nat → Nat → Option Nat} {N v0 : Nat} {h h' : z_H}
theorem q_st55 (T : q_U L W h0 π h) (k : q_M L π v0) (w : ∀ a, v0 ≤ a → a < v0 + 46 → W a) : ∃ h1, sF h v0 12 55 (.int 0) = some h1 ∧ q_U L W h0 π h1 := by
  obtain ⟨x, e, t⟩ := w_Mo_55 (f := fun h1 => some h1) (Q := fun h1 => q_U L W h0 π h1) (v := 0) T k (w _ (by omega) (by omega)) (fun h1 T1 _ _ _ => ⟨h1, rfl, T1⟩)
  obtain ⟨y, e1, e2⟩ := z_bs e
  cases e2
  exact ⟨x, e1, t⟩
theorem q_st37 (T : q_U L W h0 π h) (k : q_M L π v0) (w : ∀ a, v0 ≤ a → a < v0 + 46 → W a) {i : Int32} (i0 : 1 ≤ i) (i1 : i < 4) : ∃ h1, uI h (v0 + 37) 0 i (-1) = some h1 ∧ q_U L W h0 π h1 := by
  obtain ⟨x, e, t⟩ := w_Mo_e37 (f := fun h1 => some h1) (Q := fun h1 => q_U L W h0 π h1) (i := i) (v := -1) T k (w _ (by omega) (by omega)) i0 i1 (by decide) (by decide) (fun h1 T1 _ _ _ => ⟨h1, rfl, T1⟩)
  obtain ⟨y, e1, e2⟩ := z_bs e
  cases e2
  exact ⟨x, e1, t⟩
theorem q_st38 (T : q_U L W h0 π h) (k : q_M L π v0) (w : ∀ a, v0 ≤ a → a < v0 + 46 → W a) {i : Int32} (i0 : 1 ≤ i) (i1 : i < 4) : ∃ h1, uI h (v0 + 38) 0 i (-1) = some h1 ∧ q_U L W h0 π h1 := by
  obtain ⟨x, e, t⟩ := w_Mo_e38 (f := fun h1 => some h1) (Q := fun h1 => q_U L W h0 π h1) (i := i) (v := -1) T k (w _ (by omega) (by omega)) i0 i1 (by decide) (by decide) (fun h1 T1 _ _ _ => ⟨h1, rfl, T1⟩)
  obtain ⟨y, e1, e2⟩ := z_bs e
  cases e2
  exact ⟨x, e1, t⟩
theorem q_g52 (T : q_U L W h0 π h) (k : q_M L π v0) : gR h v0 12 52 = some (v0 + 37) := by
  obtain ⟨x, e, t⟩ := r_Mo_52 (f := fun x => some x) (Q := fun x => x = v0 + 37) T k ⟨_, rfl, rfl⟩
  obtain ⟨y, e1, e2⟩ := z_bs e
  cases e2
  rw [e1, t]
theorem q_g53 (T : q_U L W h0 π h) (k : q_M L π v0) : gR h v0 12 53 = some (v0 + 38) := by
  obtain ⟨x, e, t⟩ := r_Mo_53 (f := fun x => some x) (Q := fun x => x = v0 + 38) T k ⟨_, rfl, rfl⟩
  obtain ⟨y, e1, e2⟩ := z_bs e
  cases e2
  rw [e1, t]
theorem q_w14 {n : Nat} {v1 v2 v3 v4 v5 v6 v7 v8 : Int32} (c : ¬ 4 ≤ v7) (e7 : v7 + 1 = v8) (e1 : gR h v0 12 52 = some (v0 + 37)) (e2 : uI h (v0 + 37) 0 v7 (-1) = some h') : f_Mod_way_14 N (n + 1) v0 v1 v2 v3 v4 v5 v6 v7 h = f_Mod_way_14 N n v0 v1 v2 v3 v4 v5 v6 v8 h' := by
  rw [f_Mod_way_14, if_neg c, e1, z_b_some, e2, z_b_some, z_b_some, e7]
theorem q_w37 {n : Nat} {v1 v2 v3 v4 v5 v6 v7 v8 : Int32} (c : ¬ 4 ≤ v7) (e7 : v7 + 1 = v8) (e1 : gR h v0 12 53 = some (v0 + 38)) (e2 : uI h (v0 + 38) 0 v7 (-1) = some h') : f_Mod_way_37 N (n + 1) v0 v1 v2 v3 v4 v5 v6 v7 h = f_Mod_way_37 N n v0 v1 v2 v3 v4 v5 v6 v8 h' := by
  rw [f_Mod_way_37, if_neg c, e1, z_b_some, e2, z_b_some, z_b_some, e7]
theorem q_way_r (T : q_U L W h0 π h) (k : q_M L π v0) (w : ∀ a, v0 ≤ a → a < v0 + 46 → W a) (hN : 100000 ≤ N) : ∃ h7, q_rst v0 h = some h7 ∧ ∀ v1 v2 v3 v4, f_Mod_way N v0 v1 v2 v3 v4 h = f_Mod_way_37 N (N - 3) v0 v1 v2 v3 v4 v2 0 4 h7 := by
  obtain ⟨M, rfl⟩ : ∃ M, N = M + 4 := ⟨N - 4, by omega⟩
  obtain ⟨h1, e1, T1⟩ := q_st55 T k w
  obtain ⟨h2, e2, T2⟩ := q_st37 T1 k w (i := 1) (by decide) (by decide)
  obtain ⟨h3, e3, T3⟩ := q_st37 T2 k w (i := 2) (by decide) (by decide)
  obtain ⟨h4, e4, T4⟩ := q_st37 T3 k w (i := 3) (by decide) (by decide)
  obtain ⟨h5, e5, T5⟩ := q_st38 T4 k w (i := 1) (by decide) (by decide)
  obtain ⟨h6, e6, T6⟩ := q_st38 T5 k w (i := 2) (by decide) (by decide)
  obtain ⟨h7, e7, T7⟩ := q_st38 T6 k w (i := 3) (by decide) (by decide)
  refine ⟨h7, ?_, fun v1 v2 v3 v4 => ?_⟩
  · unfold q_rst
    rw [e1, z_b_some, e2, z_b_some, e3, z_b_some, e4, z_b_some, e5, z_b_some, e6, z_b_some, e7]
  · unfold f_Mod_way
    rw [e1, z_b_some, q_w14 (v8 := 2) (by decide) (by decide) (q_g52 T1 k) e2, q_w14 (v8 := 3) (by decide) (by decide) (q_g52 T2 k) e3, q_w14 (v8 := 4) (by decide) (by decide) (q_g52 T3 k) e4, f_Mod_way_14, if_pos (by decide), q_w37 (v8 := 2) (by decide) (by decide) (q_g53 T4 k) e5, q_w37 (v8 := 3) (by decide) (by decide) (q_g53 T5 k) e6, q_w37 (v8 := 4) (by decide) (by decide) (q_g53 T6 k) e7]
    rfl
theorem q_WY_rst {q s a b y : Int32} (hN : 100000 ≤ N) (T : q_U L W h0 π h) (T' : q_U L W h0 π h') (k : q_M L π v0) (w : ∀ a, v0 ≤ a → a < v0 + 46 → W a) (e : q_rst v0 h' = q_rst v0 h) (Y : q_WY N v0 q s a b h y) : q_WY N v0 q s a b h' y := by
  obtain ⟨g7, d1, d2⟩ := q_way_r T k w hN
  obtain ⟨g7', d1', d2'⟩ := q_way_r T' k w hN
  rw [d1, d1'] at e
  cases e
  obtain ⟨h1, z⟩ := Y
  exact ⟨h1, by rw [d2', ← d2]; exact z⟩
theorem q_WY_re {q s a b y y2 : Int32} (Y : q_WY N v0 q s a b h y) (r : q_re v0 h h') (Y2 : q_WY N v0 q s a b h' y2) : y2 = y := by
  obtain ⟨h1, e1⟩ := Y
  obtain ⟨h2, e2⟩ := Y2
  obtain ⟨h3, e3, _⟩ := s2_Mod_way v0 q s a b r y h1 e1
  rw [e2] at e3
  cases e3
  rfl
end QWY
theorem zz_1edc5b7e9d {a1 a2 : Int32} (h0 : ¬ (a1 ≤ a2)) (h1 : (0 ≤ a1) ∧ (a1 ≤ 520)) : a2 < 520 := by simp only [Int32.le_iff_toInt_le, Int32.lt_iff_toInt_lt, ← Int32.toInt_inj, ne_eq] at *; have l0 : (0 : Int32).toInt = 0 := (by decide); have l1 : (520 : Int32).toInt = 520 := (by decide); omega
theorem zz_da18b00111 {a1 : Int32} (h0 : 0 ≤ a1) (h1 : a1 ≤ 520) : 0 ≤ a1 + 1 := by simp only [Int32.le_iff_toInt_le, Int32.lt_iff_toInt_lt, ← Int32.toInt_inj, ne_eq] at *; have b0 := Int32.le_toInt a1; have c0 := Int32.toInt_lt a1; have l0 : (0 : Int32).toInt = 0 := (by decide); have l1 : (520 : Int32).toInt = 520 := (by decide); have l2 : (1 : Int32).toInt = 1 := (by decide); have s0 : (a1 + 1).toInt = a1.toInt + 1 := q_tA (by decide) (by omega) (by omega); omega
theorem zz_eeec2c4d43 {a1 a2 : Int32} (h0 : ¬ (a1 ≤ a2)) (h1 : (0 ≤ a1) ∧ (a1 ≤ 520)) (h2 : 0 ≤ a2) (h3 : a2 ≤ 520) : a2 + 1 ≤ 520 := by simp only [Int32.le_iff_toInt_le, Int32.lt_iff_toInt_lt, ← Int32.toInt_inj, ne_eq] at *; have b0 := Int32.le_toInt a2; have c0 := Int32.toInt_lt a2; have l0 : (0 : Int32).toInt = 0 := (by decide); have l1 : (520 : Int32).toInt = 520 := (by decide); have l2 : (1 : Int32).toInt = 1 := (by decide); have s0 : (a2 + 1).toInt = a2.toInt + 1 := q_tA (by decide) (by omega) (by omega); omega
theorem zz_ad65df86ae {a1 a2 a3 : Int32} (h0 : a1 ≤ a2) (h1 : a3 ≤ a1 + 1) (h2 : -100000 ≤ a1) (h3 : a1 ≤ 100000) (h4 : 0 ≤ a2) (h5 : a2 ≤ 520) : a3 ≤ a2 + 1 := by simp only [Int32.le_iff_toInt_le, Int32.lt_iff_toInt_lt, ← Int32.toInt_inj, ne_eq] at *; have b0 := Int32.le_toInt a1; have c0 := Int32.toInt_lt a1; have b1 := Int32.le_toInt a2; have c1 := Int32.toInt_lt a2; have l0 : (1 : Int32).toInt = 1 := (by decide); have l1 : (-100000 : Int32).toInt = -100000 := (by decide); have l2 : (100000 : Int32).toInt = 100000 := (by decide); have l3 : (0 : Int32).toInt = 0 := (by decide); have l4 : (520 : Int32).toInt = 520 := (by decide); have s0 : (a1 + 1).toInt = a1.toInt + 1 := q_tA (by decide) (by omega) (by omega); have s1 : (a2 + 1).toInt = a2.toInt + 1 := q_tA (by decide) (by omega) (by omega); omega
set_option maxHeartbeats 1000000 in
theorem p_Mod_starsOf_9_n {L : q_L} {W : Nat → Prop} {h0 : z_H} {π : Nat → Nat → Option Nat} {N : Nat} {lo : Nat → Int32} (hqn : q_Q lo 521) : ∀ (n : Nat) (v0 : Nat) (v1 : Int32) (v2 : Int32) (v3 : Int32) (h : z_H), q_U L W h0 π h → q_M L π v0 → (0 ≤ v1) → (v1 < 260) → (0 ≤ v3) → (v3 ≤ 520) → (lo n ≤ v3) → qk (f_Mod_starsOf_9 N  n v0 v1 v2 v3 h) (fun r => r.2 = h ∧ (r.1 = r.1)) := by
  intro n
  induction n with
  | zero => intro v0 v1 v2 v3 h T kv0 q0 q1 a0 a1 hms; have hz := hqn.1; exact absurd hms (by grind)
  | succ n ih =>
    intro v0 v1 v2 v3 h T kv0 q0 q1 a0 a1 hms
    obtain ⟨hq1, hq2, hq3⟩ := hqn.2 n
    rw [f_Mod_starsOf_9]
    refine r_Mo_29 T kv0 ?_
    refine r_Mo_e24 T kv0 q0 q1 ?_
    intro x2 ex2 lx2 ux2
    subst ex2
    refine qk_if (fun cc1 => ?_) (fun cc1 => ?_)
    · skip
      refine qk_some ?_
      exact ⟨rfl, (zz_098cd87474)⟩
    · skip
      refine r_Mo_34 T kv0 ?_
      have o2 := g_Mo_e24 T kv0 v1
      refine r_Mo_e29 T kv0 a0 (zz_1edc5b7e9d cc1 o2) ?_
      intro x5 ex5
      subst ex5
      refine qk_if (fun cc3 => ?_) (fun cc3 => ?_)
      · skip
        refine qk_bs ?_
        refine qk_mono (ih (v0) (v1) (v2) ((v3 + 1)) h T kv0 q0 q1 (zz_da18b00111 a0 a1) (zz_eeec2c4d43 cc1 o2 a0 a1) (zz_ad65df86ae hms hq1 hq2 hq3 a0 a1)) ?_
        rintro ⟨y, hz⟩ ⟨rfl, g0⟩
        try dsimp only at *
        exact ⟨rfl, g0⟩
      · skip
        refine qk_bs ?_
        refine qk_bs ?_
        refine qk_mono (ih (v0) (v1) ((v2 + 1)) ((v3 + 1)) h T kv0 q0 q1 (zz_da18b00111 a0 a1) (zz_eeec2c4d43 cc1 o2 a0 a1) (zz_ad65df86ae hms hq1 hq2 hq3 a0 a1)) ?_
        rintro ⟨y, hz⟩ ⟨rfl, g0⟩
        try dsimp only at *
        exact ⟨rfl, g0⟩
theorem p_Mod_starsOf_9 {L : q_L} {W : Nat → Prop} {h0 : z_H} {π : Nat → Nat → Option Nat} {N : Nat} {h : z_H} {v0 : Nat} {v1 : Int32} {v2 : Int32} {v3 : Int32} (T : q_U L W h0 π h) (kv0 : q_M L π v0) (q0 : 0 ≤ v1) (q1 : v1 < 260) (a0 : 0 ≤ v3) (a1 : v3 ≤ 520) (hN : 100000 ≤ N) : qk (f_Mod_starsOf_9 N  N v0 v1 v2 v3 h) (fun r => r.2 = h ∧ (r.1 = r.1)) := by
  have hq := q_qnN hN
  refine p_Mod_starsOf_9_n (q_lo (M := 521) (by decide) (by decide)) N v0 v1 v2 v3 h T kv0 q0 q1 a0 a1 ?_ 
  show 521 - q_n N ≤ _
  rw [hq]
  lia
