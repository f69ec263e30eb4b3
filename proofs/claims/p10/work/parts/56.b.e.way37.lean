theorem zz_e4975ee6ec {a1 a2 : Int32} (h0 : 4 ≤ a1) (h1 : a2 ≤ 3) : a2 < a1 := by simp only [Int32.le_iff_toInt_le, Int32.lt_iff_toInt_lt, ← Int32.toInt_inj, ne_eq] at *; have l0 : (4 : Int32).toInt = 4 := (by decide); have l1 : (3 : Int32).toInt = 3 := (by decide); omega
theorem zz_ec74f043d4 {a1 a2 a3 : Int32} (h0 : (a1 = -1) ∨ ((a2 ≤ a1) ∧ (a1 ≤ a3))) : (a1 = -1) ∨ ((a2 ≤ a1) ∧ (a1 ≤ a3)) := by simp only [Int32.le_iff_toInt_le, Int32.lt_iff_toInt_lt, ← Int32.toInt_inj, ne_eq] at *; have l0 : (-1 : Int32).toInt = -1 := (by decide); omega
theorem zz_96afbe41ec {a1 : Int32} (h0 : ¬ (4 ≤ a1)) : a1 < 4 := by simp only [Int32.le_iff_toInt_le, Int32.lt_iff_toInt_lt, ← Int32.toInt_inj, ne_eq] at *; have l0 : (4 : Int32).toInt = 4 := (by decide); omega
theorem zz_5d5ac12564 {a1 : Int32} (h0 : 1 ≤ a1) (h1 : ¬ (4 ≤ a1)) : 1 ≤ a1 + 1 := by simp only [Int32.le_iff_toInt_le, Int32.lt_iff_toInt_lt, ← Int32.toInt_inj, ne_eq] at *; have b0 := Int32.le_toInt a1; have c0 := Int32.toInt_lt a1; have l0 : (1 : Int32).toInt = 1 := (by decide); have l1 : (4 : Int32).toInt = 4 := (by decide); have s0 : (a1 + 1).toInt = a1.toInt + 1 := q_tA (by decide) (by omega) (by omega); omega
theorem zz_11434e2774 {a1 : Int32} (h0 : ¬ (4 ≤ a1)) (h1 : 1 ≤ a1) : a1 + 1 ≤ 4 := by simp only [Int32.le_iff_toInt_le, Int32.lt_iff_toInt_lt, ← Int32.toInt_inj, ne_eq] at *; have b0 := Int32.le_toInt a1; have c0 := Int32.toInt_lt a1; have l0 : (4 : Int32).toInt = 4 := (by decide); have l1 : (1 : Int32).toInt = 1 := (by decide); have s0 : (a1 + 1).toInt = a1.toInt + 1 := q_tA (by decide) (by omega) (by omega); omega
theorem zz_ebd3da92fe {a1 a2 : Int32} (h0 : a1 < a2 + 1) (h1 : ¬ (a1 = a2)) (h2 : 1 ≤ a2) (h3 : ¬ (4 ≤ a2)) : a1 < a2 := by simp only [Int32.le_iff_toInt_le, Int32.lt_iff_toInt_lt, ← Int32.toInt_inj, ne_eq] at *; have b0 := Int32.le_toInt a2; have c0 := Int32.toInt_lt a2; have l0 : (1 : Int32).toInt = 1 := (by decide); have l1 : (4 : Int32).toInt = 4 := (by decide); have s0 : (a2 + 1).toInt = a2.toInt + 1 := q_tA (by decide) (by omega) (by omega); omega
theorem zz_e71a6907b8 {a1 a2 a3 : Int32} (h0 : a1 ≤ a2) (h1 : a3 ≤ a1 + 1) (h2 : -100000 ≤ a1) (h3 : ¬ (4 ≤ a2)) (h4 : 1 ≤ a2) : a3 ≤ a2 + 1 := by simp only [Int32.le_iff_toInt_le, Int32.lt_iff_toInt_lt, ← Int32.toInt_inj, ne_eq] at *; have b0 := Int32.le_toInt a1; have c0 := Int32.toInt_lt a1; have b1 := Int32.le_toInt a2; have c1 := Int32.toInt_lt a2; have l0 : (1 : Int32).toInt = 1 := (by decide); have l1 : (-100000 : Int32).toInt = -100000 := (by decide); have l2 : (4 : Int32).toInt = 4 := (by decide); have s0 : (a1 + 1).toInt = a1.toInt + 1 := q_tA (by decide) (by omega) (by omega); have s1 : (a2 + 1).toInt = a2.toInt + 1 := q_tA (by decide) (by omega) (by omega); omega
set_option maxHeartbeats 2000000 in
theorem p_Mod_way_37_n {L : q_L} {W : Nat → Prop} {h0 : z_H} {π : Nat → Nat → Option Nat} {N : Nat} {st : Int32} {lo : Nat → Int32} (hqn : q_Q lo 5) : ∀ (n : Nat) (v0 : Nat) (v1 : Int32) (v2 : Int32) (v3 : Int32) (v4 : Int32) (v5 : Int32) (v6 : Int32) (v7 : Int32) (h : z_H), q_U L W h0 π h → q_M L π v0 → (∀ a, v0 ≤ a → a < v0 + 46 → W a) → (q_PM h v0 v1) → (0 ≤ v1) → (v1 < 260) → (v3 ≤ 61) → (v4 ≤ 61) → (0 ≤ v5) → (v5 ≤ vI h v0 54) → (st ≤ v5) → (1 ≤ v7) → (v7 ≤ 4) → (∀ g, 1 ≤ g → g < v7 → vA h (v0 + 38) g = -1) → (100000 ≤ N) → (lo n ≤ v7) → qk (f_Mod_way_37 N  n v0 v1 v2 v3 v4 v5 v6 v7 h) (fun r => q_U L W h0 π r.2 ∧ (r.1 = -1 ∨ (st ≤ r.1 ∧ r.1 ≤ vI h v0 54)) ∧ (∀ a k, ¬ (a = v0 ∧ (k = 55)) → vI r.2 a k = vI h a k) ∧ (∀ a j, 0 ≤ j → ¬ (a = v0 + 37 ∨ a = v0 + 38) → vA r.2 a j = vA h a j) ∧ (q_rst v0 r.2 = q_rst v0 h) ∧ (r.1 ≠ -1 → q_GS r.2 v0)) := by
  intro n
  induction n with
  | zero => intro v0 v1 v2 v3 v4 v5 v6 v7 h T kv0 wM PM q0 q1 ka kb p0 p1 st_ g0 g1 Z hN hms; have hz := hqn.1; exact absurd hms (by grind)
  | succ n ih =>
    intro v0 v1 v2 v3 v4 v5 v6 v7 h T kv0 wM PM q0 q1 ka kb p0 p1 st_ g0 g1 Z hN hms
    obtain ⟨hq1, hq2, hq3⟩ := hqn.2 n
    rw [f_Mod_way_37]
    refine qk_if (fun cc1 => ?_) (fun cc1 => ?_)
    · skip
      refine r_Mo_35 T kv0 ?_
      refine r_Mo_e30 T kv0 q0 q1 ?_
      intro x3 ex3
      subst ex3
      refine qk_if (fun cc2 => ?_) (fun cc2 => ?_)
      · skip
        unfold f_Mod_way_72
        refine r_Mo_28 T kv0 ?_
        refine r_Mo_e23 T kv0 q0 q1 ?_
        intro x2i3 ex2i3 lx2i3 ux2i3
        subst ex2i3
        refine qk_mono (p_Mod_way_80 (v0 := v0) (v1 := v1) (v3 := v3) (v4 := v4) (v5 := v5) (v6 := v6) (v7 := (vA h (v0 + 23) v1)) (f0 := (vA h (v0 + 23) v1)) (st := st) T kv0 wM (by clear ih; exact PM.2.2.2) lx2i3 q0 q1 ka kb p0 p1 st_ (zz_52924cceca) ux2i3 (by clear ih; exact q_SM_nil rfl (fun g a b => Z g a (zz_e4975ee6ec cc1 b))) hN) ?_
        rintro ⟨y, hz⟩ ⟨Tz, g0, g1, g2, g3, g4⟩
        try dsimp only at *
        exact ⟨Tz, (zz_ec74f043d4 g0), (by clear ih; show ∀ a k, ¬ (a = v0 ∧ (k = 55)) → vI hz a k = vI h a k; intro a k n0; rw [g1 a k (by omega)]), (by clear ih; show ∀ a j, 0 ≤ j → ¬ (a = v0 + 37 ∨ a = v0 + 38) → vA hz a j = vA h a j; intro a j j0 n0; rw [g2 a j j0 (by omega)]), (by clear ih; show q_rst v0 hz = q_rst v0 h; exact g3), (by clear ih; show y ≠ -1 → q_GS hz v0; exact g4)⟩
      · skip
        refine qk_if (fun cc5 => ?_) (fun cc5 => ?_)
        · skip
          unfold f_Mod_way_72
          refine r_Mo_28 T kv0 ?_
          refine r_Mo_e23 T kv0 q0 q1 ?_
          intro x2i6 ex2i6 lx2i6 ux2i6
          subst ex2i6
          refine qk_mono (p_Mod_way_80 (v0 := v0) (v1 := v1) (v3 := v3) (v4 := v4) (v5 := v5) (v6 := v6) (v7 := (vA h (v0 + 23) v1)) (f0 := (vA h (v0 + 23) v1)) (st := st) T kv0 wM (by clear ih; exact PM.2.2.2) lx2i6 q0 q1 ka kb p0 p1 st_ (zz_52924cceca) ux2i6 (by clear ih; exact q_SM_nil rfl (fun g a b => Z g a (zz_e4975ee6ec cc1 b))) hN) ?_
          rintro ⟨y, hz⟩ ⟨Tz, g0, g1, g2, g3, g4⟩
          try dsimp only at *
          exact ⟨Tz, (zz_ec74f043d4 g0), (by clear ih; show ∀ a k, ¬ (a = v0 ∧ (k = 55)) → vI hz a k = vI h a k; intro a k n0; rw [g1 a k (by omega)]), (by clear ih; show ∀ a j, 0 ≤ j → ¬ (a = v0 + 37 ∨ a = v0 + 38) → vA hz a j = vA h a j; intro a j j0 n0; rw [g2 a j j0 (by omega)]), (by clear ih; show q_rst v0 hz = q_rst v0 h; exact g3), (by clear ih; show y ≠ -1 → q_GS hz v0; exact g4)⟩
        · skip
          refine qk_some ?_
          exact ⟨T, (zz_ce0b8b5e68), (by clear ih; show ∀ a k, ¬ (a = v0 ∧ (k = 55)) → vI h a k = vI h a k; intro a k n0; rfl), (by clear ih; show ∀ a j, 0 ≤ j → ¬ (a = v0 + 37 ∨ a = v0 + 38) → vA h a j = vA h a j; intro a j j0 n0; rfl), (by clear ih; show q_rst v0 h = q_rst v0 h; exact rfl), (by clear ih; show (-1) ≠ -1 → q_GS h v0; exact fun n => absurd rfl n)⟩
    · skip
      refine r_Mo_53 T kv0 ?_
      refine w_Mo_e38 T kv0 (wM _ (by omega) (by omega)) g0 (zz_96afbe41ec cc1) (by decide) (by decide) ?_
      intro h7 Th7 ih7 ah7 dh7
      refine qk_bs ?_
      have o8 : vI h7 v0 54 = vI h v0 54 := (by rw [ih7 v0 54])
      refine qk_mono (ih (v0) (v1) (v2) (v3) (v4) (v5) (v6) ((v7 + 1)) h7 Th7 kv0 wM (by clear ih; exact (q_PM_eq2 PM (by rw [ah7 (v0 + 23) v1 q0, if_neg (fun z => absurd z.1 (by omega))]) (by rw [ah7 (v0 + 24) v1 q0, if_neg (fun z => absurd z.1 (by omega))]) (fun j ja _ => (by have j0 := Int32.le_trans PM.1 ja; exact ⟨(by rw [ah7 (v0 + 26) j j0, if_neg (fun z => absurd z.1 (by omega))]), (by rw [ah7 (v0 + 27) j j0, if_neg (fun z => absurd z.1 (by omega))])⟩)))) q0 q1 ka kb p0 (zz_c508abc292 o8 p1) st_ (zz_5d5ac12564 g0 cc1) (zz_11434e2774 cc1 g0) (by clear ih; intro g a b; have gz : 0 ≤ g := Int32.le_trans (by decide) a; rw [ah7 (v0 + 38) g gz]; by_cases c : g = v7; (rw [if_pos ⟨rfl, c⟩]); (rw [if_neg (fun z => c z.2)]; exact Z g a (zz_ebd3da92fe b c g0 cc1))) hN (zz_e71a6907b8 hms hq1 hq2 cc1 g0)) ?_
      rintro ⟨y, hz⟩ ⟨Tz, g0, g1, g2, g3, g4⟩
      try dsimp only at *
      exact ⟨Tz, (zz_87647c7f75 g0 o8), (by clear ih; show ∀ a k, ¬ (a = v0 ∧ (k = 55)) → vI hz a k = vI h a k; intro a k n0; rw [g1 a k (by omega), ih7]), (by clear ih; show ∀ a j, 0 ≤ j → ¬ (a = v0 + 37 ∨ a = v0 + 38) → vA hz a j = vA h a j; intro a j j0 n0; rw [g2 a j j0 (by omega), ah7 a j j0, if_neg (by omega)]), (by clear ih; show q_rst v0 hz = q_rst v0 h; exact (g3).trans (dh7)), (by clear ih; show y ≠ -1 → q_GS hz v0; exact g4)⟩
theorem p_Mod_way_37 {L : q_L} {W : Nat → Prop} {h0 : z_H} {π : Nat → Nat → Option Nat} {N : Nat} {st : Int32} {h : z_H} {v0 : Nat} {v1 : Int32} {v2 : Int32} {v3 : Int32} {v4 : Int32} {v5 : Int32} {v6 : Int32} {v7 : Int32} (T : q_U L W h0 π h) (kv0 : q_M L π v0) (wM : ∀ a, v0 ≤ a → a < v0 + 46 → W a) (PM : q_PM h v0 v1) (q0 : 0 ≤ v1) (q1 : v1 < 260) (ka : v3 ≤ 61) (kb : v4 ≤ 61) (p0 : 0 ≤ v5) (p1 : v5 ≤ vI h v0 54) (st_ : st ≤ v5) (g0 : 1 ≤ v7) (g1 : v7 ≤ 4) (Z : ∀ g, 1 ≤ g → g < v7 → vA h (v0 + 38) g = -1) (hN : 100000 ≤ N) : qk (f_Mod_way_37 N  N v0 v1 v2 v3 v4 v5 v6 v7 h) (fun r => q_U L W h0 π r.2 ∧ (r.1 = -1 ∨ (st ≤ r.1 ∧ r.1 ≤ vI h v0 54)) ∧ (∀ a k, ¬ (a = v0 ∧ (k = 55)) → vI r.2 a k = vI h a k) ∧ (∀ a j, 0 ≤ j → ¬ (a = v0 + 37 ∨ a = v0 + 38) → vA r.2 a j = vA h a j) ∧ (q_rst v0 r.2 = q_rst v0 h) ∧ (r.1 ≠ -1 → q_GS r.2 v0)) := by
  have hq := q_qnN hN
  refine p_Mod_way_37_n (q_lo (M := 5) (by decide) (by decide)) N v0 v1 v2 v3 v4 v5 v6 v7 h T kv0 wM PM q0 q1 ka kb p0 p1 st_ g0 g1 Z hN ?_ 
  show 5 - q_n N ≤ _
  rw [hq]
  lia
