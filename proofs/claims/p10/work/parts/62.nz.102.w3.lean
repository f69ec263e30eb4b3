/-! what the reference leaves -/
set_option maxHeartbeats 2000000 in
theorem ii_Mod_measure {L : q_L} {π : Nat → Nat → Option Nat} {N : Nat} {h : z_H} {v0 : Int64} {v2 : Int32} (T : x_U L π h)  (hN : 100000 ≤ N) : qi (f_Mod_measure N v0 v2 h) (fun r => r.2 = h) := by
  rw [q_measure hN]
  exact qi_some rfl
theorem jj_Mod_measure {L : q_L} {π : Nat → Nat → Option Nat} {N : Nat} {h : z_H} {v0 : Int64} {v2 : Int32} {β : Type} {f : Int32 × z_H → Option β} {Q : β → Prop} (T : x_U L π h)  (hN : 100000 ≤ N) (H : ∀ y, qi (f (y, h)) Q) : qi (z_b (f_Mod_measure N v0 v2 h) f) Q := by
  refine qi_b (ii_Mod_measure  T  hN) ?_
  rintro ⟨y, hz⟩ e
  dsimp only at *; subst e; exact H y 

set_option maxHeartbeats 2000000 in
theorem ii_Mod_script_43 {L : q_L} {π : Nat → Nat → Option Nat} {N : Nat} : ∀ (m9 : Nat) (v0 : Nat) (v1 : Int64) (v4 : Int32) (h : z_H), x_U L π h → q_M L π v0 → qi (f_Mod_script_43 N m9 v0 v1 v4 h) (fun r => x_U L π r.2 ∧ (∀ a k, ¬ ((a = v0 ∧ k = 3)) → vI r.2 a k = vI h a k) ∧ (∀ a, ¬ (a = (v0 + 1)) → vA r.2 a = vA h a) ∧ (∀ a, ¬ (a < a) → vL r.2 a = vL h a)) := by
  intro m9
  induction m9 with
  | zero => intro v0 v1 v4 h T kv0 r e; rw [f_Mod_script_43] at e; cases e
  | succ m9 ih =>
    intro v0 v1 v4 h T kv0
    rw [f_Mod_script_43]
    refine qi_if (fun cc1 => ?_) (fun cc1 => ?_)
    · skip
      refine l_gI (e := (vI h v0 3)) rfl ?_
      refine qi_some ?_
      exact ⟨T, (fun a k na => by rfl), (fun a na => by rfl), (fun a na => by rfl)⟩
    · skip
      refine qi_bs ?_
      refine qi_if (fun cc2 => ?_) (fun cc2 => ?_)
      · skip
        refine qi_bs ?_
        refine qi_mono (ih v0 v1 (v4 + (-8)) h T kv0) ?_
        rintro ⟨yrz3_4, hrz3_4⟩ ⟨Thrz3_4, frz3_4_I, frz3_4_A, frz3_4_L⟩
        try dsimp only at *
        exact ⟨Thrz3_4, (fun a k na => by rw [frz3_4_I a k (fun z => na (z))]), (fun a na => by rw [frz3_4_A a (fun z => na (z))]), (fun a na => by rw [frz3_4_L a (by omega)])⟩
      · skip
        refine l_gR T (d_Mo_0 kv0) ?_
        refine l_gI (e := (vI h v0 3)) rfl ?_
        refine o_uI T ?_
        intro h7_5 Th7_5 jh7_5 ih7_5 ah7_5 bh7_5 lh7_5
        refine l_gI (e := (vI h v0 3)) (by rw [ih7_5 v0 3]) ?_
        refine o_sI Th7_5 (q_Mk kv0) (by decide) rfl ?_
        intro h9_6 Th9_6 ih9_6 ah9_6 lh9_6
        refine qi_bs ?_
        refine qi_mono (ih v0 v1 (v4 + (-8)) h9_6 Th9_6 kv0) ?_
        rintro ⟨yrz7_8, hrz7_8⟩ ⟨Thrz7_8, frz7_8_I, frz7_8_A, frz7_8_L⟩
        try dsimp only at *
        exact ⟨Thrz7_8, (fun a k na => by rw [frz7_8_I a k (fun z => na (z)), ih9_6 a k, if_neg (fun z => na (z)), ih7_5 a k]), (fun a na => by rw [frz7_8_A a (fun z => na (z)), ah9_6 a, bh7_5 a (fun z => na (z))]), (fun a na => by rw [frz7_8_L a (by omega), lh9_6 a, lh7_5 a])⟩
theorem jj_Mod_script_43 {L : q_L} {π : Nat → Nat → Option Nat} {N : Nat} {m9 : Nat} {h : z_H} {v0 : Nat} {v1 : Int64} {v4 : Int32} {β : Type} {f : Int32 × z_H → Option β} {Q : β → Prop} (T : x_U L π h) (kv0 : q_M L π v0)  (H : ∀ y h', x_U L π h' → (∀ a k, ¬ ((a = v0 ∧ k = 3)) → vI h' a k = vI h a k) → (∀ a, ¬ (a = (v0 + 1)) → vA h' a = vA h a) → (∀ a, ¬ (a < a) → vL h' a = vL h a) → qi (f (y, h')) Q) : qi (z_b (f_Mod_script_43 N m9 v0 v1 v4 h) f) Q := by
  refine qi_b (ii_Mod_script_43 m9 v0 v1 v4 h  T kv0 ) ?_
  rintro ⟨y, hz⟩ ⟨Tz, g0, g1, g2⟩
  exact H y hz Tz g0 g1 g2

set_option maxHeartbeats 2000000 in
theorem ii_Mod_script {L : q_L} {π : Nat → Nat → Option Nat} {N : Nat} {h : z_H} {v0 : Nat} {v1 : Int64} (T : x_U L π h) (kv0 : q_M L π v0) (hN : 100000 ≤ N) : qi (f_Mod_script N v0 v1 h) (fun r => x_U L π r.2 ∧ (∀ a k, ¬ ((a = v0 ∧ k = 6) ∨ (a = v0 ∧ k = 3)) → vI r.2 a k = vI h a k) ∧ (∀ a, ¬ (a = (v0 + 1)) → vA r.2 a = vA h a) ∧ (∀ a, ¬ (a < a) → vL r.2 a = vL h a)) := by
  unfold f_Mod_script
  refine jj_Mod_measure (v0 := v1) (v2 := (1 : Int32)) T hN ?_
  intro yr1_1 
  try dsimp only
  refine qi_bs ?_
  refine qi_if (fun cc2 => ?_) (fun cc2 => ?_)
  · skip
    refine l_gI (e := (vI h v0 3)) rfl ?_
    refine qi_if (fun cc3 => ?_) (fun cc3 => ?_)
    · skip
      refine o_sI T (q_Mk kv0) (by decide) rfl ?_
      intro h6_4 Th6_4 ih6_4 ah6_4 lh6_4
      refine qi_tailp ?_
      refine jj_Mod_script_43 (v0 := v0) (v1 := v1) (v4 := (56 : Int32)) Th6_4 kv0 ?_
      intro yrz5_6 hrz5_6 Thrz5_6 frz5_6_I frz5_6_A frz5_6_L
      try dsimp only
      refine qi_some ?_
      exact ⟨Thrz5_6, (fun a k na => by rw [frz5_6_I a k (fun z => na (Or.inr (z))), ih6_4 a k, if_neg (fun z => na (Or.inl z))]), (fun a na => by rw [frz5_6_A a (fun z => na (z)), ah6_4 a]), (fun a na => by rw [frz5_6_L a (by omega), lh6_4 a])⟩
    · skip
      refine l_gO ?_
      refine jj_Mod_fail (v0 := v0) (v1 := (2 : Int32)) T kv0 ?_
      intro yr8_7 hr8_7 Thr8_7 gr8_7_0 gr8_7_1 fr8_7_I fr8_7_A fr8_7_L
      try dsimp only
      refine qi_some ?_
      exact ⟨Thr8_7, (fun a k na => by rw [fr8_7_I a k (fun z => na (Or.inl z))]), (fun a na => by rw [fr8_7_A a (by omega)]), (fun a na => by rw [fr8_7_L a (by omega)])⟩
  · skip
    refine l_gO ?_
    refine jj_Mod_fail (v0 := v0) (v1 := (1 : Int32)) T kv0 ?_
    intro yr10_8 hr10_8 Thr10_8 gr10_8_0 gr10_8_1 fr10_8_I fr10_8_A fr10_8_L
    try dsimp only
    refine qi_some ?_
    exact ⟨Thr10_8, (fun a k na => by rw [fr10_8_I a k (fun z => na (Or.inl z))]), (fun a na => by rw [fr10_8_A a (by omega)]), (fun a na => by rw [fr10_8_L a (by omega)])⟩
theorem jj_Mod_script {L : q_L} {π : Nat → Nat → Option Nat} {N : Nat} {h : z_H} {v0 : Nat} {v1 : Int64} {β : Type} {f : Int32 × z_H → Option β} {Q : β → Prop} (T : x_U L π h) (kv0 : q_M L π v0) (hN : 100000 ≤ N) (H : ∀ y h', x_U L π h' → (∀ a k, ¬ ((a = v0 ∧ k = 6) ∨ (a = v0 ∧ k = 3)) → vI h' a k = vI h a k) → (∀ a, ¬ (a = (v0 + 1)) → vA h' a = vA h a) → (∀ a, ¬ (a < a) → vL h' a = vL h a) → qi (f (y, h')) Q) : qi (z_b (f_Mod_script N v0 v1 h) f) Q := by
  refine qi_b (ii_Mod_script  T kv0 hN) ?_
  rintro ⟨y, hz⟩ ⟨Tz, g0, g1, g2⟩
  exact H y hz Tz g0 g1 g2

set_option maxHeartbeats 2000000 in
theorem ii_Mod_clear {L : q_L} {π : Nat → Nat → Option Nat} {N : Nat} {h : z_H} {v0 : Nat} {v1 : Int32} (T : x_U L π h) (kv0 : q_M L π v0)  : qi (f_Mod_clear N v0 v1 h) (fun r => x_U L π r.2 ∧ (∀ a k, ¬ ((a = v0 ∧ k = 6) ∨ (a = v0 ∧ k = 3) ∨ (a = v0 ∧ k = 4)) → vI r.2 a k = vI h a k) ∧ (∀ a, ¬ (a < a) → vA r.2 a = vA h a) ∧ (∀ a, ¬ (a < a) → vL r.2 a = vL h a)) := by
  unfold f_Mod_clear
  refine jj_Mod_in (v0 := v1) (v1 := (0 : Int32)) (v2 := (1 : Int32)) T (fun _ g1r1_1_0 => ?_) (fun _ g0r1_1_0 => ?_)
  · try dsimp only
    refine qi_if (fun cc2 => absurd cc2 (by decide)) (fun _ => ?_)
    refine o_sI T (q_Mk kv0) (by decide) rfl ?_
    intro h3_3 Th3_3 ih3_3 ah3_3 lh3_3
    refine qi_if (fun cc4 => ?_) (fun cc4 => ?_)
    · skip
      refine l_gI (e := (vI h v0 3)) (by rw [ih3_3 v0 3, if_neg (fun z => absurd z.2 (by decide))]) ?_
      unfold f_Mod_clear_35
      refine qi_if (fun _ => ?_) (fun cc6 => absurd cc4 cc6)
      refine o_sI Th3_3 (q_Mk kv0) (by decide) rfl ?_
      intro h3i5_7 Th3i5_7 ih3i5_7 ah3i5_7 lh3i5_7
      refine qi_some ?_
      exact ⟨Th3i5_7, (fun a k na => by rw [ih3i5_7 a k, if_neg (fun z => na (Or.inr (Or.inl z))), ih3_3 a k, if_neg (fun z => na (Or.inl z))]), (fun a na => by rw [ah3i5_7 a, ah3_3 a]), (fun a na => by rw [lh3i5_7 a, lh3_3 a])⟩
    · skip
      refine l_gI (e := (vI h v0 4)) (by rw [ih3_3 v0 4, if_neg (fun z => absurd z.2 (by decide))]) ?_
      unfold f_Mod_clear_35
      refine qi_if (fun cc9 => absurd cc9 cc4) (fun _ => ?_)
      refine o_sI Th3_3 (q_Mk kv0) (by decide) rfl ?_
      intro h2i8_10 Th2i8_10 ih2i8_10 ah2i8_10 lh2i8_10
      refine qi_some ?_
      exact ⟨Th2i8_10, (fun a k na => by rw [ih2i8_10 a k, if_neg (fun z => na (Or.inr (Or.inr (z)))), ih3_3 a k, if_neg (fun z => na (Or.inl z))]), (fun a na => by rw [ah2i8_10 a, ah3_3 a]), (fun a na => by rw [lh2i8_10 a, lh3_3 a])⟩
  · try dsimp only
    refine qi_if (fun _ => ?_) (fun cc11 => absurd (by decide) cc11)
    refine l_gO ?_
    refine jj_Mod_fail (v0 := v0) (v1 := (1 : Int32)) T kv0 ?_
    intro yr8_12 hr8_12 Thr8_12 gr8_12_0 gr8_12_1 fr8_12_I fr8_12_A fr8_12_L
    try dsimp only
    refine qi_some ?_
    exact ⟨Thr8_12, (fun a k na => by rw [fr8_12_I a k (fun z => na (Or.inl z))]), (fun a na => by rw [fr8_12_A a (by omega)]), (fun a na => by rw [fr8_12_L a (by omega)])⟩
theorem jj_Mod_clear {L : q_L} {π : Nat → Nat → Option Nat} {N : Nat} {h : z_H} {v0 : Nat} {v1 : Int32} {β : Type} {f : Int32 × z_H → Option β} {Q : β → Prop} (T : x_U L π h) (kv0 : q_M L π v0)  (H : ∀ y h', x_U L π h' → (∀ a k, ¬ ((a = v0 ∧ k = 6) ∨ (a = v0 ∧ k = 3) ∨ (a = v0 ∧ k = 4)) → vI h' a k = vI h a k) → (∀ a, ¬ (a < a) → vA h' a = vA h a) → (∀ a, ¬ (a < a) → vL h' a = vL h a) → qi (f (y, h')) Q) : qi (z_b (f_Mod_clear N v0 v1 h) f) Q := by
  refine qi_b (ii_Mod_clear  T kv0 ) ?_
  rintro ⟨y, hz⟩ ⟨Tz, g0, g1, g2⟩
  exact H y hz Tz g0 g1 g2

set_option maxHeartbeats 2000000 in
theorem ii_Mod_where {L : q_L} {π : Nat → Nat → Option Nat} {N : Nat} {h : z_H} {v0 : Nat} (T : x_U L π h) (kv0 : q_M L π v0)  : qi (f_Mod_where N v0 h) (fun r => x_U L π r.2 ∧ (∀ a k, ¬ ((a = v0 ∧ k = 6)) → vI r.2 a k = vI h a k) ∧ (∀ a, ¬ (a < a) → vA r.2 a = vA h a) ∧ (∀ a, ¬ (a < a) → vL r.2 a = vL h a)) := by
  unfold f_Mod_where
  refine o_sI T (q_Mk kv0) (by decide) rfl ?_
  intro h1_1 Th1_1 ih1_1 ah1_1 lh1_1
  refine l_gI (e := (vI h v0 5)) (by rw [ih1_1 v0 5, if_neg (fun z => absurd z.2 (by decide))]) ?_
  refine qi_some ?_
  exact ⟨Th1_1, (fun a k na => by rw [ih1_1 a k, if_neg (fun z => na (z))]), (fun a na => by rw [ah1_1 a]), (fun a na => by rw [lh1_1 a])⟩
theorem jj_Mod_where {L : q_L} {π : Nat → Nat → Option Nat} {N : Nat} {h : z_H} {v0 : Nat} {β : Type} {f : Int32 × z_H → Option β} {Q : β → Prop} (T : x_U L π h) (kv0 : q_M L π v0)  (H : ∀ y h', x_U L π h' → (∀ a k, ¬ ((a = v0 ∧ k = 6)) → vI h' a k = vI h a k) → (∀ a, ¬ (a < a) → vA h' a = vA h a) → (∀ a, ¬ (a < a) → vL h' a = vL h a) → qi (f (y, h')) Q) : qi (z_b (f_Mod_where N v0 h) f) Q := by
  refine qi_b (ii_Mod_where  T kv0 ) ?_
  rintro ⟨y, hz⟩ ⟨Tz, g0, g1, g2⟩
  exact H y hz Tz g0 g1 g2

set_option maxHeartbeats 2000000 in
theorem ii_Mod_out {L : q_L} {π : Nat → Nat → Option Nat} {N : Nat} {h : z_H} {v0 : Nat} {v1 : Int32} (T : x_U L π h) (kv0 : q_M L π v0)  : qi (f_Mod_out N v0 v1 h) (fun r => x_U L π r.2 ∧ (∀ a k, ¬ ((a = v0 ∧ k = 6)) → vI r.2 a k = vI h a k) ∧ (∀ a, ¬ (a < a) → vA r.2 a = vA h a) ∧ (∀ a, ¬ (a < a) → vL r.2 a = vL h a)) := by
  unfold f_Mod_out
  refine l_gI (e := (vI h v0 69)) rfl ?_
  refine jj_Mod_in (v0 := v1) (v1 := (0 : Int32)) (v2 := ((vI h v0 69) - 1)) T (fun _ g1r2_1_0 => ?_) (fun _ g0r2_1_0 => ?_)
  · try dsimp only
    refine qi_if (fun cc2 => absurd cc2 (by decide)) (fun _ => ?_)
    unfold f_Mod_out_20
    refine o_sI T (q_Mk kv0) (by decide) rfl ?_
    intro h1i3_4 Th1i3_4 ih1i3_4 ah1i3_4 lh1i3_4
    refine l_gI (e := 0) (by rw [ih1i3_4 v0 6, if_pos ⟨rfl, rfl⟩]) ?_
    refine qi_if (fun _ => ?_) (fun cc5 => absurd (by decide) cc5)
    refine l_gR Th1i3_4 (d_Mo_62 kv0) ?_
    refine l_aI (e := (vA h (v0 + 43) v1)) (fun ix6 => (by rw [ah1i3_4 (v0 + 43)])) (fun ix6 => ?_)
    refine qi_some ?_
    exact ⟨Th1i3_4, (fun a k na => by rw [ih1i3_4 a k, if_neg (fun z => na (z))]), (fun a na => by rw [ah1i3_4 a]), (fun a na => by rw [lh1i3_4 a])⟩
  · try dsimp only
    refine qi_if (fun _ => ?_) (fun cc7 => absurd (by decide) cc7)
    unfold f_Mod_out_20
    refine o_sI T (q_Mk kv0) (by decide) rfl ?_
    intro h1i8_9 Th1i8_9 ih1i8_9 ah1i8_9 lh1i8_9
    refine l_gI (e := 1) (by rw [ih1i8_9 v0 6, if_pos ⟨rfl, rfl⟩]) ?_
    refine qi_if (fun cc10 => absurd cc10 (by decide)) (fun _ => ?_)
    refine qi_some ?_
    exact ⟨Th1i8_9, (fun a k na => by rw [ih1i8_9 a k, if_neg (fun z => na (z))]), (fun a na => by rw [ah1i8_9 a]), (fun a na => by rw [lh1i8_9 a])⟩
theorem jj_Mod_out {L : q_L} {π : Nat → Nat → Option Nat} {N : Nat} {h : z_H} {v0 : Nat} {v1 : Int32} {β : Type} {f : Int32 × z_H → Option β} {Q : β → Prop} (T : x_U L π h) (kv0 : q_M L π v0)  (H : ∀ y h', x_U L π h' → (∀ a k, ¬ ((a = v0 ∧ k = 6)) → vI h' a k = vI h a k) → (∀ a, ¬ (a < a) → vA h' a = vA h a) → (∀ a, ¬ (a < a) → vL h' a = vL h a) → qi (f (y, h')) Q) : qi (z_b (f_Mod_out N v0 v1 h) f) Q := by
  refine qi_b (ii_Mod_out  T kv0 ) ?_
  rintro ⟨y, hz⟩ ⟨Tz, g0, g1, g2⟩
  exact H y hz Tz g0 g1 g2

set_option maxHeartbeats 2000000 in
theorem ii_Mod_ran {L : q_L} {π : Nat → Nat → Option Nat} {N : Nat} {h : z_H} {v0 : Nat} {v1 : Int32} (T : x_U L π h) (kv0 : q_M L π v0)  : qi (f_Mod_ran N v0 v1 h) (fun r => x_U L π r.2 ∧ (∀ a k, ¬ ((a = v0 ∧ k = 6)) → vI r.2 a k = vI h a k) ∧ (∀ a, ¬ (a < a) → vA r.2 a = vA h a) ∧ (∀ a, ¬ (a < a) → vL r.2 a = vL h a)) := by
  unfold f_Mod_ran
  refine jj_Mod_in (v0 := v1) (v1 := (0 : Int32)) (v2 := (4 : Int32)) T (fun _ g1r1_1_0 => ?_) (fun _ g0r1_1_0 => ?_)
  · try dsimp only
    refine qi_if (fun cc2 => absurd cc2 (by decide)) (fun _ => ?_)
    unfold f_Mod_ran_38
    refine o_sI T (q_Mk kv0) (by decide) rfl ?_
    intro h1i3_4 Th1i3_4 ih1i3_4 ah1i3_4 lh1i3_4
    refine qi_if (fun cc5 => ?_) (fun cc5 => ?_)
    · skip
      refine qi_if (fun cc6 => ?_) (fun cc6 => ?_)
      · skip
        refine l_gI (e := (vI h v0 66)) (by rw [ih1i3_4 v0 66, if_neg (fun z => absurd z.2 (by decide))]) ?_
        refine qi_if (fun cc7 => ?_) (fun cc7 => ?_)
        · skip
          refine qi_some ?_
          exact ⟨Th1i3_4, (fun a k na => by rw [ih1i3_4 a k, if_neg (fun z => na (z))]), (fun a na => by rw [ah1i3_4 a]), (fun a na => by rw [lh1i3_4 a])⟩
        · skip
          refine l_gR Th1i3_4 (d_Mo_59 kv0) ?_
          refine l_aI (e := (vA h (v0 + 40) (v1 - 100))) (fun ix8 => (by rw [ah1i3_4 (v0 + 40)])) (fun ix8 => ?_)
          refine qi_some ?_
          exact ⟨Th1i3_4, (fun a k na => by rw [ih1i3_4 a k, if_neg (fun z => na (z))]), (fun a na => by rw [ah1i3_4 a]), (fun a na => by rw [lh1i3_4 a])⟩
      · skip
        refine l_gI (e := (vI h v0 65)) (by rw [ih1i3_4 v0 65, if_neg (fun z => absurd z.2 (by decide))]) ?_
        refine qi_if (fun cc9 => ?_) (fun cc9 => ?_)
        · skip
          refine qi_some ?_
          exact ⟨Th1i3_4, (fun a k na => by rw [ih1i3_4 a k, if_neg (fun z => na (z))]), (fun a na => by rw [ah1i3_4 a]), (fun a na => by rw [lh1i3_4 a])⟩
        · skip
          refine l_gR Th1i3_4 (d_Mo_58 kv0) ?_
          refine l_aI (e := (vA h (v0 + 39) (v1 - 10))) (fun ix10 => (by rw [ah1i3_4 (v0 + 39)])) (fun ix10 => ?_)
          refine qi_some ?_
          exact ⟨Th1i3_4, (fun a k na => by rw [ih1i3_4 a k, if_neg (fun z => na (z))]), (fun a na => by rw [ah1i3_4 a]), (fun a na => by rw [lh1i3_4 a])⟩
    · skip
      refine qi_if (fun cc11 => ?_) (fun cc11 => ?_)
      · skip
        refine l_gI (e := (vI h v0 69)) (by rw [ih1i3_4 v0 69, if_neg (fun z => absurd z.2 (by decide))]) ?_
        refine qi_some ?_
        exact ⟨Th1i3_4, (fun a k na => by rw [ih1i3_4 a k, if_neg (fun z => na (z))]), (fun a na => by rw [ah1i3_4 a]), (fun a na => by rw [lh1i3_4 a])⟩
      · skip
        refine qi_if (fun cc12 => ?_) (fun cc12 => ?_)
        · skip
          refine l_gI (e := (vI h v0 70)) (by rw [ih1i3_4 v0 70, if_neg (fun z => absurd z.2 (by decide))]) ?_
          refine qi_some ?_
          exact ⟨Th1i3_4, (fun a k na => by rw [ih1i3_4 a k, if_neg (fun z => na (z))]), (fun a na => by rw [ah1i3_4 a]), (fun a na => by rw [lh1i3_4 a])⟩
        · skip
          refine qi_if (fun cc13 => ?_) (fun cc13 => ?_)
          · skip
            refine l_gI (e := (vI h v0 71)) (by rw [ih1i3_4 v0 71, if_neg (fun z => absurd z.2 (by decide))]) ?_
            refine qi_some ?_
            exact ⟨Th1i3_4, (fun a k na => by rw [ih1i3_4 a k, if_neg (fun z => na (z))]), (fun a na => by rw [ah1i3_4 a]), (fun a na => by rw [lh1i3_4 a])⟩
          · skip
            refine qi_if (fun cc14 => ?_) (fun cc14 => ?_)
            · skip
              refine l_gI (e := (vI h v0 72)) (by rw [ih1i3_4 v0 72, if_neg (fun z => absurd z.2 (by decide))]) ?_
              refine qi_some ?_
              exact ⟨Th1i3_4, (fun a k na => by rw [ih1i3_4 a k, if_neg (fun z => na (z))]), (fun a na => by rw [ah1i3_4 a]), (fun a na => by rw [lh1i3_4 a])⟩
            · skip
              refine l_gI (e := (vI h v0 73)) (by rw [ih1i3_4 v0 73, if_neg (fun z => absurd z.2 (by decide))]) ?_
              refine qi_some ?_
              exact ⟨Th1i3_4, (fun a k na => by rw [ih1i3_4 a k, if_neg (fun z => na (z))]), (fun a na => by rw [ah1i3_4 a]), (fun a na => by rw [lh1i3_4 a])⟩
  · try dsimp only
    refine qi_if (fun _ => ?_) (fun cc15 => absurd (by decide) cc15)
    refine jj_Mod_in (v0 := v1) (v1 := (10 : Int32)) (v2 := (69 : Int32)) T (fun _ g1r3_16_0 => ?_) (fun _ g0r3_16_0 => ?_)
    · try dsimp only
      refine qi_if (fun cc17 => absurd cc17 (by decide)) (fun _ => ?_)
      unfold f_Mod_ran_38
      refine o_sI T (q_Mk kv0) (by decide) rfl ?_
      intro h1i18_19 Th1i18_19 ih1i18_19 ah1i18_19 lh1i18_19
      refine qi_if (fun cc20 => ?_) (fun cc20 => ?_)
      · skip
        refine qi_if (fun cc21 => ?_) (fun cc21 => ?_)
        · skip
          refine l_gI (e := (vI h v0 66)) (by rw [ih1i18_19 v0 66, if_neg (fun z => absurd z.2 (by decide))]) ?_
          refine qi_if (fun cc22 => ?_) (fun cc22 => ?_)
          · skip
            refine qi_some ?_
            exact ⟨Th1i18_19, (fun a k na => by rw [ih1i18_19 a k, if_neg (fun z => na (z))]), (fun a na => by rw [ah1i18_19 a]), (fun a na => by rw [lh1i18_19 a])⟩
          · skip
            refine l_gR Th1i18_19 (d_Mo_59 kv0) ?_
            refine l_aI (e := (vA h (v0 + 40) (v1 - 100))) (fun ix23 => (by rw [ah1i18_19 (v0 + 40)])) (fun ix23 => ?_)
            refine qi_some ?_
            exact ⟨Th1i18_19, (fun a k na => by rw [ih1i18_19 a k, if_neg (fun z => na (z))]), (fun a na => by rw [ah1i18_19 a]), (fun a na => by rw [lh1i18_19 a])⟩
        · skip
          refine l_gI (e := (vI h v0 65)) (by rw [ih1i18_19 v0 65, if_neg (fun z => absurd z.2 (by decide))]) ?_
          refine qi_if (fun cc24 => ?_) (fun cc24 => ?_)
          · skip
            refine qi_some ?_
            exact ⟨Th1i18_19, (fun a k na => by rw [ih1i18_19 a k, if_neg (fun z => na (z))]), (fun a na => by rw [ah1i18_19 a]), (fun a na => by rw [lh1i18_19 a])⟩
          · skip
            refine l_gR Th1i18_19 (d_Mo_58 kv0) ?_
            refine l_aI (e := (vA h (v0 + 39) (v1 - 10))) (fun ix25 => (by rw [ah1i18_19 (v0 + 39)])) (fun ix25 => ?_)
            refine qi_some ?_
            exact ⟨Th1i18_19, (fun a k na => by rw [ih1i18_19 a k, if_neg (fun z => na (z))]), (fun a na => by rw [ah1i18_19 a]), (fun a na => by rw [lh1i18_19 a])⟩
      · skip
        refine qi_if (fun cc26 => ?_) (fun cc26 => ?_)
        · skip
          refine l_gI (e := (vI h v0 69)) (by rw [ih1i18_19 v0 69, if_neg (fun z => absurd z.2 (by decide))]) ?_
          refine qi_some ?_
          exact ⟨Th1i18_19, (fun a k na => by rw [ih1i18_19 a k, if_neg (fun z => na (z))]), (fun a na => by rw [ah1i18_19 a]), (fun a na => by rw [lh1i18_19 a])⟩
        · skip
          refine qi_if (fun cc27 => ?_) (fun cc27 => ?_)
          · skip
            refine l_gI (e := (vI h v0 70)) (by rw [ih1i18_19 v0 70, if_neg (fun z => absurd z.2 (by decide))]) ?_
            refine qi_some ?_
            exact ⟨Th1i18_19, (fun a k na => by rw [ih1i18_19 a k, if_neg (fun z => na (z))]), (fun a na => by rw [ah1i18_19 a]), (fun a na => by rw [lh1i18_19 a])⟩
          · skip
            refine qi_if (fun cc28 => ?_) (fun cc28 => ?_)
            · skip
              refine l_gI (e := (vI h v0 71)) (by rw [ih1i18_19 v0 71, if_neg (fun z => absurd z.2 (by decide))]) ?_
              refine qi_some ?_
              exact ⟨Th1i18_19, (fun a k na => by rw [ih1i18_19 a k, if_neg (fun z => na (z))]), (fun a na => by rw [ah1i18_19 a]), (fun a na => by rw [lh1i18_19 a])⟩
            · skip
              refine qi_if (fun cc29 => ?_) (fun cc29 => ?_)
              · skip
                refine l_gI (e := (vI h v0 72)) (by rw [ih1i18_19 v0 72, if_neg (fun z => absurd z.2 (by decide))]) ?_
                refine qi_some ?_
                exact ⟨Th1i18_19, (fun a k na => by rw [ih1i18_19 a k, if_neg (fun z => na (z))]), (fun a na => by rw [ah1i18_19 a]), (fun a na => by rw [lh1i18_19 a])⟩
              · skip
                refine l_gI (e := (vI h v0 73)) (by rw [ih1i18_19 v0 73, if_neg (fun z => absurd z.2 (by decide))]) ?_
                refine qi_some ?_
                exact ⟨Th1i18_19, (fun a k na => by rw [ih1i18_19 a k, if_neg (fun z => na (z))]), (fun a na => by rw [ah1i18_19 a]), (fun a na => by rw [lh1i18_19 a])⟩
    · try dsimp only
      refine qi_if (fun _ => ?_) (fun cc30 => absurd (by decide) cc30)
      refine jj_Mod_in (v0 := v1) (v1 := (100 : Int32)) (v2 := (159 : Int32)) T (fun _ g1r5_31_0 => ?_) (fun _ g0r5_31_0 => ?_)
      · try dsimp only
        refine qi_if (fun cc32 => absurd cc32 (by decide)) (fun _ => ?_)
        unfold f_Mod_ran_38
        refine o_sI T (q_Mk kv0) (by decide) rfl ?_
        intro h1i33_34 Th1i33_34 ih1i33_34 ah1i33_34 lh1i33_34
        refine qi_if (fun cc35 => ?_) (fun cc35 => ?_)
        · skip
          refine qi_if (fun cc36 => ?_) (fun cc36 => ?_)
          · skip
            refine l_gI (e := (vI h v0 66)) (by rw [ih1i33_34 v0 66, if_neg (fun z => absurd z.2 (by decide))]) ?_
            refine qi_if (fun cc37 => ?_) (fun cc37 => ?_)
            · skip
              refine qi_some ?_
              exact ⟨Th1i33_34, (fun a k na => by rw [ih1i33_34 a k, if_neg (fun z => na (z))]), (fun a na => by rw [ah1i33_34 a]), (fun a na => by rw [lh1i33_34 a])⟩
            · skip
              refine l_gR Th1i33_34 (d_Mo_59 kv0) ?_
              refine l_aI (e := (vA h (v0 + 40) (v1 - 100))) (fun ix38 => (by rw [ah1i33_34 (v0 + 40)])) (fun ix38 => ?_)
              refine qi_some ?_
              exact ⟨Th1i33_34, (fun a k na => by rw [ih1i33_34 a k, if_neg (fun z => na (z))]), (fun a na => by rw [ah1i33_34 a]), (fun a na => by rw [lh1i33_34 a])⟩
          · skip
            refine l_gI (e := (vI h v0 65)) (by rw [ih1i33_34 v0 65, if_neg (fun z => absurd z.2 (by decide))]) ?_
            refine qi_if (fun cc39 => ?_) (fun cc39 => ?_)
            · skip
              refine qi_some ?_
              exact ⟨Th1i33_34, (fun a k na => by rw [ih1i33_34 a k, if_neg (fun z => na (z))]), (fun a na => by rw [ah1i33_34 a]), (fun a na => by rw [lh1i33_34 a])⟩
            · skip
              refine l_gR Th1i33_34 (d_Mo_58 kv0) ?_
              refine l_aI (e := (vA h (v0 + 39) (v1 - 10))) (fun ix40 => (by rw [ah1i33_34 (v0 + 39)])) (fun ix40 => ?_)
              refine qi_some ?_
              exact ⟨Th1i33_34, (fun a k na => by rw [ih1i33_34 a k, if_neg (fun z => na (z))]), (fun a na => by rw [ah1i33_34 a]), (fun a na => by rw [lh1i33_34 a])⟩
        · skip
          refine qi_if (fun cc41 => ?_) (fun cc41 => ?_)
          · skip
            refine l_gI (e := (vI h v0 69)) (by rw [ih1i33_34 v0 69, if_neg (fun z => absurd z.2 (by decide))]) ?_
            refine qi_some ?_
            exact ⟨Th1i33_34, (fun a k na => by rw [ih1i33_34 a k, if_neg (fun z => na (z))]), (fun a na => by rw [ah1i33_34 a]), (fun a na => by rw [lh1i33_34 a])⟩
          · skip
            refine qi_if (fun cc42 => ?_) (fun cc42 => ?_)
            · skip
              refine l_gI (e := (vI h v0 70)) (by rw [ih1i33_34 v0 70, if_neg (fun z => absurd z.2 (by decide))]) ?_
              refine qi_some ?_
              exact ⟨Th1i33_34, (fun a k na => by rw [ih1i33_34 a k, if_neg (fun z => na (z))]), (fun a na => by rw [ah1i33_34 a]), (fun a na => by rw [lh1i33_34 a])⟩
            · skip
              refine qi_if (fun cc43 => ?_) (fun cc43 => ?_)
              · skip
                refine l_gI (e := (vI h v0 71)) (by rw [ih1i33_34 v0 71, if_neg (fun z => absurd z.2 (by decide))]) ?_
                refine qi_some ?_
                exact ⟨Th1i33_34, (fun a k na => by rw [ih1i33_34 a k, if_neg (fun z => na (z))]), (fun a na => by rw [ah1i33_34 a]), (fun a na => by rw [lh1i33_34 a])⟩
              · skip
                refine qi_if (fun cc44 => ?_) (fun cc44 => ?_)
                · skip
                  refine l_gI (e := (vI h v0 72)) (by rw [ih1i33_34 v0 72, if_neg (fun z => absurd z.2 (by decide))]) ?_
                  refine qi_some ?_
                  exact ⟨Th1i33_34, (fun a k na => by rw [ih1i33_34 a k, if_neg (fun z => na (z))]), (fun a na => by rw [ah1i33_34 a]), (fun a na => by rw [lh1i33_34 a])⟩
                · skip
                  refine l_gI (e := (vI h v0 73)) (by rw [ih1i33_34 v0 73, if_neg (fun z => absurd z.2 (by decide))]) ?_
                  refine qi_some ?_
                  exact ⟨Th1i33_34, (fun a k na => by rw [ih1i33_34 a k, if_neg (fun z => na (z))]), (fun a na => by rw [ah1i33_34 a]), (fun a na => by rw [lh1i33_34 a])⟩
      · try dsimp only
        refine qi_if (fun _ => ?_) (fun cc45 => absurd (by decide) cc45)
        refine l_gO ?_
        refine jj_Mod_fail (v0 := v0) (v1 := (1 : Int32)) T kv0 ?_
        intro yr8_46 hr8_46 Thr8_46 gr8_46_0 gr8_46_1 fr8_46_I fr8_46_A fr8_46_L
        try dsimp only
        refine qi_some ?_
        exact ⟨Thr8_46, (fun a k na => by rw [fr8_46_I a k (fun z => na (z))]), (fun a na => by rw [fr8_46_A a (by omega)]), (fun a na => by rw [fr8_46_L a (by omega)])⟩
theorem jj_Mod_ran {L : q_L} {π : Nat → Nat → Option Nat} {N : Nat} {h : z_H} {v0 : Nat} {v1 : Int32} {β : Type} {f : Int32 × z_H → Option β} {Q : β → Prop} (T : x_U L π h) (kv0 : q_M L π v0)  (H : ∀ y h', x_U L π h' → (∀ a k, ¬ ((a = v0 ∧ k = 6)) → vI h' a k = vI h a k) → (∀ a, ¬ (a < a) → vA h' a = vA h a) → (∀ a, ¬ (a < a) → vL h' a = vL h a) → qi (f (y, h')) Q) : qi (z_b (f_Mod_ran N v0 v1 h) f) Q := by
  refine qi_b (ii_Mod_ran  T kv0 ) ?_
  rintro ⟨y, hz⟩ ⟨Tz, g0, g1, g2⟩
  exact H y hz Tz g0 g1 g2

set_option maxHeartbeats 2000000 in
theorem ii_Mod_count {L : q_L} {π : Nat → Nat → Option Nat} {N : Nat} {h : z_H} {v0 : Nat} {v1 : Int32} (T : x_U L π h) (kv0 : q_M L π v0)  : qi (f_Mod_count N v0 v1 h) (fun r => x_U L π r.2 ∧ (∀ a k, ¬ ((a = v0 ∧ k = 6)) → vI r.2 a k = vI h a k) ∧ (∀ a, ¬ (a < a) → vA r.2 a = vA h a) ∧ (∀ a, ¬ (a < a) → vL r.2 a = vL h a)) := by
  unfold f_Mod_count
  refine jj_Mod_in (v0 := v1) (v1 := (0 : Int32)) (v2 := (2 : Int32)) T (fun _ g1r1_1_0 => ?_) (fun _ g0r1_1_0 => ?_)
  · try dsimp only
    refine qi_if (fun cc2 => absurd cc2 (by decide)) (fun _ => ?_)
    unfold f_Mod_count_26
    refine o_sI T (q_Mk kv0) (by decide) rfl ?_
    intro h1i3_4 Th1i3_4 ih1i3_4 ah1i3_4 lh1i3_4
    refine qi_if (fun cc5 => ?_) (fun cc5 => ?_)
    · skip
      refine qi_if (fun cc6 => ?_) (fun cc6 => ?_)
      · skip
        refine l_gI (e := (vI h v0 3)) (by rw [ih1i3_4 v0 3, if_neg (fun z => absurd z.2 (by decide))]) ?_
        refine qi_some ?_
        exact ⟨Th1i3_4, (fun a k na => by rw [ih1i3_4 a k, if_neg (fun z => na (z))]), (fun a na => by rw [ah1i3_4 a]), (fun a na => by rw [lh1i3_4 a])⟩
      · skip
        refine qi_if (fun cc7 => ?_) (fun cc7 => ?_)
        · skip
          refine l_gI (e := (vI h v0 4)) (by rw [ih1i3_4 v0 4, if_neg (fun z => absurd z.2 (by decide))]) ?_
          refine qi_some ?_
          exact ⟨Th1i3_4, (fun a k na => by rw [ih1i3_4 a k, if_neg (fun z => na (z))]), (fun a na => by rw [ah1i3_4 a]), (fun a na => by rw [lh1i3_4 a])⟩
        · skip
          refine l_gI (e := (vI h v0 8)) (by rw [ih1i3_4 v0 8, if_neg (fun z => absurd z.2 (by decide))]) ?_
          refine qi_if (fun cc8 => ?_) (fun cc8 => ?_)
          · skip
            refine qi_some ?_
            exact ⟨Th1i3_4, (fun a k na => by rw [ih1i3_4 a k, if_neg (fun z => na (z))]), (fun a na => by rw [ah1i3_4 a]), (fun a na => by rw [lh1i3_4 a])⟩
          · skip
            refine l_gR Th1i3_4 (d_Mo_24 kv0) ?_
            refine l_gI (e := (vI h v0 7)) (by rw [ih1i3_4 v0 7, if_neg (fun z => absurd z.2 (by decide))]) ?_
            refine l_aI (e := (vA h (v0 + 19) (vI h v0 7))) (fun ix9 => (by rw [ah1i3_4 (v0 + 19)])) (fun ix9 => ?_)
            refine qi_some ?_
            exact ⟨Th1i3_4, (fun a k na => by rw [ih1i3_4 a k, if_neg (fun z => na (z))]), (fun a na => by rw [ah1i3_4 a]), (fun a na => by rw [lh1i3_4 a])⟩
    · skip
      refine l_gI (e := (vI h v0 4)) (by rw [ih1i3_4 v0 4, if_neg (fun z => absurd z.2 (by decide))]) ?_
      refine qi_if (fun cc10 => ?_) (fun cc10 => ?_)
      · skip
        refine qi_some ?_
        exact ⟨Th1i3_4, (fun a k na => by rw [ih1i3_4 a k, if_neg (fun z => na (z))]), (fun a na => by rw [ah1i3_4 a]), (fun a na => by rw [lh1i3_4 a])⟩
      · skip
        refine l_gR Th1i3_4 (d_Mo_1 kv0) ?_
        refine l_aI (e := (vA h (v0 + 2) (v1 - 10))) (fun ix11 => (by rw [ah1i3_4 (v0 + 2)])) (fun ix11 => ?_)
        refine qi_some ?_
        exact ⟨Th1i3_4, (fun a k na => by rw [ih1i3_4 a k, if_neg (fun z => na (z))]), (fun a na => by rw [ah1i3_4 a]), (fun a na => by rw [lh1i3_4 a])⟩
  · try dsimp only
    refine qi_if (fun _ => ?_) (fun cc12 => absurd (by decide) cc12)
    refine jj_Mod_in (v0 := v1) (v1 := (10 : Int32)) (v2 := (21 : Int32)) T (fun _ g1r3_13_0 => ?_) (fun _ g0r3_13_0 => ?_)
    · try dsimp only
      refine qi_if (fun cc14 => absurd cc14 (by decide)) (fun _ => ?_)
      unfold f_Mod_count_26
      refine o_sI T (q_Mk kv0) (by decide) rfl ?_
      intro h1i15_16 Th1i15_16 ih1i15_16 ah1i15_16 lh1i15_16
      refine qi_if (fun cc17 => ?_) (fun cc17 => ?_)
      · skip
        refine qi_if (fun cc18 => ?_) (fun cc18 => ?_)
        · skip
          refine l_gI (e := (vI h v0 3)) (by rw [ih1i15_16 v0 3, if_neg (fun z => absurd z.2 (by decide))]) ?_
          refine qi_some ?_
          exact ⟨Th1i15_16, (fun a k na => by rw [ih1i15_16 a k, if_neg (fun z => na (z))]), (fun a na => by rw [ah1i15_16 a]), (fun a na => by rw [lh1i15_16 a])⟩
        · skip
          refine qi_if (fun cc19 => ?_) (fun cc19 => ?_)
          · skip
            refine l_gI (e := (vI h v0 4)) (by rw [ih1i15_16 v0 4, if_neg (fun z => absurd z.2 (by decide))]) ?_
            refine qi_some ?_
            exact ⟨Th1i15_16, (fun a k na => by rw [ih1i15_16 a k, if_neg (fun z => na (z))]), (fun a na => by rw [ah1i15_16 a]), (fun a na => by rw [lh1i15_16 a])⟩
          · skip
            refine l_gI (e := (vI h v0 8)) (by rw [ih1i15_16 v0 8, if_neg (fun z => absurd z.2 (by decide))]) ?_
            refine qi_if (fun cc20 => ?_) (fun cc20 => ?_)
            · skip
              refine qi_some ?_
              exact ⟨Th1i15_16, (fun a k na => by rw [ih1i15_16 a k, if_neg (fun z => na (z))]), (fun a na => by rw [ah1i15_16 a]), (fun a na => by rw [lh1i15_16 a])⟩
            · skip
              refine l_gR Th1i15_16 (d_Mo_24 kv0) ?_
              refine l_gI (e := (vI h v0 7)) (by rw [ih1i15_16 v0 7, if_neg (fun z => absurd z.2 (by decide))]) ?_
              refine l_aI (e := (vA h (v0 + 19) (vI h v0 7))) (fun ix21 => (by rw [ah1i15_16 (v0 + 19)])) (fun ix21 => ?_)
              refine qi_some ?_
              exact ⟨Th1i15_16, (fun a k na => by rw [ih1i15_16 a k, if_neg (fun z => na (z))]), (fun a na => by rw [ah1i15_16 a]), (fun a na => by rw [lh1i15_16 a])⟩
      · skip
        refine l_gI (e := (vI h v0 4)) (by rw [ih1i15_16 v0 4, if_neg (fun z => absurd z.2 (by decide))]) ?_
        refine qi_if (fun cc22 => ?_) (fun cc22 => ?_)
        · skip
          refine qi_some ?_
          exact ⟨Th1i15_16, (fun a k na => by rw [ih1i15_16 a k, if_neg (fun z => na (z))]), (fun a na => by rw [ah1i15_16 a]), (fun a na => by rw [lh1i15_16 a])⟩
        · skip
          refine l_gR Th1i15_16 (d_Mo_1 kv0) ?_
          refine l_aI (e := (vA h (v0 + 2) (v1 - 10))) (fun ix23 => (by rw [ah1i15_16 (v0 + 2)])) (fun ix23 => ?_)
          refine qi_some ?_
          exact ⟨Th1i15_16, (fun a k na => by rw [ih1i15_16 a k, if_neg (fun z => na (z))]), (fun a na => by rw [ah1i15_16 a]), (fun a na => by rw [lh1i15_16 a])⟩
    · try dsimp only
      refine qi_if (fun _ => ?_) (fun cc24 => absurd (by decide) cc24)
      refine l_gO ?_
      refine jj_Mod_fail (v0 := v0) (v1 := (1 : Int32)) T kv0 ?_
      intro yr6_25 hr6_25 Thr6_25 gr6_25_0 gr6_25_1 fr6_25_I fr6_25_A fr6_25_L
      try dsimp only
      refine qi_some ?_
      exact ⟨Thr6_25, (fun a k na => by rw [fr6_25_I a k (fun z => na (z))]), (fun a na => by rw [fr6_25_A a (by omega)]), (fun a na => by rw [fr6_25_L a (by omega)])⟩
theorem jj_Mod_count {L : q_L} {π : Nat → Nat → Option Nat} {N : Nat} {h : z_H} {v0 : Nat} {v1 : Int32} {β : Type} {f : Int32 × z_H → Option β} {Q : β → Prop} (T : x_U L π h) (kv0 : q_M L π v0)  (H : ∀ y h', x_U L π h' → (∀ a k, ¬ ((a = v0 ∧ k = 6)) → vI h' a k = vI h a k) → (∀ a, ¬ (a < a) → vA h' a = vA h a) → (∀ a, ¬ (a < a) → vL h' a = vL h a) → qi (f (y, h')) Q) : qi (z_b (f_Mod_count N v0 v1 h) f) Q := by
  refine qi_b (ii_Mod_count  T kv0 ) ?_
  rintro ⟨y, hz⟩ ⟨Tz, g0, g1, g2⟩
  exact H y hz Tz g0 g1 g2
