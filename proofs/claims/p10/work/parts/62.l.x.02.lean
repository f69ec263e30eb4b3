set_option maxHeartbeats 8000000 in
theorem i_Mod_parse_52 {L : q_L} {π : Nat → Nat → Option Nat} {N : Nat} {t : Int32 → Int32} {n : Int32} : ∀ (m9 : Nat) (v0 : Nat) (v1 : Int32) (h : z_H), x_U L π h → q_M L π v0 → (∀ j, 0 ≤ j → j < n → vA h (v0 + 1) j = t j) → (vI h v0 3 = n) → (n ≤ 240) → (∀ j, t j ≠ -1) → (x_hf (40 * vI h v0 42)) → (vA h (v0 + 19) (vI h v0 42) = 0) → (0 ≤ v1) → (∀ j, 0 ≤ j → j < v1 → vA h (v0 + 34) j = -1) → qi (f_Mod_parse_52 N m9 v0 v1 h) (fun r => x_U L π r.2 ∧ ((vI r.2 v0 6 = 0 ∧ x_P1 (x_scr t n 0 0 0 (fun _ => 0) (fun _ => -1)) r.1) ∨ (vI r.2 v0 6 = 1 ∧ x_P0 (x_scr t n 0 0 0 (fun _ => 0) (fun _ => -1))))) := by
  intro m9
  induction m9 with
  | zero => intro v0 v1 h T kv0 ht hn n1 tp hh c0 w3 wl r e; rw [f_Mod_parse_52] at e; cases e
  | succ m9 ih =>
    intro v0 v1 h T kv0 ht hn n1 tp hh c0 w3 wl
    rw [f_Mod_parse_52]
    have n2 : n ≤ 1000 := Int32.le_trans n1 (by decide)
    refine qi_if (fun cc1 => ?_) (fun cc1 => ?_)
    · skip
      refine l_sI T (q_Mk kv0) (by decide) rfl ?_
      intro h2_2 Th2_2 ih2_2 ah2_2
      refine l_sI Th2_2 (q_Mk kv0) (by decide) rfl ?_
      intro h3_3 Th3_3 ih3_3 ah3_3
      refine l_sI Th3_3 (q_Mk kv0) (by decide) rfl ?_
      intro h4_4 Th4_4 ih4_4 ah4_4
      refine l_sI Th4_4 (q_Mk kv0) (by decide) rfl ?_
      intro h5_5 Th5_5 ih5_5 ah5_5
      refine qi_tailp ?_
      refine j_Mod_parse_92 (v0 := v0) (t := t) (n := n) (lab := (fun _ => 0)) (use := (fun _ => -1)) Th5_5 kv0 (by show ∀ j, 0 ≤ j → j < n → vA h5_5 (v0 + 1) j = t j; rw [show vA h5_5 (v0 + 1) = vA h (v0 + 1) from (by rw [ah5_5 (v0 + 1), ah4_4 (v0 + 1), ah3_3 (v0 + 1), ah2_2 (v0 + 1)])] <;> (first | assumption | with_reducible rfl | grind)) (by show vI h5_5 v0 3 = n; rw [show vI h5_5 v0 3 = (vI h v0 3) from (by rw [ih5_5 v0 3, if_neg (fun z => absurd z.2 (by decide)), ih4_4 v0 3, if_neg (fun z => absurd z.2 (by decide)), ih3_3 v0 3, if_neg (fun z => absurd z.2 (by decide)), ih2_2 v0 3, if_neg (fun z => absurd z.2 (by decide))])] <;> (first | assumption | with_reducible rfl | grind)) n1 tp (by show x_hf (40 * vI h5_5 v0 42); rw [show vI h5_5 v0 42 = (vI h v0 42) from (by rw [ih5_5 v0 42, if_neg (fun z => absurd z.2 (by decide)), ih4_4 v0 42, if_neg (fun z => absurd z.2 (by decide)), ih3_3 v0 42, if_neg (fun z => absurd z.2 (by decide)), ih2_2 v0 42, if_neg (fun z => absurd z.2 (by decide))])] <;> (first | assumption | with_reducible rfl | grind)) (by show vI h5_5 v0 48 = 0 → (0 ≤ vI h5_5 v0 41); rw [show vI h5_5 v0 48 = 0 from (by rw [ih5_5 v0 48, if_neg (fun z => absurd z.2 (by decide)), ih4_4 v0 48, if_pos ⟨rfl, rfl⟩]), show vI h5_5 v0 41 = 0 from (by rw [ih5_5 v0 41, if_neg (fun z => absurd z.2 (by decide)), ih4_4 v0 41, if_neg (fun z => absurd z.2 (by decide)), ih3_3 v0 41, if_neg (fun z => absurd z.2 (by decide)), ih2_2 v0 41, if_pos ⟨rfl, rfl⟩])] <;> (intro _; decide)) (by show vI h5_5 v0 48 = 0 → (0 ≤ vA h5_5 (v0 + 19) (vI h5_5 v0 42) ∧ vA h5_5 (v0 + 19) (vI h5_5 v0 42) ≤ 40); rw [show vI h5_5 v0 48 = 0 from (by rw [ih5_5 v0 48, if_neg (fun z => absurd z.2 (by decide)), ih4_4 v0 48, if_pos ⟨rfl, rfl⟩]), show vA h5_5 (v0 + 19) = vA h (v0 + 19) from (by rw [ah5_5 (v0 + 19), ah4_4 (v0 + 19), ah3_3 (v0 + 19), ah2_2 (v0 + 19)]), show vI h5_5 v0 42 = (vI h v0 42) from (by rw [ih5_5 v0 42, if_neg (fun z => absurd z.2 (by decide)), ih4_4 v0 42, if_neg (fun z => absurd z.2 (by decide)), ih3_3 v0 42, if_neg (fun z => absurd z.2 (by decide)), ih2_2 v0 42, if_neg (fun z => absurd z.2 (by decide))])] <;> (intro _; rw [c0]; decide)) (by show vI h5_5 v0 48 = 0 → (0 ≤ vI h5_5 v0 43 ∧ vI h5_5 v0 43 ≤ 4); rw [show vI h5_5 v0 48 = 0 from (by rw [ih5_5 v0 48, if_neg (fun z => absurd z.2 (by decide)), ih4_4 v0 48, if_pos ⟨rfl, rfl⟩]), show vI h5_5 v0 43 = 0 from (by rw [ih5_5 v0 43, if_neg (fun z => absurd z.2 (by decide)), ih4_4 v0 43, if_neg (fun z => absurd z.2 (by decide)), ih3_3 v0 43, if_pos ⟨rfl, rfl⟩])] <;> (intro _; decide)) (by show vI h5_5 v0 48 = 0 → (x_R1 x_abr (vA h5_5 (v0 + 34)) (fun _ => 0)); rw [show vI h5_5 v0 48 = 0 from (by rw [ih5_5 v0 48, if_neg (fun z => absurd z.2 (by decide)), ih4_4 v0 48, if_pos ⟨rfl, rfl⟩]), show vA h5_5 (v0 + 34) = vA h (v0 + 34) from (by rw [ah5_5 (v0 + 34), ah4_4 (v0 + 34), ah3_3 (v0 + 34), ah2_2 (v0 + 34)])] <;> (intro _; exact x_R10r (fun j j0 j1 => wl j j0 (Int32.lt_of_lt_of_le j1 (by assumption))))) (by show vI h5_5 v0 48 = 0 → (x_G2 (vA h5_5 (v0 + 4)) (vA h5_5 (v0 + 13)) (40 * vI h5_5 v0 42) 0 (vA h5_5 (v0 + 19) (vI h5_5 v0 42)) (fun _ => -1)); rw [show vI h5_5 v0 48 = 0 from (by rw [ih5_5 v0 48, if_neg (fun z => absurd z.2 (by decide)), ih4_4 v0 48, if_pos ⟨rfl, rfl⟩]), show vA h5_5 (v0 + 4) = vA h (v0 + 4) from (by rw [ah5_5 (v0 + 4), ah4_4 (v0 + 4), ah3_3 (v0 + 4), ah2_2 (v0 + 4)]), show vA h5_5 (v0 + 13) = vA h (v0 + 13) from (by rw [ah5_5 (v0 + 13), ah4_4 (v0 + 13), ah3_3 (v0 + 13), ah2_2 (v0 + 13)]), show vI h5_5 v0 42 = (vI h v0 42) from (by rw [ih5_5 v0 42, if_neg (fun z => absurd z.2 (by decide)), ih4_4 v0 42, if_neg (fun z => absurd z.2 (by decide)), ih3_3 v0 42, if_neg (fun z => absurd z.2 (by decide)), ih2_2 v0 42, if_neg (fun z => absurd z.2 (by decide))]), show vA h5_5 (v0 + 19) = vA h (v0 + 19) from (by rw [ah5_5 (v0 + 19), ah4_4 (v0 + 19), ah3_3 (v0 + 19), ah2_2 (v0 + 19)])] <;> (intro _; rw [c0]; exact fun k k0 k1 => absurd (Int32.lt_of_le_of_lt k0 k1) (by decide))) (by show vI h5_5 v0 48 = 0 → (x_OP (vA h5_5 (v0 + 4)) (vA h5_5 (v0 + 35)) (40 * vI h5_5 v0 42) (vA h5_5 (v0 + 19) (vI h5_5 v0 42)) (vI h5_5 v0 43)); rw [show vI h5_5 v0 48 = 0 from (by rw [ih5_5 v0 48, if_neg (fun z => absurd z.2 (by decide)), ih4_4 v0 48, if_pos ⟨rfl, rfl⟩]), show vA h5_5 (v0 + 4) = vA h (v0 + 4) from (by rw [ah5_5 (v0 + 4), ah4_4 (v0 + 4), ah3_3 (v0 + 4), ah2_2 (v0 + 4)]), show vA h5_5 (v0 + 35) = vA h (v0 + 35) from (by rw [ah5_5 (v0 + 35), ah4_4 (v0 + 35), ah3_3 (v0 + 35), ah2_2 (v0 + 35)]), show vI h5_5 v0 42 = (vI h v0 42) from (by rw [ih5_5 v0 42, if_neg (fun z => absurd z.2 (by decide)), ih4_4 v0 42, if_neg (fun z => absurd z.2 (by decide)), ih3_3 v0 42, if_neg (fun z => absurd z.2 (by decide)), ih2_2 v0 42, if_neg (fun z => absurd z.2 (by decide))]), show vA h5_5 (v0 + 19) = vA h (v0 + 19) from (by rw [ah5_5 (v0 + 19), ah4_4 (v0 + 19), ah3_3 (v0 + 19), ah2_2 (v0 + 19)]), show vI h5_5 v0 43 = 0 from (by rw [ih5_5 v0 43, if_neg (fun z => absurd z.2 (by decide)), ih4_4 v0 43, if_neg (fun z => absurd z.2 (by decide)), ih3_3 v0 43, if_pos ⟨rfl, rfl⟩])] <;> (intro _; exact fun i i0 i1 => absurd (Int32.lt_of_le_of_lt i0 i1) (by decide))) ?_
      intro yrz6_7 hrz6_7 Thrz6_7 grz6_7_0 grz6_7_1
      try dsimp only
      rw [show vI h5_5 v0 48 = 0 from (by rw [ih5_5 v0 48, if_neg (fun z => absurd z.2 (by decide)), ih4_4 v0 48, if_pos ⟨rfl, rfl⟩]), show vI h5_5 v0 41 = 0 from (by rw [ih5_5 v0 41, if_neg (fun z => absurd z.2 (by decide)), ih4_4 v0 41, if_neg (fun z => absurd z.2 (by decide)), ih3_3 v0 41, if_neg (fun z => absurd z.2 (by decide)), ih2_2 v0 41, if_pos ⟨rfl, rfl⟩]), show vI h5_5 v0 43 = 0 from (by rw [ih5_5 v0 43, if_neg (fun z => absurd z.2 (by decide)), ih4_4 v0 43, if_neg (fun z => absurd z.2 (by decide)), ih3_3 v0 43, if_pos ⟨rfl, rfl⟩]), show vA h5_5 (v0 + 19) = vA h (v0 + 19) from (by rw [ah5_5 (v0 + 19), ah4_4 (v0 + 19), ah3_3 (v0 + 19), ah2_2 (v0 + 19)]), show vI h5_5 v0 42 = (vI h v0 42) from (by rw [ih5_5 v0 42, if_neg (fun z => absurd z.2 (by decide)), ih4_4 v0 42, if_neg (fun z => absurd z.2 (by decide)), ih3_3 v0 42, if_neg (fun z => absurd z.2 (by decide)), ih2_2 v0 42, if_neg (fun z => absurd z.2 (by decide))])] at grz6_7_0
      rw [show vI h5_5 v0 48 = 0 from (by rw [ih5_5 v0 48, if_neg (fun z => absurd z.2 (by decide)), ih4_4 v0 48, if_pos ⟨rfl, rfl⟩])] at grz6_7_1
      refine qi_some ?_
      exact ⟨Thrz6_7, (by show (vI hrz6_7 v0 6 = 0 ∧ x_P1 (x_scr t n 0 0 0 (fun _ => 0) (fun _ => -1)) yrz6_7) ∨ (vI hrz6_7 v0 6 = 1 ∧ x_P0 (x_scr t n 0 0 0 (fun _ => 0) (fun _ => -1))); have g9 := grz6_7_0 rfl; rw [c0] at g9; exact g9)⟩
    · skip
      refine l_gR T (d_Mo_39 kv0) ?_
      refine l_uI T ?_
      intro h7_8 Th7_8 jh7_8 ih7_8 ah7_8 bh7_8
      refine qi_bs ?_
      refine qi_mono (ih v0 (v1 + 1) h7_8 Th7_8 kv0 (by show ∀ j, 0 ≤ j → j < n → vA h7_8 (v0 + 1) j = t j; rw [show vA h7_8 (v0 + 1) = vA h (v0 + 1) from (by rw [bh7_8 (v0 + 1) (by omega)])] <;> (first | assumption | with_reducible rfl | grind)) (by show vI h7_8 v0 3 = n; rw [show vI h7_8 v0 3 = (vI h v0 3) from (by rw [ih7_8 v0 3])] <;> (first | assumption | with_reducible rfl | grind)) n1 tp (by show x_hf (40 * vI h7_8 v0 42); rw [show vI h7_8 v0 42 = (vI h v0 42) from (by rw [ih7_8 v0 42])] <;> (first | assumption | with_reducible rfl | grind)) (by show vA h7_8 (v0 + 19) (vI h7_8 v0 42) = 0; rw [show vA h7_8 (v0 + 19) = vA h (v0 + 19) from (by rw [bh7_8 (v0 + 19) (by omega)]), show vI h7_8 v0 42 = (vI h v0 42) from (by rw [ih7_8 v0 42])] <;> (first | assumption | with_reducible rfl | grind)) (by show 0 ≤ (v1 + 1); exact x_inc w3 (Int32.not_le.mp (by assumption)) (by decide)) (by show ∀ j, 0 ≤ j → j < (v1 + 1) → vA h7_8 (v0 + 34) j = -1; intro j j0 j1; by_cases q : j = v1; (rw [ah7_8 (v0 + 34) j j0, if_pos ⟨rfl, q⟩]); (rw [ah7_8 (v0 + 34) j j0, if_neg (fun z => q z.2)]; exact wl j j0 (x_l5 w3 (Int32.not_le.mp (by assumption)) j1 q)))) ?_
      rintro ⟨yrz9_10, hrz9_10⟩ ⟨Thrz9_10, grz9_10_0⟩
      try dsimp only at *
      exact ⟨Thrz9_10, grz9_10_0⟩
theorem j_Mod_parse_52 {L : q_L} {π : Nat → Nat → Option Nat} {N : Nat} {t : Int32 → Int32} {n : Int32} {m9 : Nat} {h : z_H} {v0 : Nat} {v1 : Int32} {β : Type} {f : Int32 × z_H → Option β} {Q : β → Prop} (T : x_U L π h) (kv0 : q_M L π v0) (ht : ∀ j, 0 ≤ j → j < n → vA h (v0 + 1) j = t j) (hn : vI h v0 3 = n) (n1 : n ≤ 240) (tp : ∀ j, t j ≠ -1) (hh : x_hf (40 * vI h v0 42)) (c0 : vA h (v0 + 19) (vI h v0 42) = 0) (w3 : 0 ≤ v1) (wl : ∀ j, 0 ≤ j → j < v1 → vA h (v0 + 34) j = -1) (H : ∀ y h', x_U L π h' → ((vI h' v0 6 = 0 ∧ x_P1 (x_scr t n 0 0 0 (fun _ => 0) (fun _ => -1)) y) ∨ (vI h' v0 6 = 1 ∧ x_P0 (x_scr t n 0 0 0 (fun _ => 0) (fun _ => -1)))) → qi (f (y, h')) Q) : qi (z_b (f_Mod_parse_52 N m9 v0 v1 h) f) Q := by
  refine qi_b (i_Mod_parse_52 m9 v0 v1 h  T kv0 ht hn n1 tp hh c0 w3 wl) ?_
  rintro ⟨y, hz⟩ ⟨Tz, g0⟩
  exact H y hz Tz g0

set_option maxHeartbeats 4000000 in
theorem i_Mod_parse {L : q_L} {π : Nat → Nat → Option Nat} {N : Nat} {t : Int32 → Int32} {n : Int32} {h : z_H} {v0 : Nat} (T : x_U L π h) (kv0 : q_M L π v0) (ht : ∀ j, 0 ≤ j → j < n → vA h (v0 + 1) j = t j) (hn : vI h v0 3 = n) (n1 : n ≤ 240) (tp : ∀ j, t j ≠ -1) (lv : vI h v0 7 = 0 ∨ vI h v0 7 = 1) : qi (f_Mod_parse N v0 h) (fun r => x_U L π r.2 ∧ ((vI r.2 v0 6 = 0 ∧ x_P1 (x_scr t n 0 0 0 (fun _ => 0) (fun _ => -1)) r.1) ∨ (vI r.2 v0 6 = 1 ∧ x_P0 (x_scr t n 0 0 0 (fun _ => 0) (fun _ => -1))))) := by
  have n2 : n ≤ 1000 := Int32.le_trans n1 (by decide)
  unfold f_Mod_parse
  refine l_gI (e := (vI h v0 7)) rfl ?_
  refine l_sI T (q_Mk kv0) (by decide) rfl ?_
  intro h2_1 Th2_1 ih2_1 ah2_1
  refine l_gR Th2_1 (d_Mo_24 kv0) ?_
  refine l_gI (e := (1 - (vI h v0 7))) (by rw [ih2_1 v0 42, if_pos ⟨rfl, rfl⟩]) ?_
  refine l_uI Th2_1 ?_
  intro h5_2 Th5_2 jh5_2 ih5_2 ah5_2 bh5_2
  refine l_gR Th5_2 (d_Mo_25 kv0) ?_
  refine l_gI (e := (1 - (vI h v0 7))) (by rw [ih5_2 v0 42, ih2_1 v0 42, if_pos ⟨rfl, rfl⟩]) ?_
  refine l_uI Th5_2 ?_
  intro h8_3 Th8_3 jh8_3 ih8_3 ah8_3 bh8_3
  refine l_gR Th8_3 (d_Mo_26 kv0) ?_
  refine l_gI (e := (1 - (vI h v0 7))) (by rw [ih8_3 v0 42, ih5_2 v0 42, ih2_1 v0 42, if_pos ⟨rfl, rfl⟩]) ?_
  refine l_uI Th8_3 ?_
  intro h11_4 Th11_4 jh11_4 ih11_4 ah11_4 bh11_4
  refine l_gR Th11_4 (d_Mo_27 kv0) ?_
  refine l_gI (e := (1 - (vI h v0 7))) (by rw [ih11_4 v0 42, ih8_3 v0 42, ih5_2 v0 42, ih2_1 v0 42, if_pos ⟨rfl, rfl⟩]) ?_
  refine l_uI Th11_4 ?_
  intro h14_5 Th14_5 jh14_5 ih14_5 ah14_5 bh14_5
  refine qi_tailp ?_
  refine j_Mod_parse_52 (v0 := v0) (v1 := (0 : Int32)) (t := t) (n := n) Th14_5 kv0 (by show ∀ j, 0 ≤ j → j < n → vA h14_5 (v0 + 1) j = t j; rw [show vA h14_5 (v0 + 1) = vA h (v0 + 1) from (by rw [bh14_5 (v0 + 1) (by omega), bh11_4 (v0 + 1) (by omega), bh8_3 (v0 + 1) (by omega), bh5_2 (v0 + 1) (by omega), ah2_1 (v0 + 1)])] <;> (first | assumption | with_reducible rfl | grind)) (by show vI h14_5 v0 3 = n; rw [show vI h14_5 v0 3 = (vI h v0 3) from (by rw [ih14_5 v0 3, ih11_4 v0 3, ih8_3 v0 3, ih5_2 v0 3, ih2_1 v0 3, if_neg (fun z => absurd z.2 (by decide))])] <;> (first | assumption | with_reducible rfl | grind)) n1 tp (by show x_hf (40 * vI h14_5 v0 42); rw [show vI h14_5 v0 42 = (1 - (vI h v0 7)) from (by rw [ih14_5 v0 42, ih11_4 v0 42, ih8_3 v0 42, ih5_2 v0 42, ih2_1 v0 42, if_pos ⟨rfl, rfl⟩])] <;> (exact x_hf1 lv)) (by show vA h14_5 (v0 + 19) (vI h14_5 v0 42) = 0; rw [show vA h14_5 (v0 + 19) = vA h5_2 (v0 + 19) from (by rw [bh14_5 (v0 + 19) (by omega), bh11_4 (v0 + 19) (by omega), bh8_3 (v0 + 19) (by omega)]), show vI h14_5 v0 42 = (1 - (vI h v0 7)) from (by rw [ih14_5 v0 42, ih11_4 v0 42, ih8_3 v0 42, ih5_2 v0 42, ih2_1 v0 42, if_pos ⟨rfl, rfl⟩]), show vA h5_2 (v0 + 19) (1 - (vI h v0 7)) = 0 from (by rw [ah5_2 (v0 + 19) (1 - (vI h v0 7)) jh14_5, if_pos ⟨rfl, rfl⟩])] <;> (first | assumption | with_reducible rfl | grind)) (by show 0 ≤ (0 : Int32); decide) (by show ∀ j, 0 ≤ j → j < (0 : Int32) → vA h14_5 (v0 + 34) j = -1; rw [show vA h14_5 (v0 + 34) = vA h (v0 + 34) from (by rw [bh14_5 (v0 + 34) (by omega), bh11_4 (v0 + 34) (by omega), bh8_3 (v0 + 34) (by omega), bh5_2 (v0 + 34) (by omega), ah2_1 (v0 + 34)])] <;> (exact fun j j0 j1 => absurd (Int32.lt_of_le_of_lt j0 j1) (by decide))) ?_
  intro yrz6_7 hrz6_7 Thrz6_7 grz6_7_0
  try dsimp only
  refine qi_some ?_
  exact ⟨Thrz6_7, grz6_7_0⟩
theorem j_Mod_parse {L : q_L} {π : Nat → Nat → Option Nat} {N : Nat} {t : Int32 → Int32} {n : Int32} {h : z_H} {v0 : Nat} {β : Type} {f : Int32 × z_H → Option β} {Q : β → Prop} (T : x_U L π h) (kv0 : q_M L π v0) (ht : ∀ j, 0 ≤ j → j < n → vA h (v0 + 1) j = t j) (hn : vI h v0 3 = n) (n1 : n ≤ 240) (tp : ∀ j, t j ≠ -1) (lv : vI h v0 7 = 0 ∨ vI h v0 7 = 1) (H : ∀ y h', x_U L π h' → ((vI h' v0 6 = 0 ∧ x_P1 (x_scr t n 0 0 0 (fun _ => 0) (fun _ => -1)) y) ∨ (vI h' v0 6 = 1 ∧ x_P0 (x_scr t n 0 0 0 (fun _ => 0) (fun _ => -1)))) → qi (f (y, h')) Q) : qi (z_b (f_Mod_parse N v0 h) f) Q := by
  refine qi_b (i_Mod_parse  T kv0 ht hn n1 tp lv) ?_
  rintro ⟨y, hz⟩ ⟨Tz, g0⟩
  exact H y hz Tz g0
