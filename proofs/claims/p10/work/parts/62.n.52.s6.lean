/-! reference: a run from its beginning; out, ran -/
section S6
variable {L : q_L} {π : Nat → Nat → Option Nat} {N v0 : Nat} {h h0 h1 : z_H} {LN : Int32 → List Int32} {sz lc : Int32} {kd tg pr na inv : Int32 → Int32} {X : Int32 → List Int32} {ym : Int32 → Int32 → Int32} {sw : Int32 → List Int32 → Int32 × List Int32} {f1 f2 : Int32 → List Int32 → Int32 → Int32} {rc : Int32 → Int32 → Int32}
theorem r_81 (T0 : x_U L π h0) (M : q_M L π v0) (ll : r_LN h0 v0 lc LN) (hsz : vA h0 (v0 + 19) (vI h0 v0 7) = sz) (s40 : sz ≤ 40) (lv : vI h0 v0 7 = 0 ∨ vI h0 v0 7 = 1) (CM : ∀ k, 0 ≤ k → k < sz → r_CM h0 v0 lc sz (40 * vI h0 v0 7 + k) (kd k) (tg k) (pr k) (na k) (inv k) (X k) (ym k) (sw k) (f1 k) (f2 k) (rc k)) {st bg' : Int32} {E' : x_TT} {Mf : Nat} (RUN : x_run sz lc LN kd tg pr na inv X ym sw f1 f2 rc Mf (x_E0 lc LN) 0 (fun _ => 0) = some (st, E', bg')) : ∀ (m : Nat) (i : Int32) (h : z_H), r_S L π v0 h [] [] [] [] → (vI h v0 70 = 0 ∧ vI h v0 71 = 0 ∧ vI h v0 72 = 0 ∧ vI h v0 73 = 0 ∧ vI h v0 74 = 0 ∧ vI h v0 6 = 0 ∧ vI h v0 76 = if lc = 0 then 1 else 0) → r_Y v0 h0 h → 0 ≤ i → (∀ j, 0 ≤ j → j < i → vA h (v0 + 45) j = 0) → qi (f_Mod_run_81 N m v0 i h) (r_RES L π v0 h0 st E' bg') := by
  intro m
  induction m with
  | zero => intro i h _ _ _ _ _ r e; rw [f_Mod_run_81] at e; cases e
  | succ m ih =>
    intro i h s n Y i0 ac
    obtain ⟨⟨T, _⟩, a1, a2, a3, a4⟩ := id s
    obtain ⟨n70, n71, n72, n73, n74, n6, n76⟩ := id n
    have L0 := ll.1.1
    rw [f_Mod_run_81]
    refine qi_if (fun c => ?_) (fun c => ?_)
    · refine l_gI (e := if lc = 0 then 1 else 0) n76 ?_
      by_cases z : lc = 0
      · rw [if_pos z, if_neg (by decide)]
        have E0 : x_E0 lc LN = (1, [], [], [], [], 0, 0, 0, 0, 0, 1) := by unfold x_E0; rw [if_pos z.symm]
        rw [E0] at RUN
        refine r_118 (N := N) T0 M ll hsz s40 lv CM N Mf _ 0 (fun _ => 0) 0 h ⟨[], s, ⟨n70, n72, n73⟩, Or.inr ⟨rfl, ?_, n6, fun z => absurd (show (1 : Int32) = 0 from z) (by decide)⟩⟩ n71 Y (fun j j0 j1 => ac j j0 (by lia)) (Or.inl rfl) (Int32.le_refl 0) L0 RUN
        rw [n76, if_pos z]
      · rw [if_neg z, if_pos rfl]
        have E0 : x_E0 lc LN = (1, [], LN 0, [], [], 1, 1, 0, 0, 0, 0) := by unfold x_E0; rw [if_neg (fun w => z w.symm)]
        rw [E0] at RUN
        have lnh : r_LN h v0 lc LN := by
          refine ⟨⟨ll.1.1, ll.1.2.1, by rw [Y.2 4 (by decide) (by decide)]; exact ll.1.2.2⟩, ?_⟩
          rw [x_vA_c (Y.1 (v0 + 2) (by omega) (by omega)), x_vA_c (Y.1 (v0 + 3) (by omega) (by omega))]
          exact ll.2
        refine l_gO (qi_b (r_rL (N := N) s lnh n70 (Int32.le_refl 0) (by lia)) ?_)
        rintro h2 ⟨s2, F2, J2⟩
        refine l_sIc s2.1.1 M.1 (by decide) rfl ?_
        intro h3 T3 c3 u3
        obtain ⟨_, b1, b2, b3, b4⟩ := s2
        have J3 : ∀ k, k ≠ 72 → vI h3 v0 k = vI h2 v0 k := fun k hk => by rw [u3 k, if_neg hk]
        have s3 : r_S L π v0 h3 [] (LN 0) [] [] := ⟨⟨T3, M⟩, r_R1_c b1 (J3 69 (by decide)) (c3 _ (by omega)), r_R1_c b2 (J3 65 (by decide)) (c3 _ (by omega)), r_R1_c b3 (J3 66 (by decide)) (c3 _ (by omega)), r_R1_c b4 (J3 68 (by decide)) (c3 _ (by omega))⟩
        refine r_118 (N := N) T0 M ll hsz s40 lv CM N Mf _ 0 (fun _ => 0) 0 h3 ⟨[], s3, ⟨?_, by rw [u3 72, if_pos rfl], ?_⟩, Or.inr ⟨rfl, ?_, ?_, fun _ => ⟨rfl, ?_, rfl⟩⟩⟩ ?_ (r_Y_F Y (r_F_t F2 ⟨fun a _ hn => c3 a hn, fun k hk _ => J3 k (by omega)⟩)) (fun j j0 j1 => ?_) (Or.inl rfl) (by show (0 : Int32) ≤ 1; decide) (by show 1 ≤ lc; lia) RUN
        · rw [J3 70 (by decide), J2 70 (by decide), if_pos rfl]; rfl
        · rw [J3 73 (by decide), J2 73 (by decide), if_neg (by decide), n73]
        · rw [J3 76 (by decide), J2 76 (by decide), if_neg (by decide), n76, if_neg z]
        · rw [J3 6 (by decide), J2 6 (by decide), if_neg (by decide), n6]
        · rw [J3 74 (by decide), J2 74 (by decide), if_neg (by decide), n74]
        · rw [J3 71 (by decide), J2 71 (by decide), if_neg (by decide), n71]
        · rw [x_vA_c (c3 (v0 + 45) (by omega)), x_vA_c (F2.1 (v0 + 45) (by omega) (by omega))]
          exact ac j j0 (by lia)
    · have cl := Int32.not_le.mp c
      refine l_gR T (d_Mo_64 M) (l_uIc T ?_)
      intro h2 T2 j2 c2 u2
      have V : ∀ k, vI h2 v0 k = vI h v0 k := fun k => x_vI_c (c2 v0 (by omega))
      refine qi_bs (ih (i + 1) h2 ⟨⟨T2, M⟩, r_R1_c a1 (V 69) (c2 _ (by omega)), r_R1_c a2 (V 65) (c2 _ (by omega)), r_R1_c a3 (V 66) (c2 _ (by omega)), r_R1_c a4 (V 68) (c2 _ (by omega))⟩ (by rw [V 70, V 71, V 72, V 73, V 74, V 6, V 76]; exact n) ⟨fun a ha hn => (c2 a (by omega)).trans (Y.1 a ha hn), fun k hk hn => (V k).trans (Y.2 k hk hn)⟩ (by lia) (fun j j0 j1 => ?_))
      rw [u2 j j0]
      by_cases z : j = i
      · rw [if_pos z]; rfl
      · rw [if_neg z]; exact ac j j0 (by lia)
/-- run, not parsed -/
theorem r_run0 (T : x_U L π h) (M : q_M L π v0) (np : vI h v0 8 = 0) : qi (f_Mod_run N v0 h) (fun r => x_U L π r.2 ∧ (∀ a, a ≠ v0 → r.2 a = h a) ∧ ∀ k, vI r.2 v0 k = if k = 6 then 1 else vI h v0 k) := by
  unfold f_Mod_run f_Mod_fail
  refine l_gI (e := 0) np ?_
  rw [if_pos rfl]
  refine l_gO ?_
  refine qi_b (P := fun r => x_U L π r.2 ∧ (∀ b, b ≠ v0 → r.2 b = h b) ∧ ∀ k, vI r.2 v0 k = if k = 6 then 1 else vI h v0 k) (l_sIc T M.1 (by decide) rfl (fun h2 T2 c2 u2 => qi_some ⟨T2, c2, u2⟩)) ?_
  rintro ⟨y2, h2⟩ p
  exact qi_some p
/-- run -/
theorem r_run (T : x_U L π h) (M : q_M L π v0) (pd : ¬ vI h v0 8 = 0) (ll : r_LN h v0 lc LN) (hsz : vA h (v0 + 19) (vI h v0 7) = sz) (s40 : sz ≤ 40) (lv : vI h v0 7 = 0 ∨ vI h v0 7 = 1) (CM : ∀ k, 0 ≤ k → k < sz → r_CM h v0 lc sz (40 * vI h v0 7 + k) (kd k) (tg k) (pr k) (na k) (inv k) (X k) (ym k) (sw k) (f1 k) (f2 k) (rc k)) {st bg' : Int32} {E' : x_TT} {Mf : Nat} (RUN : x_run sz lc LN kd tg pr na inv X ym sw f1 f2 rc Mf (x_E0 lc LN) 0 (fun _ => 0) = some (st, E', bg')) : qi (f_Mod_run N v0 h) (r_RES L π v0 h st E' bg') := by
  unfold f_Mod_run
  refine l_gI (e := vI h v0 8) rfl ?_
  rw [if_neg pd]
  refine l_sIc T M.1 (by decide) rfl ?_
  intro h3 T3 c3 u3
  refine l_sIc T3 M.1 (by decide) rfl ?_
  intro h4 T4 c4 u4
  refine l_sIc T4 M.1 (by decide) rfl ?_
  intro h5 T5 c5 u5
  refine l_sIc T5 M.1 (by decide) rfl ?_
  intro h6 T6 c6 u6
  refine l_sIc T6 M.1 (by decide) rfl ?_
  intro h7 T7 c7 u7
  refine l_sIc T7 M.1 (by decide) rfl ?_
  intro h8 T8 c8 u8
  refine l_sIc T8 M.1 (by decide) rfl ?_
  intro h9 T9 c9 u9
  refine l_sIc T9 M.1 (by decide) rfl ?_
  intro h10 T10 c10 u10
  refine l_sIc T10 M.1 (by decide) rfl ?_
  intro h11 T11 c11 u11
  refine l_sIc T11 M.1 (by decide) rfl ?_
  intro h12 T12 c12 u12
  have C : ∀ b, b ≠ v0 → h12 b = h b := fun b hb => (c12 b hb).trans ((c11 b hb).trans ((c10 b hb).trans ((c9 b hb).trans ((c8 b hb).trans ((c7 b hb).trans ((c6 b hb).trans ((c5 b hb).trans ((c4 b hb).trans (c3 b hb)))))))))
  have J : ∀ k, vI h12 v0 k = if k = 74 then 0 else if k = 73 then 0 else if k = 72 then 0 else if k = 71 then 0 else if k = 70 then 0 else if k = 69 then 0 else if k = 68 then 0 else if k = 66 then 0 else if k = 65 then 0 else if k = 6 then 0 else vI h v0 k := fun k => by rw [u12 k, u11 k, u10 k, u9 k, u8 k, u7 k, u6 k, u5 k, u4 k, u3 k]
  have e4 : vI h12 v0 4 = lc := by rw [J 4]; exact ll.1.2.2
  have GO : ∀ (v : Int32) (hh : z_H), x_U L π hh → (∀ b, b ≠ v0 → hh b = h12 b) → (∀ k, vI hh v0 k = if k = 76 then v else vI h12 v0 k) → v = (if lc = 0 then 1 else 0) → qi (f_Mod_run_81 N N v0 0 hh) (r_RES L π v0 h st E' bg') := by
    intro v hh TT cc uu ev
    have Jh : ∀ k, k ≠ 76 → vI hh v0 k = vI h12 v0 k := fun k hk => by rw [uu k, if_neg hk]
    have R0 : ∀ (k a : Nat) (c : Int32), 0 ≤ c → k ≠ 76 → vI h12 v0 k = 0 → r_R1 hh v0 k a c [] := by
      intro k a c c0 hk ek
      refine ⟨?_, by rw [Jh k hk, ek]; exact ⟨Int32.le_refl 0, c0⟩, x_kt_0⟩
      unfold r_l
      rw [Jh k hk, ek, x_sl_0 (Int32.le_refl 0) (by decide) (by decide)]
    refine r_81 (N := N) T M ll hsz s40 lv CM RUN N 0 hh ⟨⟨TT, M⟩, R0 69 43 600 (by decide) (by decide) (by rw [J 69]; rfl), R0 65 39 60 (by decide) (by decide) (by rw [J 65]; rfl), R0 66 40 60 (by decide) (by decide) (by rw [J 66]; rfl), R0 68 42 200 (by decide) (by decide) (by rw [J 68]; rfl)⟩ ⟨by rw [Jh 70 (by decide), J 70]; rfl, by rw [Jh 71 (by decide), J 71]; rfl, by rw [Jh 72 (by decide), J 72]; rfl, by rw [Jh 73 (by decide), J 73]; rfl, by rw [Jh 74 (by decide), J 74]; rfl, by rw [Jh 6 (by decide), J 6]; rfl, by rw [uu 76, if_pos rfl, ev]⟩ ⟨fun a _ hn => (cc a hn).trans (C a hn), fun k hk hn => ?_⟩ (Int32.le_refl 0) (fun j j0 j1 => absurd (Int32.lt_of_le_of_lt j0 j1) Int32.lt_irrefl)
    rw [Jh k (by omega), J k, if_neg (by omega), if_neg (by omega), if_neg (by omega), if_neg (by omega), if_neg (by omega), if_neg (by omega), if_neg (by omega), if_neg (by omega), if_neg (by omega), if_neg hn]
  refine l_gI (e := lc) e4 ?_
  refine qi_if (fun c => ?_) (fun c => ?_)
  · refine l_sIc T12 M.1 (by decide) rfl ?_
    intro hh TT cc uu
    exact GO 1 hh TT cc uu (by rw [if_pos c])
  · refine l_sIc T12 M.1 (by decide) rfl ?_
    intro hh TT cc uu
    exact GO 0 hh TT cc uu (by rw [if_neg c])
end S6
