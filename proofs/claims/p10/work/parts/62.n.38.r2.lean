/-! reference: its state, telling -/
/-- a text of the reference: length in the field k, characters in the row a, room c -/
def r_R1 (h : z_H) (v0 k a : Nat) (c : Int32) (X : List Int32) : Prop := r_l h v0 k a = X ∧ (0 ≤ vI h v0 k ∧ vI h v0 k ≤ c) ∧ x_kt X
theorem r_R1_c {h h' : z_H} {v0 k a : Nat} {c : Int32} {X : List Int32} (r : r_R1 h v0 k a c X) (e : vI h' v0 k = vI h v0 k) (e1 : h' (v0 + a) = h (v0 + a)) : r_R1 h' v0 k a c X := ⟨(r_l_c e e1).trans r.1, by rw [e]; exact r.2.1, r.2.2⟩
theorem r_R1_len {h : z_H} {v0 k a : Nat} {c : Int32} {X : List Int32} (r : r_R1 h v0 k a c X) : X.length = x_ct 0 (vI h v0 k) := by rw [← r.1]; exact r_l_len
/-- output, space, hold, appended -/
def r_S (L : q_L) (π : Nat → Nat → Option Nat) (v0 : Nat) (h : z_H) (O S H A : List Int32) : Prop := (x_U L π h ∧ q_M L π v0) ∧ r_R1 h v0 69 43 600 O ∧ r_R1 h v0 65 39 60 S ∧ r_R1 h v0 66 40 60 H ∧ r_R1 h v0 68 42 200 A
/-- what a run doesn't touch -/
def r_F (v0 : Nat) (h h1 : z_H) : Prop := (∀ a, ¬ (v0 + 36 ≤ a ∧ a ≤ v0 + 44) → a ≠ v0 → h1 a = h a) ∧ ∀ k, k < 51 → k ≠ 6 → vI h1 v0 k = vI h v0 k
theorem r_F_r {v0 : Nat} {h : z_H} : r_F v0 h h := ⟨fun _ _ _ => rfl, fun _ _ _ => rfl⟩
theorem r_F_t {v0 : Nat} {h h1 h2 : z_H} (a : r_F v0 h h1) (b : r_F v0 h1 h2) : r_F v0 h h2 := ⟨fun x hx hn => (b.1 x hx hn).trans (a.1 x hx hn), fun k hk hn => (b.2 k hk hn).trans (a.2 k hk hn)⟩
/-- the numbers 70 on, but for `over` -/
def r_In (h h1 : z_H) (v0 : Nat) : Prop := ∀ k, 70 ≤ k → k ≠ 76 → vI h1 v0 k = vI h v0 k
/-- whether it was full: 1 and nothing else, or 0 and it is over, thrown is 2 -/
def r_B (h h1 : z_H) (v0 : Nat) (y : Int32) (b : Prop) : Prop := (y = 1 ∧ b ∧ vI h1 v0 76 = vI h v0 76 ∧ vI h1 v0 6 = vI h v0 6) ∨ (y = 0 ∧ ¬ b ∧ vI h1 v0 76 = 1 ∧ vI h1 v0 6 = 2)
/-- what telling W leaves -/
def r_T (L : q_L) (π : Nat → Nat → Option Nat) (v0 : Nat) (h : z_H) (O S H A W : List Int32) (r : Int32 × z_H) : Prop := r_S L π v0 r.2 (if O.length + W.length + 1 ≤ 600 then O ++ W ++ [10] else O) S H A ∧ r_F v0 h r.2 ∧ r_In h r.2 v0 ∧ r_B h r.2 v0 r.1 (O.length + W.length + 1 ≤ 600)
section R2
variable {L : q_L} {π : Nat → Nat → Option Nat} {N v0 : Nat} {h h1 : z_H} {O S H A W : List Int32}
/-- tell, behind changes of work alone -/
theorem r_tell (s : r_S L π v0 h O S H A) (T1 : x_U L π h1) (F : ∀ b, b ≠ v0 → b ≠ v0 + 41 → h1 b = h b) (I : ∀ k, k ≠ 67 → vI h1 v0 k = vI h v0 k) (w : r_R1 h1 v0 67 41 400 W) : qi (f_Mod_tell N v0 h1) (r_T L π v0 h O S H A W) := by
  obtain ⟨⟨T, M⟩, a1, a2, a3, a4⟩ := s
  have b1 : r_R1 h1 v0 69 43 600 O := r_R1_c a1 (I 69 (by decide)) (F _ (by omega) (by omega))
  refine qi_mono (y_tellM (N := N) T1 M b1.2.1.1 b1.2.1.2 w.2.1.1 w.2.1.2) ?_
  rw [b1.1, w.1]
  rintro r ⟨T2, f2, i2, m2, q⟩
  have O2 : r_R1 r.2 v0 69 43 600 (if O.length + W.length + 1 ≤ 600 then O ++ W ++ [10] else O) := by
    rcases q with ⟨_, q2, q3, _⟩ | ⟨_, q2, q3, _⟩
    · rw [if_pos q2]; exact ⟨q3, m2, x_kt_a (x_kt_a a1.2.2 w.2.2) (x_kt_1 x_kc10)⟩
    · rw [if_neg q2]; exact ⟨q3, m2, a1.2.2⟩
  have J : ∀ k, k ≠ 67 → k ≠ 69 → k ≠ 76 → k ≠ 6 → vI r.2 v0 k = vI h v0 k := fun k k1 k2 k3 k4 => by rw [i2 k k2 k3 k4, I k k1]
  refine ⟨⟨⟨T2, M⟩, O2, r_R1_c a2 (J 65 (by decide) (by decide) (by decide) (by decide)) ((f2 _ (by omega) (by omega)).trans (F _ (by omega) (by omega))), r_R1_c a3 (J 66 (by decide) (by decide) (by decide) (by decide)) ((f2 _ (by omega) (by omega)).trans (F _ (by omega) (by omega))), r_R1_c a4 (J 68 (by decide) (by decide) (by decide) (by decide)) ((f2 _ (by omega) (by omega)).trans (F _ (by omega) (by omega)))⟩, ⟨fun a ha hn => (f2 a hn (by omega)).trans (F a hn (by omega)), fun k hk hn => J k (by omega) (by omega) (by omega) hn⟩, fun k hk hn => J k (by omega) (by omega) hn (by omega), ?_⟩
  rcases q with ⟨q1, q2, _, q4, q5⟩ | ⟨q1, q2, _, q4, q5⟩
  · exact Or.inl ⟨q1, q2, q4.trans (I 76 (by decide)), q5.trans (I 6 (by decide))⟩
  · exact Or.inr ⟨q1, q2, q4, q5⟩
/-- a character comes to the work -/
theorem r_wk {β : Type} {f : z_H → Option β} {Q : β → Prop} {c : Int32} (T : x_U L π h) (M : q_M L π v0) (w : r_R1 h v0 67 41 400 W) (lt : vI h v0 67 < 400) (kc : x_kc c) (K : ∀ h1, x_U L π h1 → (∀ b, b ≠ v0 → b ≠ v0 + 41 → h1 b = h b) → (∀ k, k ≠ 67 → vI h1 v0 k = vI h v0 k) → vI h1 v0 67 = vI h v0 67 + 1 → r_R1 h1 v0 67 41 400 (W ++ [c]) → qi (f h1) Q) : ∀ h2, x_U L π h2 → (∀ b, b ≠ v0 → h2 b = h b) → (∀ k, vI h2 v0 k = if k = 67 then vI h v0 67 + 1 else vI h v0 k) → qi (z_b (uI h2 (v0 + 41) 0 (vI h v0 67) c) f) Q := by
  intro h2 T2 c2 u2
  refine l_uIc T2 ?_
  intro h3 T3 j3 c3 u3
  have w0 := w.2.1.1
  have e67 : vI h3 v0 67 = vI h v0 67 + 1 := by rw [x_vI_c (c3 v0 (by omega)), u2 67, if_pos rfl]
  refine K h3 T3 (fun b b1 b2 => (c3 b b2).trans (c2 b b1)) (fun k hk => by rw [x_vI_c (c3 v0 (by omega)), u2 k, if_neg hk]) e67 ⟨?_, by rw [e67]; constructor <;> lia, x_kt_a w.2.2 (x_kt_1 kc)⟩
  unfold r_l
  rw [e67, x_sl_u w0 (by lia) u3, x_vA_c (c2 (v0 + 41) (by omega))]
  have z := w.1
  unfold r_l at z
  rw [z]
theorem r_tS9 {part : Int32} (s : r_S L π v0 h O S H A) : ∀ (m : Nat) (mo k : Int32) (W : List Int32) (h1 : z_H), x_U L π h1 → (∀ b, b ≠ v0 → b ≠ v0 + 41 → h1 b = h b) → (∀ k, k ≠ 67 → vI h1 v0 k = vI h v0 k) → r_R1 h1 v0 67 41 400 W → 0 ≤ k → k ≤ vI h v0 65 + 1 → ((mo = 1 ∧ k ≤ vI h v0 65 ∧ vI h1 v0 67 = k ∧ W = x_sl (vA h (v0 + 39)) 0 k ∧ (¬ part = 0 → ∀ j, 0 ≤ j → j < k → ¬ vA h (v0 + 39) j = 10)) ∨ (mo = 0 ∧ ¬ part = 0 ∧ W = S.takeWhile x_n10)) → qi (f_Mod_tellSpace_9 N m v0 part mo k h1) (r_T L π v0 h O S H A (if part = 0 then S else S.takeWhile x_n10)) := by
  obtain ⟨⟨T, M⟩, a1, a2, a3, a4⟩ := id s
  have n0 := a2.2.1.1
  have n1 := a2.2.1.2
  have zS : x_sl (vA h (v0 + 39)) 0 (vI h v0 65) = S := a2.1
  have kS := a2.2.2
  rw [← zS] at kS
  have KC := x_kt_g (Int32.le_refl 0) n0 kS
  intro m
  induction m with
  | zero => intro mo k W h1 _ _ _ _ _ _ _ r e; rw [f_Mod_tellSpace_9] at e; cases e
  | succ m ih =>
    intro mo k W h1 T1 F I w k0 k1 st
    have END : W = (if part = 0 then S else S.takeWhile x_n10) → qi (f_Mod_tellSpace_74 N v0 h1) (r_T L π v0 h O S H A (if part = 0 then S else S.takeWhile x_n10)) := by
      intro eW
      unfold f_Mod_tellSpace_74
      refine l_gO (qi_b (r_tell (N := N) s T1 F I w) ?_)
      rintro ⟨y, h2⟩ p
      rw [eW] at p
      exact qi_zB (fun _ => qi_some p)
    rw [f_Mod_tellSpace_9]
    refine l_gI (e := vI h v0 65) (I 65 (by decide)) ?_
    refine qi_if (fun c => ?_) (fun c => ?_)
    · refine END ?_
      rcases st with ⟨_, st2, _, st4, st5⟩ | ⟨_, st2, st3⟩
      · have ek : k = vI h v0 65 := Int32.le_antisymm st2 c
        subst ek
        by_cases z : part = 0
        · rw [if_pos z, st4, zS]
        · have tw := (x_tw n0 (Int32.le_refl _) (st5 z) (fun w => absurd w Int32.lt_irrefl)).1
          rw [zS] at tw
          rw [if_neg z, st4, tw, zS]
      · rw [if_neg st2]; exact st3
    · have cl := Int32.not_le.mp c
      refine qi_if (fun c1 => ?_) (fun c1 => ?_)
      · rcases st with ⟨st1, _⟩ | ⟨_, st2, st3⟩
        · rw [st1] at c1; exact absurd c1 (by decide)
        · refine END ?_
          rw [if_neg st2]; exact st3
      · have st' : k ≤ vI h v0 65 ∧ vI h1 v0 67 = k ∧ W = x_sl (vA h (v0 + 39)) 0 k ∧ (¬ part = 0 → ∀ j, 0 ≤ j → j < k → ¬ vA h (v0 + 39) j = 10) := by
          rcases st with st | st
          · exact st.2
          · exact absurd st.1 c1
        obtain ⟨q1, q2, q3, q4⟩ := st'
        have ADD : (¬ part = 0 → ¬ vA h (v0 + 39) k = 10) → qi (f_Mod_tellSpace_41 N (f_Mod_tellSpace_9 N m) v0 part k 1 h1) (r_T L π v0 h O S H A (if part = 0 then S else S.takeWhile x_n10)) := by
          intro nl
          unfold f_Mod_tellSpace_41
          rw [if_neg (by decide)]
          refine l_gR T1 (d_Mo_60 M) (l_gI (e := vI h1 v0 67) rfl (l_sIc T1 M.1 (by decide) rfl ?_))
          intro h2 T2 c2 u2
          refine l_gR T2 (d_Mo_58 M) (l_aI (e := vA h (v0 + 39) k) (fun _ => by rw [x_vA_c (c2 (v0 + 39) (by omega)), x_vA_c (F (v0 + 39) (by omega) (by omega))]) (fun _ => ?_))
          refine r_wk T1 M w (by rw [q2]; lia) (KC k k0 cl) ?_ h2 T2 c2 u2
          intro h3 T3 F3 I3 e3 w3
          refine qi_bs (ih 1 (k + 1) (W ++ [vA h (v0 + 39) k]) h3 T3 (fun b b1 b2 => (F3 b b1 b2).trans (F b b1 b2)) (fun k hk => (I3 k hk).trans (I k hk)) w3 (by lia) (by lia) (Or.inl ⟨rfl, by lia, by rw [e3, q2], by rw [q3, x_sl_q k0 (Int32.le_refl 0) (by lia)], fun z j j0 j1 => ?_⟩))
          by_cases w' : j = k
          · rw [w']; exact nl z
          · exact q4 z j j0 (by lia)
        refine qi_if (fun c2 => ADD (fun z => absurd c2 z)) (fun c2 => ?_)
        refine l_gR T1 (d_Mo_58 M) (l_aI (e := vA h (v0 + 39) k) (fun _ => by rw [x_vA_c (F (v0 + 39) (by omega) (by omega))]) (fun _ => ?_))
        refine qi_if (fun c3 => ?_) (fun c3 => ADD (fun _ => c3))
        unfold f_Mod_tellSpace_41
        rw [if_pos rfl]
        have tw := (x_tw k0 q1 (q4 c2) (fun _ => c3)).1
        rw [zS] at tw
        exact qi_bs (ih 0 (k + 1) W h1 T1 F I w (by lia) (by lia) (Or.inr ⟨rfl, c2, by rw [q3, tw]⟩))
/-- the space is told, or its first line -/
theorem r_tS {part : Int32} (s : r_S L π v0 h O S H A) : qi (f_Mod_tellSpace N v0 part h) (r_T L π v0 h O S H A (if part = 0 then S else S.takeWhile x_n10)) := by
  obtain ⟨⟨T, M⟩, a1, a2, a3, a4⟩ := id s
  unfold f_Mod_tellSpace
  refine l_sIc T M.1 (by decide) rfl ?_
  intro h1 T1 c1 u1
  have e67 : vI h1 v0 67 = 0 := by rw [u1 67, if_pos rfl]
  have n0 := a2.2.1.1
  refine r_tS9 (N := N) s N 1 0 [] h1 T1 (fun b b1 _ => c1 b b1) (fun k hk => by rw [u1 k, if_neg hk]) ⟨?_, by rw [e67]; decide, x_kt_0⟩ (Int32.le_refl 0) (by have := a2.2.1.2; lia) (Or.inl ⟨rfl, n0, e67, ?_, fun _ j j0 j1 => absurd (Int32.lt_of_le_of_lt j0 j1) Int32.lt_irrefl⟩)
  · unfold r_l
    rw [e67]
    exact x_sl_0 (Int32.le_refl 0) (by decide) (by decide)
  · rw [x_sl_0 (Int32.le_refl 0) (by decide) (by decide)]
/-- a text of the store is told -/
theorem r_tT12 {q fr to : Int32} (s : r_S L π v0 h O S H A) (ht : vA h (v0 + 11) q = to) (f0 : 0 ≤ fr) (ft : to - fr ≤ 300) (f6 : to ≤ 1000) (kc : ∀ j, fr ≤ j → j < to → x_kc (vA h (v0 + 28) j)) : ∀ (m : Nat) (k : Int32) (W : List Int32) (h1 : z_H), x_U L π h1 → (∀ b, b ≠ v0 → b ≠ v0 + 41 → h1 b = h b) → (∀ k, k ≠ 67 → vI h1 v0 k = vI h v0 k) → r_R1 h1 v0 67 41 400 W → fr ≤ k → k ≤ to → vI h1 v0 67 = k - fr → W = x_sl (vA h (v0 + 28)) fr k → qi (f_Mod_tellText_12 N m v0 q k h1) (r_T L π v0 h O S H A (x_sl (vA h (v0 + 28)) fr to)) := by
  obtain ⟨⟨T, M⟩, a1, a2, a3, a4⟩ := id s
  intro m
  induction m with
  | zero => intro k W h1 _ _ _ _ _ _ _ _ r e; rw [f_Mod_tellText_12] at e; cases e
  | succ m ih =>
    intro k W h1 T1 F I w k0 k1 e67 eW
    rw [f_Mod_tellText_12]
    refine l_gR T1 (d_Mo_16 M) (l_aI (e := to) (fun _ => by rw [x_vA_c (F (v0 + 11) (by omega) (by omega)), ht]) (fun _ => ?_))
    refine qi_if (fun c => ?_) (fun c => ?_)
    · have ek : k = to := Int32.le_antisymm k1 c
      subst ek
      refine l_gO (qi_b (r_tell (N := N) s T1 F I w) ?_)
      rintro ⟨y, h2⟩ p
      rw [eW] at p
      exact qi_zB (fun _ => qi_some p)
    · have cl := Int32.not_le.mp c
      refine l_gR T1 (d_Mo_60 M) (l_gI (e := vI h1 v0 67) rfl (l_sIc T1 M.1 (by decide) rfl ?_))
      intro h2 T2 c2 u2
      refine l_gR T2 (d_Mo_33 M) (l_aI (e := vA h (v0 + 28) k) (fun _ => by rw [x_vA_c (c2 (v0 + 28) (by omega)), x_vA_c (F (v0 + 28) (by omega) (by omega))]) (fun _ => ?_))
      refine r_wk T1 M w (by rw [e67]; lia) (kc k k0 cl) ?_ h2 T2 c2 u2
      intro h3 T3 F3 I3 e3 w3
      exact qi_bs (ih (k + 1) (W ++ [vA h (v0 + 28) k]) h3 T3 (fun b b1 b2 => (F3 b b1 b2).trans (F b b1 b2)) (fun k hk => (I3 k hk).trans (I k hk)) w3 (by lia) (by lia) (by rw [e3, e67]; grind) (by rw [eW, x_sl_q k0 f0 (by lia)]))
theorem r_tT {q fr to : Int32} (s : r_S L π v0 h O S H A) (hf : vA h (v0 + 10) q = fr) (ht : vA h (v0 + 11) q = to) (f0 : 0 ≤ fr) (ab : fr ≤ to) (ft : to - fr ≤ 300) (f6 : to ≤ 1000) (kc : ∀ j, fr ≤ j → j < to → x_kc (vA h (v0 + 28) j)) : qi (f_Mod_tellText N v0 q h) (r_T L π v0 h O S H A (x_sl (vA h (v0 + 28)) fr to)) := by
  obtain ⟨⟨T, M⟩, a1, a2, a3, a4⟩ := id s
  unfold f_Mod_tellText
  refine l_sIc T M.1 (by decide) rfl ?_
  intro h1 T1 c1 u1
  have e67 : vI h1 v0 67 = 0 := by rw [u1 67, if_pos rfl]
  refine l_gR T1 (d_Mo_15 M) (l_aI (e := fr) (fun _ => by rw [x_vA_c (c1 (v0 + 10) (by omega)), hf]) (fun _ => ?_))
  refine r_tT12 (N := N) s ht f0 ft f6 kc N fr [] h1 T1 (fun b b1 _ => c1 b b1) (fun k hk => by rw [u1 k, if_neg hk]) ⟨?_, by rw [e67]; decide, x_kt_0⟩ (Int32.le_refl _) ab (by rw [e67]; grind) ?_
  · unfold r_l
    rw [e67]
    exact x_sl_0 (Int32.le_refl 0) (by decide) (by decide)
  · rw [x_sl_0 (Int32.le_refl _) f0 f0]
end R2
