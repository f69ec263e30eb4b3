/-! reference: y; the space as a subject -/
theorem x_yr_hit {tx : Int32 → Int32} {cp tf tt c q : Int32} (q0 : 0 ≤ tf) (t1 : tt ≤ 1000) (qt : q < tt) (e : tx q = c) : ∀ (m : Nat) (p : Int32), m = x_ct p tt → tf ≤ p → p ≤ q → (∀ j, p ≤ j → j < q → ¬ tx j = c) → x_yr tx cp tf m p c = tx (cp + q - tf) := by
  intro m
  induction m with
  | zero =>
    intro p em p0 pq _
    rw [x_ct1 (Int32.lt_of_le_of_lt pq qt) (by lia)] at em
    cases em
  | succ m ih =>
    intro p em p0 pq H
    rw [x_yr]
    by_cases z : p = q
    · rw [z, if_pos e]
    · have lt : p < q := by lia
      rw [if_neg (H p (Int32.le_refl _) lt)]
      rw [x_ct1 (Int32.lt_trans lt qt) (by lia)] at em
      exact ih (p + 1) (by omega) (by lia) (by lia) (fun j j0 j1 => H j (by lia) j1)
theorem x_yr_no {tx : Int32 → Int32} {cp tf tt c : Int32} (q0 : 0 ≤ tf) (t1 : tt ≤ 1000) : ∀ (m : Nat) (p : Int32), m = x_ct p tt → tf ≤ p → p ≤ tt → (∀ j, p ≤ j → j < tt → ¬ tx j = c) → x_yr tx cp tf m p c = c := by
  intro m
  induction m with
  | zero => intro p _ _ _ _; rw [x_yr]
  | succ m ih =>
    intro p em p0 pt H
    have lt : p < tt := by
      refine Int32.not_le.mp fun z => ?_
      rw [x_ct0 z (by lia) (by lia)] at em
      cases em
    rw [x_yr, if_neg (H p (Int32.le_refl _) lt)]
    rw [x_ct1 lt (by lia)] at em
    exact ih (p + 1) (by omega) (by lia) (by lia) (fun j j0 j1 => H j (by lia) j1)
section R8
variable {L : q_L} {π : Nat → Nat → Option Nat} {N v0 : Nat} {h h1 : z_H} {O S H A : List Int32} {rd cy rp sm nx : Int32}
set_option maxHeartbeats 2000000 in
theorem r_x35 {q n fr mo k c tf tt cp : Int32} {tx : Int32 → Int32} {h0 : z_H} {k16 : Nat → Int32 → Int32 → Int32 → z_H → Option z_H} {Q : z_H → Prop} (M : q_M L π v0) (hf : vA h0 (v0 + 10) q = fr) (hm : vA h0 (v0 + 12) q = mo) (n0 : 0 ≤ n) (n1 : n ≤ 300) (en : n = tt - tf) (tf0 : 0 ≤ tf) (tt1 : tt ≤ 1000) (ab : tf ≤ tt) (HS : ∀ i, 0 ≤ i → i < n → vA h0 (v0 + 28) (fr + i) = tx (tf + i) ∧ vA h0 (v0 + 28) (mo + i) = tx (cp + i)) (DI : ∀ i j, 0 ≤ i → i < j → j < n → ¬ tx (tf + i) = tx (tf + j)) (K : ∀ h1, x_U L π h1 → (∀ b, b ≠ v0 + 39 → h1 b = h0 b) → (∀ j, 0 ≤ j → ¬ j = k → vA h1 (v0 + 39) j = vA h (v0 + 39) j) → vA h1 (v0 + 39) k = x_ym tx tf tt cp c → qi (k16 v0 q n (k + 1) h1) Q) : ∀ (m : Nat) (i : Int32) (h1 : z_H), x_U L π h1 → (∀ b, b ≠ v0 + 39 → h1 b = h0 b) → (∀ j, 0 ≤ j → ¬ j = k → vA h1 (v0 + 39) j = vA h (v0 + 39) j) → 0 ≤ i → i ≤ n → (((∀ j, 0 ≤ j → j < i → ¬ tx (tf + j) = c) ∧ vA h1 (v0 + 39) k = c) ∨ (∃ j, 0 ≤ j ∧ j < i ∧ tx (tf + j) = c ∧ vA h1 (v0 + 39) k = x_ym tx tf tt cp c)) → qi (f_Mod_exchanged_35 N k16 m v0 q n k c i h1) Q := by
  intro m
  induction m with
  | zero => intro i h1 _ _ _ _ _ _ r e; rw [f_Mod_exchanged_35] at e; cases e
  | succ m ih =>
    intro i h1 T1 F1 G1 i0 i1 st
    rw [f_Mod_exchanged_35]
    refine qi_if (fun c1 => ?_) (fun c1 => ?_)
    · have ei : i = n := Int32.le_antisymm i1 c1
      refine qi_bs (K h1 T1 F1 G1 ?_)
      rcases st with ⟨s1, s2⟩ | ⟨_, _, _, _, s2⟩
      · rw [s2]
        unfold x_ym
        refine (x_yr_no tf0 tt1 _ tf rfl (Int32.le_refl _) ab (fun j j0 j1 => ?_)).symm
        have z := s1 (j - tf) (by lia) (by lia)
        rw [show tf + (j - tf) = j from by grind] at z
        exact z
      · exact s2
    · have cl := Int32.not_le.mp c1
      obtain ⟨h1a, h1b⟩ := HS i i0 cl
      refine l_gR T1 (d_Mo_33 M) (l_gR T1 (d_Mo_15 M) (l_aI (e := fr) (fun _ => by rw [x_vA_c (F1 (v0 + 10) (by omega)), hf]) (fun _ => l_aI (e := tx (tf + i)) (fun _ => by rw [x_vA_c (F1 (v0 + 28) (by omega)), h1a]) (fun _ => ?_))))
      refine qi_if (fun c2 => ?_) (fun c2 => ?_)
      · have NB : ∀ j, 0 ≤ j → j < i → ¬ tx (tf + j) = c := fun j j0 j1 z => DI j i j0 j1 cl (z.trans c2.symm)
        have YM : x_ym tx tf tt cp c = tx (cp + i) := by
          unfold x_ym
          rw [x_yr_hit (q := tf + i) tf0 tt1 (by lia) c2 _ tf rfl (Int32.le_refl _) (by lia) (fun j j0 j1 => by
            have z := NB (j - tf) (by lia) (by lia)
            rw [show tf + (j - tf) = j from by grind] at z
            exact z), show cp + (tf + i) - tf = cp + i from by grind]
        refine l_gR T1 (d_Mo_58 M) (l_gR T1 (d_Mo_33 M) (l_gR T1 (d_Mo_17 M) (l_aI (e := mo) (fun _ => by rw [x_vA_c (F1 (v0 + 12) (by omega)), hm]) (fun _ => l_aI (e := tx (cp + i)) (fun _ => by rw [x_vA_c (F1 (v0 + 28) (by omega)), h1b]) (fun _ => l_uIc T1 ?_)))))
        intro h2 T2 j2 c2' u2
        refine qi_bs (ih (i + 1) h2 T2 (fun b hb => (c2' b hb).trans (F1 b hb)) (fun j j0 nj => by rw [u2 j j0, if_neg nj]; exact G1 j j0 nj) (by lia) (by lia) (Or.inr ⟨i, i0, by lia, c2, ?_⟩))
        rw [u2 k j2, if_pos rfl, YM]
      · refine qi_bs (ih (i + 1) h1 T1 F1 G1 (by lia) (by lia) ?_)
        rcases st with ⟨s1, s2⟩ | ⟨j, j0, j1, j2, s2⟩
        · refine Or.inl ⟨fun j j0 j1 => ?_, s2⟩
          by_cases z : j = i
          · rw [z]; exact c2
          · exact s1 j j0 (by lia)
        · exact Or.inr ⟨j, j0, by lia, j2, s2⟩
/-- y -/
theorem r_py {q fr mo tf tt cp : Int32} {tx : Int32 → Int32} (s : r_S L π v0 h O S H A) (n : r_N h v0 rd cy rp sm) (hf : vA h (v0 + 10) q = fr) (hm : vA h (v0 + 12) q = mo) (en : mo - fr = tt - tf) (tf0 : 0 ≤ tf) (ab : tf ≤ tt) (tt1 : tt ≤ 240) (HS : ∀ i, 0 ≤ i → i < tt - tf → vA h (v0 + 28) (fr + i) = tx (tf + i) ∧ vA h (v0 + 28) (mo + i) = tx (cp + i)) (DI : ∀ i j, 0 ≤ i → i < j → j < tt - tf → ¬ tx (tf + i) = tx (tf + j)) (KY : ∀ c, x_kc c → x_kc (x_ym tx tf tt cp c)) : qi (f_Mod_exchanged N v0 q h) (fun r => r_P L π v0 h (1, O, S.map (x_ym tx tf tt cp), H, A, rd, cy, rp, sm, nx, 0) nx r) := by
  obtain ⟨⟨T, M⟩, a1, a2, a3, a4⟩ := id s
  have p0 := a2.2.1.1
  have p1 := a2.2.1.2
  have LOOP : ∀ (m : Nat) (k : Int32) (h1 : z_H), x_U L π h1 → (∀ b, b ≠ v0 + 39 → h1 b = h b) → 0 ≤ k → k ≤ vI h v0 65 → (∀ j, 0 ≤ j → j < k → vA h1 (v0 + 39) j = x_ym tx tf tt cp (vA h (v0 + 39) j)) → (∀ j, k ≤ j → vA h1 (v0 + 39) j = vA h (v0 + 39) j) → qi (f_Mod_exchanged_16 N m v0 q (tt - tf) k h1) (fun r => r_P L π v0 h (1, O, S.map (x_ym tx tf tt cp), H, A, rd, cy, rp, sm, nx, 0) nx r) := by
    intro m
    induction m with
    | zero => intro k h1 _ _ _ _ _ _ r e; rw [f_Mod_exchanged_16] at e; cases e
    | succ m ih =>
      intro k h1 T1 F k0 k1 H1 H2
      have V : ∀ k, vI h1 v0 k = vI h v0 k := fun k => x_vI_c (F v0 (by omega))
      rw [f_Mod_exchanged_16]
      refine l_gI (e := vI h v0 65) (V 65) ?_
      refine qi_if (fun c => ?_) (fun c => ?_)
      · have ek : k = vI h v0 65 := Int32.le_antisymm k1 c
        refine qi_some (r_P1 n ⟨fun a ha hn => F a (by omega), fun k hk hn => V k⟩ (fun k hk hn => V k) ⟨⟨T1, M⟩, r_R1_c a1 (V 69) (F _ (by omega)), ⟨?_, by rw [V]; exact a2.2.1, ?_⟩, r_R1_c a3 (V 66) (F _ (by omega)), r_R1_c a4 (V 68) (F _ (by omega))⟩ ⟨V 76, V 6⟩)
        · unfold r_l
          rw [V, x_sl_e (g := fun j => x_ym tx tf tt cp (vA h (v0 + 39) j)) (Int32.le_refl 0) p0 (by rw [← ek]; exact H1), x_sl_map]
          exact congrArg _ a2.1
        · intro c' hc'
          obtain ⟨c0, m0, e0⟩ := List.mem_map.mp hc'
          rw [← e0]
          exact KY c0 (a2.2.2 c0 m0)
      · have cl := Int32.not_le.mp c
        refine l_gR T1 (d_Mo_58 M) (l_aI (e := vA h (v0 + 39) k) (fun _ => H2 k (Int32.le_refl _)) (fun _ => ?_))
        refine r_x35 (N := N) (h := h1) (h0 := h) (c := vA h (v0 + 39) k) (tf := tf) (tt := tt) (cp := cp) (tx := tx) M hf hm (by lia) (by lia) rfl tf0 (by lia) ab HS DI ?_ N 0 h1 T1 F (fun _ _ _ => rfl) (Int32.le_refl 0) (by lia) (Or.inl ⟨fun j j0 j1 => absurd (Int32.lt_of_le_of_lt j0 j1) Int32.lt_irrefl, H2 k (Int32.le_refl _)⟩)
        intro h2 T2 F2 G2 e2
        refine ih (k + 1) h2 T2 F2 (by lia) (by lia) (fun j j0 j1 => ?_) (fun j j0 => ?_)
        · by_cases z : j = k
          · rw [z]; exact e2
          · rw [G2 j j0 z]; exact H1 j j0 (by lia)
        · rw [G2 j (by lia) (by lia)]; exact H2 j (by lia)
  unfold f_Mod_exchanged
  refine l_gR T (d_Mo_17 M) (l_aI (e := mo) (fun _ => hm) (fun _ => l_gR T (d_Mo_15 M) (l_aI (e := fr) (fun _ => hf) (fun _ => qi_bs ?_))))
  rw [en]
  exact LOOP N 0 h T (fun _ _ => rfl) (Int32.le_refl 0) p0 (fun j j0 j1 => absurd (Int32.lt_of_le_of_lt j0 j1) Int32.lt_irrefl) (fun _ _ => rfl)
/-- the space becomes the subject -/
theorem r_tk (s : r_S L π v0 h O S H A) : qi (f_Mod_takeSpace N v0 h) (fun r => x_U L π r ∧ (∀ b, b ≠ v0 → b ≠ v0 + 36 → r b = h b) ∧ (∀ k, k ≠ 54 → vI r v0 k = vI h v0 k) ∧ vI r v0 54 = vI h v0 65 ∧ ∀ j, 0 ≤ j → j < vI h v0 65 → vA r (v0 + 36) j = vA h (v0 + 39) j) := by
  obtain ⟨⟨T, M⟩, a1, a2, a3, a4⟩ := id s
  have p1 := a2.2.1.2
  have LOOP : ∀ (m : Nat) (i : Int32) (h1 : z_H), x_U L π h1 → (∀ b, b ≠ v0 + 36 → h1 b = h b) → 0 ≤ i → (∀ j, 0 ≤ j → j < i → vA h1 (v0 + 36) j = vA h (v0 + 39) j) → qi (f_Mod_takeSpace_2 N m v0 i h1) (fun r => x_U L π r ∧ (∀ b, b ≠ v0 → b ≠ v0 + 36 → r b = h b) ∧ (∀ k, k ≠ 54 → vI r v0 k = vI h v0 k) ∧ vI r v0 54 = vI h v0 65 ∧ ∀ j, 0 ≤ j → j < vI h v0 65 → vA r (v0 + 36) j = vA h (v0 + 39) j) := by
    intro m
    induction m with
    | zero => intro i h1 _ _ _ _ r e; rw [f_Mod_takeSpace_2] at e; cases e
    | succ m ih =>
      intro i h1 T1 F i0 Hc
      have V : ∀ k, vI h1 v0 k = vI h v0 k := fun k => x_vI_c (F v0 (by omega))
      rw [f_Mod_takeSpace_2]
      refine l_gI (e := vI h v0 65) (V 65) ?_
      refine qi_if (fun c => ?_) (fun c => ?_)
      · refine l_gI (e := vI h v0 65) (V 65) (l_sIc T1 M.1 (by decide) rfl ?_)
        intro h2 T2 c2 u2
        exact qi_some ⟨T2, fun b b1 b2 => (c2 b b1).trans (F b b2), fun k hk => by rw [u2 k, if_neg hk, V], by rw [u2 54, if_pos rfl], fun j j0 j1 => by rw [x_vA_c (c2 (v0 + 36) (by omega))]; exact Hc j j0 (Int32.lt_of_lt_of_le j1 c)⟩
      · have cl := Int32.not_le.mp c
        refine l_gR T1 (d_Mo_51 M) (l_gR T1 (d_Mo_58 M) (l_aI (e := vA h (v0 + 39) i) (fun _ => by rw [x_vA_c (F (v0 + 39) (by omega))]) (fun _ => l_uIc T1 ?_)))
        intro h2 T2 j2 c2 u2
        refine qi_bs (ih (i + 1) h2 T2 (fun b hb => (c2 b hb).trans (F b hb)) (by lia) (fun j j0 j1 => ?_))
        rw [u2 j j0]
        by_cases z : j = i
        · rw [if_pos z, z]
        · rw [if_neg z]; exact Hc j j0 (by lia)
  unfold f_Mod_takeSpace
  exact LOOP N 0 h T (fun _ _ => rfl) (Int32.le_refl 0) (fun j j0 j1 => absurd (Int32.lt_of_le_of_lt j0 j1) Int32.lt_irrefl)
end R8
