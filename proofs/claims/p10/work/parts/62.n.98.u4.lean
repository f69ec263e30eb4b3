/-! class and reference: one command, kept alike -/
section U4a
variable {fd fd' : Int32 → Option (Int32 × Int32 × (Int32 → Int32) × (Int32 → Int32))} {tx : Int32 → Int32} {n : Int32} {rep : Int32 → Int32 → (Int32 → Int32) → (Int32 → Int32) → List Int32} {al k p bf nn dn s t : Int32} {gb ge : Int32 → Int32} {W : List Int32}
theorem x_sw_b (h : 0 ≤ p ∧ p ≤ n ∧ n ≤ 1000) (e : fd p = some (s, t, gb, ge)) (hb : ¬ (p ≤ s ∧ s ≤ t ∧ t ≤ n)) : x_sw fd tx n rep al k p bf nn dn W = (dn, W) := by
  rw [x_sw, dif_pos h]
  simp only [e]
  rw [dif_neg hb]
theorem x_sw_z (h : ¬ (0 ≤ p ∧ p ≤ n ∧ n ≤ 1000)) : x_sw fd tx n rep al k p bf nn dn W = (dn, W) := by
  rw [x_sw, dif_neg h]
theorem x_sw_cg (H : ∀ fm, 0 ≤ fm → fd fm = fd' fm) : ∀ (m : Nat) (p bf nn dn : Int32) (W : List Int32), (n.toInt + 1 - p.toInt).toNat < m → x_sw fd tx n rep al k p bf nn dn W = x_sw fd' tx n rep al k p bf nn dn W := by
  intro m
  induction m with
  | zero => intro p bf nn dn W hm; omega
  | succ m ih =>
    intro p bf nn dn W hm
    by_cases h : 0 ≤ p ∧ p ≤ n ∧ n ≤ 1000
    · have e' := (H p h.1).symm
      cases e : fd p with
      | none => rw [x_sw_n h e, x_sw_n h (e'.trans e)]
      | some z =>
        obtain ⟨s, t, gb, ge⟩ := z
        by_cases hb : p ≤ s ∧ s ≤ t ∧ t ≤ n
        · have dk := x_sw_dec h.1 hb.1 hb.2.1 hb.2.2 h.2.2 h.2.1
          by_cases c : (s < t ∨ ¬ s = bf) ∧ (nn + 1 = k ∨ (k < nn + 1 ∧ ¬ al = 0))
          · rw [x_sw_h h e hb c, x_sw_h h (e'.trans e) hb c, ih _ _ _ _ _ (by omega)]
          · rw [x_sw_m h e hb c, x_sw_m h (e'.trans e) hb c, ih _ _ _ _ _ (by omega)]
        · rw [x_sw_b h e hb, x_sw_b h (e'.trans e) hb]
    · rw [x_sw_z h, x_sw_z h]
end U4a
section U4
variable {L : q_L} {π : Nat → Nat → Option Nat} {W : Nat → Prop} {h h0 h00 : z_H} {it pt ad v0 pg c : Nat} {t : Int32 → Int32} {n f p q k v a : Int32}
/-- a pattern of the reference, as it lies now -/
theorem r_PZ (P : r_PQ h0 v0 q t n p) (e42 : vI h0 v0 42 = f) (hf : f = 0 ∨ f = 1) (AG : r_AG h0 h v0 f) (b1 : r_IX h0 v0 ≤ 260 * f + 260) (b2 : r_QT h0 v0 ≤ 130 * f + 130) : ∃ b, r_PF h v0 q b (x_pA t n p) ∧ vA h (v0 + 30) q = (if x_lk t n p = 94 then 1 else 0) ∧ b + xi (x_pA t n p) ≤ 520 := by
  obtain ⟨b, ⟨⟨q1, q2, q3, q4⟩, ⟨b0, i0, i1, bb⟩, I⟩, ab, le, q0, ql, g5, l1, l2⟩ := P
  rw [e42] at l1 l2
  obtain ⟨x1, x2, x3, x4, x5⟩ := AG.2.1 q l2 (Int32.lt_of_lt_of_le ql b2)
  have le2 := Int32.le_trans le b1
  have f2 : 260 * f + 260 ≤ 520 := by rcases hf with e | e <;> rw [e] <;> decide
  refine ⟨b, ⟨⟨by rw [x5]; exact q1, by rw [x4]; exact q2, by rw [x1]; exact q3, by rw [x2]; exact q4⟩, ⟨b0, i0, i1, bb⟩, fun j j0 j1 => ?_⟩, by rw [x3]; exact ab, Int32.le_trans le2 f2⟩
  obtain ⟨y1, y2, y3, y4, y5⟩ := AG.2.2.1 (b + j) (by lia) (by lia)
  have z := I j j0 j1
  unfold r_kd r_tb at *
  rw [y1, y2, y3, y4, y5]
  exact z
theorem x_PAT (T : q_U L W h00 π h) (kI : qκ L it = 5) (M : q_M L π v0) (C : c_PP h it pt t n p) (sz : vI h it 4 ≤ 240) (R : ∃ b, r_PF h v0 q b (x_pA t n p) ∧ vA h (v0 + 30) q = (if x_lk t n p = 94 then 1 else 0) ∧ b + xi (x_pA t n p) ≤ 520) : y_PP h it pt ∧ vI h pt 6 = xg (x_pA t n p) ∧ (0 ≤ xg (x_pA t n p) ∧ xg (x_pA t n p) ≤ 3) ∧ ∃ s1 s2, r_PP h v0 q s1 s2 (xg (x_pA t n p)) ∧ ∀ S fm, x_kt S → S.length ≤ 60 → 0 ≤ fm → y_fd h it pt S fm = r_fd h v0 q s1 s2 S fm := by
  obtain ⟨b, PF, s1, ab, rp, WF⟩ := C
  obtain ⟨b', RF, ab', s2⟩ := R
  have s3 := Int32.le_trans s1 sz
  have WF' := WF
  obtain ⟨-, ⟨g0, g3, -⟩, -⟩ := WF'
  exact ⟨y_PP_of PF WF s3, PF.1.1, ⟨g0, g3⟩, _, _, r_PP_of RF WF (Int32.le_trans s2 (by decide)), fun S fm kt l f0 => x_fdl T kI M PF ab RF ab' WF s3 s2 kt l f0⟩
theorem x_aR0 {c : Int32} : ¬ x_aR c = 0 := by
  unfold x_aR
  split
  · decide
  · split <;> decide
theorem x_ADR (T : q_U L W h00 π h) (kI : qκ L it = 5) (M : q_M L π v0) (sz : vI h it 4 ≤ 240) (e42 : vI h0 v0 42 = f) (hf : f = 0 ∨ f = 1) (AG : r_AG h0 h v0 f) (b1 : r_IX h0 v0 ≤ 260 * f + 260) (b2 : r_QT h0 v0 ≤ 130 * f + 130) (C : c_AD h it ad t n p) (R : r_AD h0 v0 k v t n p) (k0 : ¬ k = 0) : (∃ s1 s2 g, (¬ k = 1 → ¬ k = 2 → r_PP h v0 v s1 s2 g) ∧ ∀ S rd lc, x_kt S → S.length ≤ 60 → y_ft h it ad S rd lc = r_ft h v0 k v s1 s2 S rd lc) ∧ (¬ vI h ad 1 = 0 → ¬ vI h ad 1 = 1 → y_PP h it (ad + 1)) ∧ ∀ rd, x_rc (vI h ad 1) (vI h ad 2) rd = r_rc k v rd := by
  rcases R with ⟨z, -⟩ | ⟨sA, ek, e1, e3⟩
  · exact absurd z k0
  obtain ⟨c1, c2, c3⟩ := C
  by_cases d47 : x_lk t n p = 47
  · have kk : x_aK (x_lk t n p) = 2 := by rw [d47]; decide
    have kr : k = 3 := by rw [ek, d47]; decide
    have PAT := x_PAT T kI M (c3 kk) sz (r_PZ (e3 kr) e42 hf AG b1 b2)
    obtain ⟨Y, -, -, s1, s2, RP, FE⟩ := PAT
    rw [c1, kk, kr]
    refine ⟨⟨s1, s2, _, fun _ _ => RP, fun S rd lc kt l => ?_⟩, fun _ _ => Y, fun rd => ?_⟩
    · unfold y_ft r_ft
      rw [c1, kk, if_neg (by decide), if_neg (by decide), if_neg (by decide), if_neg (by decide), FE S 0 kt l (by decide)]
      cases r_fd h v0 v s1 s2 S 0 <;> rfl
    · unfold x_rc r_rc
      rw [if_neg (by decide), if_neg (by decide)]
  · by_cases d36 : x_lk t n p = 36
    · have kk : x_aK (x_lk t n p) = 1 := by rw [d36]; decide
      have kr : k = 2 := by rw [ek, d36]; decide
      rw [c1, kk, kr]
      refine ⟨⟨0, 0, 0, fun _ z => absurd rfl z, fun S rd lc kt l => ?_⟩, fun _ z => absurd rfl z, fun rd => ?_⟩
      · unfold y_ft r_ft
        rw [c1, kk, if_neg (show ¬ (1 : Int32) = 0 by decide), if_pos (show (1 : Int32) = 1 from rfl), if_neg (show ¬ (2 : Int32) = 1 by decide), if_pos (show (2 : Int32) = 2 from rfl)]
      · unfold x_rc r_rc
        rw [if_neg (by decide), if_neg (by decide)]
    · have kk : x_aK (x_lk t n p) = 0 := x_aK0 d47 d36
      have kr : k = 1 := by rw [ek, x_aR, if_neg d47, if_neg d36]
      rw [c1, kk, kr]
      refine ⟨⟨0, 0, 0, fun z => absurd rfl z, fun S rd lc kt l => ?_⟩, fun z => absurd rfl z, fun rd => ?_⟩
      · unfold y_ft r_ft
        rw [c1, kk, if_pos rfl, if_pos rfl, c2 kk, e1 kr]
      · unfold x_rc r_rc
        rw [if_pos rfl, if_pos rfl, c2 kk, e1 kr]
theorem x_pv01 : x_pv t n a = 0 ∨ x_pv t n a = 1 := by
  unfold x_pv x_neg
  split
  · exact Or.inr rfl
  · exact Or.inl rfl
theorem x_na_c (h : x_sA (x_lk t n a)) (h2 : ¬ x_na t n a = 2) : x_na t n a = 1 := by
  by_cases c : x_lk t n (x_e1 t n a) = 44
  · exact absurd (x_na2 h c) h2
  · exact x_na1 h c
theorem r_naE (R : r_ADS h0 v0 q t n a) : x_na t n a = r_na (vA h0 (v0 + 5) q) (vA h0 (v0 + 7) q) ∧ (¬ vA h0 (v0 + 5) q = 0 → 1 ≤ x_na t n a) ∧ (¬ vA h0 (v0 + 7) q = 0 → x_na t n a = 2) ∧ (1 ≤ x_na t n a → ¬ vA h0 (v0 + 5) q = 0) ∧ (x_na t n a = 0 ∨ x_na t n a = 1 ∨ x_na t n a = 2) := by
  obtain ⟨R1, R2, R3⟩ := R
  have c7 : ¬ vA h0 (v0 + 7) q = 0 → x_na t n a = 2 := fun z => by
    by_cases w : x_na t n a = 2
    · exact w
    · exact absurd (R3 w) z
  rcases R1 with ⟨z, ns⟩ | ⟨sA, ek, -⟩
  · have na0 := x_na0 ns
    refine ⟨by rw [na0, z, r_na, if_pos rfl], fun w => absurd z w, c7, fun w => absurd w (by rw [na0]; decide), Or.inl na0⟩
  · have n5 : ¬ vA h0 (v0 + 5) q = 0 := by rw [ek]; exact x_aR0
    by_cases w : x_na t n a = 2
    · refine ⟨by rw [w, r_na, if_neg n5, if_neg (R2 w).1], fun _ => by rw [w]; decide, c7, fun _ => n5, Or.inr (Or.inr w)⟩
    · have na1 := x_na_c sA w
      refine ⟨by rw [na1, r_na, if_neg n5, if_pos (R3 w)], fun _ => by rw [na1]; decide, c7, fun _ => n5, Or.inr (Or.inl na1)⟩
end U4
