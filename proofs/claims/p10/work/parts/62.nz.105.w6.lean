/-! parse, on both sides -/
section W6
variable {L : q_L} {W : Nat → Prop} {h h0 h' : z_H} {π : Nat → Nat → Option Nat} {sf mo N : Nat} {t : Int32 → Int32} {n : Int32}
theorem x_SF_parse8 (T : q_U L W h0 π h) (k : qκ L sf = 12) (I : q_IC L π h sf) (hN : 100000 ≤ N) (ht : ∀ j, 0 ≤ j → j < n → vA h (sf + 2) j = t j) (hn : vI h (sf + 1) 1 = n) (kt : ∀ j, x_kc (t j)) : qi (f_SF_parse N sf h) (fun r => ((∃ s, r.1 = .inl s) ∧ ∃ q, vR r.2 sf 6 = some q ∧ (q = sf + 30 ∨ q = sf + 279) ∧ vI r.2 sf 8 = 1 ∧ c_TX r.2 q t n ∧ c_PRG r.2 q t n (x_sW t n x_S00)) ∨ ((∃ E, r.1 = .inr E) ∧ vI r.2 sf 8 = vI h sf 8 ∧ vR r.2 sf 6 = vR h sf 6 ∧ ∀ p, vR h sf 6 = some p → ∀ a, p ≤ a → a < p + 249 → (∀ k, vI r.2 a k = vI h a k) ∧ vA r.2 a = vA h a ∧ vL r.2 a = vL h a)) := by
  have csf := q_CSF T k
  unfold q_C_SF at csf
  have hrs := q_rowhi T csf.1
  have l240 : vI h (sf + 1) 1 ≤ 240 := csf.2.1 ▸ hrs.2.2.2
  obtain ⟨nn, c1, c2, c3, c4, c5, c6⟩ := q_CRow T csf.1
  have wc : ∀ j, 0 ≤ vA h ((sf + 1) + 1) j ∧ vA h ((sf + 1) + 1) j ≤ 65535 := fun j => by
    have q := T.2.2.2.2.1 (sf + 1 + 1) j
    rwa [c5, c6] at q
  obtain ⟨p, q, s, t', d, i1, i2, i3, i4, i5, i6, i7, i8⟩ := I
  have U := x_U_of T
  have kk1 := e_SF_2 U k
  have kk2 := e_SF_0 U k
  have R := ii_Pa_read (N := N) (v0 := sf + 4) (v1 := sf + 1) (v2 := q) (t := t) (n := n) U kk1 kk2 i4 i7 ht hn (hn ▸ l240) (x_kcp kt) (by omega) ⟨hrs.2.2.1, l240⟩ wc kt
  have P := p_Pa_read (N := N) (W := fun a => (sf + 4 ≤ a ∧ a < sf + 9) ∨ (q ≤ a ∧ a < q + 249)) (q_rr (W' := fun a => (sf + 4 ≤ a ∧ a < sf + 9) ∨ (q ≤ a ∧ a < q + 249)) T) kk1 kk2 i4 i7 (fun a h1 h2 => Or.inl (by omega)) (fun a h1 h2 => Or.inr (by omega)) (by omega) hN
  unfold f_SF_parse
  refine l_gR U (d_SF_2 U k) ?_
  refine l_gR U (d_SF_0 U k) ?_
  refine l_gR U i2 ?_
  refine l_gO ?_
  obtain ⟨⟨y, h5⟩, e5, πq, T5, -⟩ := P
  have R := R _ e5
  rw [e5, z_b_some]
  dsimp only at R T5 ⊢
  have ce : ∀ a, ¬ ((sf + 4 ≤ a ∧ a < sf + 9) ∨ (q ≤ a ∧ a < q + 249)) → h5 a = h a := fun a z => q_ce T5 z
  obtain ⟨π1, U5, z5, R⟩ := R
  have p6 : π1 sf 6 = some p := by rw [z5 sf 6 (by omega)]; exact i1
  have p7 : π1 sf 7 = some q := by rw [z5 sf 7 (by omega)]; exact i2
  have vr : vR h sf 6 = some p := by rw [U.2.2.2.1]; exact i1
  have s8 : vI h5 sf 8 = vI h sf 8 := x_vI_c (ce sf (by omega))
  rcases R with ⟨y1, -, -, -, PR, TX⟩ | ⟨y0, -⟩
  · subst y1
    rw [if_neg (by decide)]
    refine o_sI U5 k (by decide) rfl ?_
    intro h7 U7 i7 a7 l7
    refine l_gR U7 p6 ?_
    refine l_gR U7 p7 ?_
    refine o_SF_6 (q := q) U7 k ?_
    intro π10 h10 U10 q10 i10 a10 l10
    refine o_SF_7 (q := p) U10 k ?_
    intro π11 h11 U11 q11 i11 a11 l11
    refine o_sI U11 k (by decide) rfl ?_
    intro h12 U12 i12 a12 l12
    have pq : π11 sf 6 = some q := by rw [q11, if_neg (by omega), q10, if_pos ⟨rfl, rfl⟩]
    refine l_gR U12 pq ?_
    refine l_gI (e := vI h12 q 3) rfl ?_
    have II : ∀ a k, a ≠ sf → vI h12 a k = vI h5 a k := fun a k na => by
      rw [i12 a k, if_neg (fun z => na z.1), i11 a k, i10 a k, i7 a k, if_neg (fun z => na z.1)]
    have AA : ∀ a, vA h12 a = vA h5 a := fun a => by rw [a12, a11, a10, a7]
    have LL : ∀ a, vL h12 a = vL h5 a := fun a => by rw [l12, l11, l10, l7]
    refine qi_some (Or.inl ⟨⟨_, rfl⟩, q, ?_, by omega, ?_, ?_, ?_⟩)
    · show vR h12 sf 6 = some q
      rw [U12.2.2.2.1]; exact pq
    · show vI h12 sf 8 = 1
      rw [i12, if_pos ⟨rfl, rfl⟩]
    · exact c_TX_f TX (II _ _ (by omega)) (AA _)
    · exact c_PRG_f PR (fun a k h1 h2 h3 => II a k (by omega)) (fun a h1 h2 => AA a) (fun a h1 h2 => LL a)
  · subst y0
    rw [if_pos rfl]
    refine l_gR U5 (d_SF_2 U5 k) ?_
    refine l_gO ?_
    obtain ⟨⟨y17, h17⟩, e17, z17⟩ := p_Pa_refusedAt (N := N) T5 kk1
    dsimp only at z17
    subst z17
    rw [e17, z_b_some]
    dsimp only
    refine o_sI U5 k (by decide) rfl ?_
    intro h18 U18 i18 a18 l18
    refine qi_some (Or.inr ⟨⟨_, rfl⟩, ?_, ?_, fun p' hp' a h1 h2 => ?_⟩)
    · show vI h18 sf 8 = vI h sf 8
      rw [i18, if_neg (fun z => absurd z.2 (by decide))]; exact s8
    · show vR h18 sf 6 = vR h sf 6
      rw [U18.2.2.2.1, vr]; exact p6
    · have ep : p' = p := Option.some.inj (hp'.symm.trans vr)
      subst ep
      have cc := ce a (by omega)
      refine ⟨fun k => ?_, ?_, ?_⟩
      · show vI h18 a k = vI h a k
        rw [i18, if_neg (fun z => by omega)]
        exact x_vI_c cc
      · show vA h18 a = vA h a
        rw [a18]; exact x_vA_c cc
      · show vL h18 a = vL h a
        rw [l18]; exact x_vL_c cc
end W6
