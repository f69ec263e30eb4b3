/-! class and reference: s, y, texts; the whole program -/
section U5
variable {L : q_L} {π : Nat → Nat → Option Nat} {W : Nat → Prop} {h h0 h00 : z_H} {v0 pg c : Nat} {t : Int32 → Int32} {n f p q a : Int32}
theorem x_SUB (T : q_U L W h00 π h) (kI : qκ L (pg + 3) = 5) (M : q_M L π v0) (sz : vI h (pg + 3) 4 ≤ 240) (n1 : n ≤ 240) (kt : ∀ j, x_kc (t j)) (tx : ∀ j, 0 ≤ j → j < n → vA h (pg + 2) j = t j) (e42 : vI h0 v0 42 = f) (hf : f = 0 ∨ f = 1) (AG : r_AG h0 h v0 f) (b1 : r_IX h0 v0 ≤ 260 * f + 260) (b2 : r_QT h0 v0 ≤ 130 * f + 130) (b3 : r_SE h0 v0 ≤ 300 * f + 300) (E : ∀ a, (v0 + 4 ≤ a ∧ a ≤ v0 + 18 ∧ a ≠ v0 + 13 ∧ a ≠ v0 + 15) → vA h a q = vA h0 a q) (C : c_SUB h (pg + 3) c t n p) (R : r_SB h0 v0 q t n (p + 1)) : (y_PP h (pg + 3) (c + 5) ∧ (0 ≤ vI h c 9 ∧ vI h c 9 ≤ vI h c 10 ∧ vI h c 10 ≤ n) ∧ ∃ CD, x_cd (vA h (pg + 2)) (vI h (c + 5) 6) (x_ct (vI h c 9) (vI h c 10)) (vI h c 9) = some CD) ∧ (vI h c 13 = vA h (v0 + 18) q ∧ (0 ≤ vA h (v0 + 10) q ∧ vA h (v0 + 10) q ≤ vA h (v0 + 11) q ∧ vA h (v0 + 11) q ≤ 600) ∧ ∃ s1 s2 g, r_PP h v0 (vA h (v0 + 9) q) s1 s2 g ∧ (∀ j, vA h (v0 + 10) q ≤ j → j < vA h (v0 + 11) q → x_ck g (vA h (v0 + 28) j)) ∧ ∀ S, x_kt S → S.length ≤ 60 → y_cS h pg c S = x_sw (r_fd h v0 (vA h (v0 + 9) q) s1 s2 S) (x_tl S) (x_nl8 S) (fun st t gb ge => x_rx S st t gb ge (x_sl (vA h (v0 + 28)) (vA h (v0 + 10) q) (vA h (v0 + 11) q))) (vA h (v0 + 17) q) (if vA h (v0 + 14) q ≤ 0 then 1 else vA h (v0 + 14) q) 0 (-1) 0 0 []) := by
  have n2 : n ≤ 1000 := Int32.le_trans n1 (by decide)
  obtain ⟨b, g, ⟨E1, R1, bb⟩, Q, ⟨⟨⟨M0, M1⟩, RC⟩, e11⟩, ⟨f1, f2, f3⟩, l1, l2, l3⟩ := R
  rw [x_s11] at E1 Q
  rw [e42] at l1
  obtain ⟨PP, c9, c10, c6, ⟨k12, k13, k14⟩⟩ := C
  have q1 : x_sq1 t n p = b := by rw [x_sq1, E1]; rfl
  have q2 : x_sg t n p = g := by rw [x_sg, E1]; rfl
  have q3 : x_sq2 t n p = (x_rW t n (x_R0 b)).1 + 1 := by rw [x_sq2, q1, q2, R1]; rfl
  rw [q1] at c9
  rw [q2] at c6
  rw [q3] at c10 k12 k13 k14
  obtain ⟨Y, eg, ⟨g0, g3⟩, s1, s2, RP, FE⟩ := x_PAT T kI M PP sz (r_PZ Q e42 hf AG b1 b2)
  have gg : g = xg (x_pA t n (p + 2)) := c6.symm.trans eg
  rw [← gg] at g0 g3 RP
  obtain ⟨-, ⟨-, -⟩, -, CK, CD, lt, dn⟩ := x_rWc (tx := vA h (pg + 2)) n2 kt tx g0 g3 _ (x_R0 b) _ (Nat.lt_succ_self _) bb (show (0 : Int32) ≤ 0 by decide) bb R1
  have CD' : x_cd (vA h (pg + 2)) g (x_ct b ((x_rW t n (x_R0 b)).1 + 1 - 1)) b = some (x_sl (x_rW t n (x_R0 b)).2.2 0 (x_rW t n (x_R0 b)).2.1) := CD
  have lt' : b < (x_rW t n (x_R0 b)).1 + 1 := lt
  have CK' : ∀ j, 0 ≤ j → j < (x_rW t n (x_R0 b)).2.1 → x_ck g ((x_rW t n (x_R0 b)).2.2 j) := CK
  generalize x_rW t n (x_R0 b) = RW at *
  have s0 : 0 ≤ vA h0 (v0 + 10) q := r_h0 hf l1
  have ST : ∀ j, 0 ≤ j → j < RW.2.1 → vA h (v0 + 28) (vA h0 (v0 + 10) q + j) = RW.2.2 j := by
    intro j j0 j1
    rw [AG.2.2.2 _ (by lia) (by lia)]
    exact RC j j0 j1
  have SL : x_sl RW.2.2 0 RW.2.1 = x_sl (vA h (v0 + 28)) (vA h0 (v0 + 10) q) (vA h0 (v0 + 11) q) := by
    rw [x_sl_s (g := vA h (v0 + 28)) (d := vA h0 (v0 + 10) q) (Int32.le_refl 0) M0 s0 (Int32.le_trans M1 (by decide)) (Int32.le_trans l2 (by decide)) (fun j j0 j1 => by rw [Int32.add_comm]; exact (ST j j0 j1).symm), Int32.zero_add, Int32.add_comm, ← e11]
  rw [E (v0 + 18) (by omega), E (v0 + 10) (by omega), E (v0 + 11) (by omega), E (v0 + 9) (by omega), E (v0 + 17) (by omega), E (v0 + 14) (by omega)]
  refine ⟨⟨Y, ⟨?_, ?_, ?_⟩, ?_⟩, ?_, ⟨s0, ?_, ?_⟩, s1, s2, g, RP, fun j j0 j1 => ?_, fun S kS lS => ?_⟩
  · rw [c9]; exact bb
  · rw [c9, c10]; lia
  · rw [c10]; lia
  · rw [c6, c9, c10]; exact ⟨_, CD'⟩
  · rw [k13, f2]
  · rw [e11]; lia
  · rcases hf with e | e <;> rw [e] at b3 <;> lia
  · have z := ST (j - vA h0 (v0 + 10) q) (by lia) (by lia)
    rw [show vA h0 (v0 + 10) q + (j - vA h0 (v0 + 10) q) = j by lia] at z
    rw [z]
    exact CK' _ (by lia) (by lia)
  · unfold y_cS
    rw [c6, c9, c10, CD', k12, k14, f1, f3, ← SL]
    have dg : (if (x_fW t n (RW.1 + 1) 0 0 0).2.2.2 < 1 then (1 : Int32) else (x_fW t n (RW.1 + 1) 0 0 0).2.2.2) = (if (x_fW t n (RW.1 + 1) 0 0 0).2.2.2 ≤ 0 then 1 else (x_fW t n (RW.1 + 1) 0 0 0).2.2.2) := by
      generalize (x_fW t n (RW.1 + 1) 0 0 0).2.2.2 = d
      by_cases z : d ≤ 0
      · rw [if_pos z, if_pos (by lia)]
      · rw [if_neg z, if_neg (by lia)]
    rw [dg]
    exact x_sw_cg (fun fm f0 => FE S fm kS lS f0) _ _ _ _ _ _ (Nat.lt_succ_self _)
theorem x_YYc (n1 : n ≤ 240) (kt : ∀ j, x_kc (t j)) (tx : ∀ j, 0 ≤ j → j < n → vA h (pg + 2) j = t j) (e42 : vI h0 v0 42 = f) (hf : f = 0 ∨ f = 1) (AG : r_AG h0 h v0 f) (b3 : r_SE h0 v0 ≤ 300 * f + 300) (E : ∀ a, (v0 + 4 ≤ a ∧ a ≤ v0 + 18 ∧ a ≠ v0 + 13 ∧ a ≠ v0 + 15) → vA h a q = vA h0 a q) (C : vI h c 9 = p + 2 ∧ vI h c 10 = x_yS t n p ∧ vI h c 11 = x_yS t n p + 1) (R : r_YY h0 v0 q t n (p + 1)) : ((0 ≤ vI h c 9 ∧ vI h c 9 ≤ vI h c 10 ∧ vI h c 10 ≤ n) ∧ 0 ≤ vI h c 11 ∧ vI h c 11 + (vI h c 10 - vI h c 9) ≤ n ∧ vI h c 11 ≤ 1000) ∧ ∃ tx tf tt cp, vA h (v0 + 12) q - vA h (v0 + 10) q = tt - tf ∧ (0 ≤ tf ∧ tf ≤ tt ∧ tt ≤ 240) ∧ (∀ i, 0 ≤ i → i < tt - tf → vA h (v0 + 28) (vA h (v0 + 10) q + i) = tx (tf + i) ∧ vA h (v0 + 28) (vA h (v0 + 12) q + i) = tx (cp + i)) ∧ (∀ i j, 0 ≤ i → i < j → j < tt - tf → ¬ tx (tf + i) = tx (tf + j)) ∧ (∀ c, x_kc c → x_kc (x_ym tx tf tt cp c)) ∧ y_cY h pg c = x_ym tx tf tt cp := by
  have n2 : n ≤ 1000 := Int32.le_trans n1 (by decide)
  obtain ⟨⟨m, y1, ⟨⟨m0, m1⟩, yf0, mx⟩, e12, e11, w1, w2, l1⟩, d1, d2⟩ := R
  rw [x_s11] at y1 m0 m1 yf0 mx e12 e11 w1 w2
  rw [e42] at d1
  obtain ⟨c9, c10, c11⟩ := C
  rw [x_ySe y1] at c10 c11
  obtain ⟨⟨k1, k2⟩, DI⟩ := x_yf_d n2 yf0 y1
  have F0 := r_h0 hf d1
  have l2 : vA h0 (v0 + 10) q + (m - (p + 2)) + (m - (p + 2)) ≤ 300 * f + 300 := Int32.le_trans (e11 ▸ l1) b3
  refine ⟨⟨⟨by rw [c9]; exact yf0, by rw [c9, c10]; exact k1, by rw [c10]; lia⟩, by rw [c11]; lia, by rw [c9, c10, c11]; lia, by rw [c11]; lia⟩, vA h (pg + 2), vI h c 9, vI h c 10, vI h c 11, ?_, ⟨by rw [c9]; exact yf0, by rw [c9, c10]; exact k1, by rw [c10]; lia⟩, fun i i0 i1 => ?_, fun i j i0 ij j1 => ?_, fun x kx => ?_, rfl⟩
  · rw [E (v0 + 12) (by omega), E (v0 + 10) (by omega), e12, c9, c10]
    lia
  · rw [c9, c10] at i1
    rw [E (v0 + 12) (by omega), E (v0 + 10) (by omega), e12, c9, c11]
    constructor
    · rw [AG.2.2.2 _ (by lia) (by lia), w1 i i0 i1, tx _ (by lia) (by lia)]
    · rw [AG.2.2.2 _ (by lia) (by lia), w2 i i0 i1, tx _ (by lia) (by lia)]
  · rw [c9, c10] at j1
    rw [c9, tx _ (by lia) (by lia), tx _ (by lia) (by lia)]
    exact DI i j i0 ij j1
  · unfold x_ym
    refine x_yr_kc kx _ _ (fun j hj => ?_)
    have z := x_ct_i (by rw [c9, c10]; exact k1) (by rw [c9]; exact yf0) hj
    rw [c9, c10] at z
    rw [c11, c9, tx _ (by lia) (by lia)]
    exact kt _
theorem x_TTc (n1 : n ≤ 240) (kt : ∀ j, x_kc (t j)) (tx : ∀ j, 0 ≤ j → j < n → vA h (pg + 2) j = t j) (e42 : vI h0 v0 42 = f) (hf : f = 0 ∨ f = 1) (AG : r_AG h0 h v0 f) (b3 : r_SE h0 v0 ≤ 300 * f + 300) (E : ∀ a, (v0 + 4 ≤ a ∧ a ≤ v0 + 18 ∧ a ≠ v0 + 13 ∧ a ≠ v0 + 15) → vA h a q = vA h0 a q) (C : vI h c 9 = p + 2 ∧ vI h c 10 = x_nl t n (p + 2)) (R : r_TT h0 v0 q t n p) : (0 ≤ vI h c 9 ∧ vI h c 9 ≤ vI h c 10 ∧ vI h c 10 ≤ n) ∧ (0 ≤ vA h (v0 + 10) q ∧ vA h (v0 + 10) q ≤ vA h (v0 + 11) q ∧ vA h (v0 + 11) q ≤ 600 ∧ vA h (v0 + 11) q - vA h (v0 + 10) q ≤ 300) ∧ (∀ j, vA h (v0 + 10) q ≤ j → j < vA h (v0 + 11) q → x_kc (vA h (v0 + 28) j)) ∧ y_cX h pg c = x_sl (vA h (v0 + 28)) (vA h (v0 + 10) q) (vA h (v0 + 11) q) := by
  obtain ⟨⟨⟨m0, m1⟩, p0, mn⟩, w1, e11, d1, d2, l1⟩ := R
  rw [e42] at d1
  obtain ⟨c9, c10⟩ := C
  have F0 := r_h0 hf d1
  have pm : p + 2 ≤ x_nl t n (p + 2) := Int32.le_iff_toInt_le.mpr (x_nl_le t n _ (p + 2) (Nat.lt_succ_self _))
  have l2 := Int32.le_trans l1 b3
  have f6 : 300 * f + 300 ≤ 600 := by rcases hf with e | e <;> rw [e] <;> decide
  have ST : ∀ i, 0 ≤ i → i < x_nl t n (p + 2) - (p + 2) → vA h (v0 + 28) (vA h0 (v0 + 10) q + i) = t (p + 2 + i) := by
    intro i i0 i1
    rw [AG.2.2.2 _ (by lia) (by lia)]
    exact w1 i i0 i1
  rw [E (v0 + 10) (by omega), E (v0 + 11) (by omega), c9, c10]
  refine ⟨⟨p0, pm, mn⟩, ⟨F0, by lia, by lia, by lia⟩, fun j j0 j1 => ?_, ?_⟩
  · have z := ST (j - vA h0 (v0 + 10) q) (by lia) (by lia)
    rw [show vA h0 (v0 + 10) q + (j - vA h0 (v0 + 10) q) = j by lia] at z
    rw [z]
    exact kt _
  · unfold y_cX
    rw [c9, c10]
    have z : ∀ (f' : Int32 → Int32) (a b : Int32), 0 ≤ a → a ≤ b → b ≤ 1000 → x_sl f' a b = x_sl (fun j => f' (a + j)) 0 (b - a) := by
      intro f' a b a0 ab b1
      rw [x_sl_s (f := fun j => f' (a + j)) (g := f') (d := a) (Int32.le_refl 0) (by lia) a0 (by lia) (by lia) (fun j _ _ => by rw [Int32.add_comm]), Int32.zero_add, show b - a + a = b by lia]
    rw [z (vA h (pg + 2)) (p + 2) _ p0 pm (by lia), z (vA h (v0 + 28)) (vA h0 (v0 + 10) q) _ F0 (by lia) (by lia), e11, show vA h0 (v0 + 10) q + (x_nl t n (p + 2) - (p + 2)) - vA h0 (v0 + 10) q = x_nl t n (p + 2) - (p + 2) by lia]
    refine x_sl_e (Int32.le_refl 0) m0 (fun j j0 j1 => ?_)
    rw [ST j j0 j1, tx _ (by lia) (by lia)]
end U5
section U6
variable {L : q_L} {π : Nat → Nat → Option Nat} {W : Nat → Prop} {h h00 : z_H} {v0 pg : Nat} {t : Int32 → Int32} {n f : Int32} {B : x_SS}
/-- one program, kept by both -/
theorem x_BOTH (T : q_U L W h00 π h) (kI : qκ L (pg + 3) = 5) (M : q_M L π v0) (sz : vI h (pg + 3) 4 ≤ 240) (n1 : n ≤ 240) (kt : ∀ j, x_kc (t j)) (TX : c_TX h pg t n) (C : c_PRG h pg t n B) (R : r_PRG h v0 f t n B) (lc : Int32) : y_PRG h pg ∧ vI h pg 3 = xSz B ∧ vA h (v0 + 19) f = xSz B ∧ xSz B ≤ 40 ∧ ∀ k, 0 ≤ k → k < xSz B → r_CM h v0 lc (xSz B) (40 * f + k) (vI h (y_cm pg k) 3) (vI h (y_cm pg k) 7) (vI h (y_cm pg k) 13) (vI h (y_cm pg k) 5) (vI h (y_cm pg k) 6) (y_cX h pg (y_cm pg k)) (y_cY h pg (y_cm pg k)) (y_cS h pg (y_cm pg k)) (fun S rd => y_ft h (pg + 3) (y_cm pg k + 1) S rd lc) (fun S rd => y_ft h (pg + 3) (y_cm pg k + 3) S rd lc) (fun rd => x_rc (vI h (y_cm pg k + 3) 1) (vI h (y_cm pg k + 3) 2) rd) := by
  obtain ⟨⟨s1, s2, s3⟩, C⟩ := C
  obtain ⟨⟨u1, -, -⟩, hf, G, h0, e42, AG, ⟨b1, b2, b3⟩, R⟩ := R
  have tx : ∀ j, 0 ≤ j → j < n → vA h (pg + 2) j = t j := TX.1
  have hn : vI h (pg + 1) 1 = n := TX.2
  have key : ∀ k, 0 ≤ k → k < xSz B → (y_CK h pg (y_cm pg k) ∧ vI h (y_cm pg k) 5 ≤ 2 ∧ (1 ≤ vI h (y_cm pg k) 5 → ¬ vI h (y_cm pg k + 1) 1 = 0 → ¬ vI h (y_cm pg k + 1) 1 = 1 → y_PP h (pg + 3) (y_cm pg k + 2)) ∧ (vI h (y_cm pg k) 5 = 2 → ¬ vI h (y_cm pg k + 3) 1 = 0 → ¬ vI h (y_cm pg k + 3) 1 = 1 → y_PP h (pg + 3) (y_cm pg k + 4))) ∧ r_CM h v0 lc (xSz B) (40 * f + k) (vI h (y_cm pg k) 3) (vI h (y_cm pg k) 7) (vI h (y_cm pg k) 13) (vI h (y_cm pg k) 5) (vI h (y_cm pg k) 6) (y_cX h pg (y_cm pg k)) (y_cY h pg (y_cm pg k)) (y_cS h pg (y_cm pg k)) (fun S rd => y_ft h (pg + 3) (y_cm pg k + 1) S rd lc) (fun S rd => y_ft h (pg + 3) (y_cm pg k + 3) S rd lc) (fun rd => x_rc (vI h (y_cm pg k + 3) 1) (vI h (y_cm pg k + 3) 2) rd) := by
    intro k k0 k1
    have k40 : k < 40 := Int32.lt_of_lt_of_le k1 s3
    obtain ⟨⟨⟨a5, aA, aB⟩, a6, ⟨a3, aS, aY, aT, aL⟩⟩, cB, cG⟩ := C k k0 k1
    obtain ⟨G1, G2, G3⟩ := G k k0 k1
    obtain ⟨RA, r16, ⟨r4, rS, rY, rT⟩⟩ := R k k0 k1
    generalize x_pq t n (xSp B k) = p at *
    have E : ∀ a, (v0 + 4 ≤ a ∧ a ≤ v0 + 18 ∧ a ≠ v0 + 13 ∧ a ≠ v0 + 15) → vA h a (40 * f + k) = vA h0 a (40 * f + k) := fun a ha => AG.1 a ha _ (by rcases hf with e | e <;> rw [e] <;> lia) (by rcases hf with e | e <;> rw [e] <;> lia)
    obtain ⟨N1, N2, N3, N4, N5⟩ := r_naE RA
    obtain ⟨RA1, RA2, RA3⟩ := RA
    have A1 := fun (z : ¬ vA h0 (v0 + 5) (40 * f + k) = 0) => x_ADR T kI M sz e42 hf AG b1 b2 (aA (N2 z)) RA1 z
    have A2 := fun (z : ¬ vA h0 (v0 + 7) (40 * f + k) = 0) => x_ADR T kI M sz e42 hf AG b1 b2 (aB (N3 z)) (RA2 (N3 z)).2 z
    have SB := fun (z : x_lk t n p = 115) => x_SUB T kI M sz n1 kt tx e42 hf AG b1 b2 b3 E (aS z) (rS z)
    have YB := fun (z : x_lk t n p = 121) => x_YYc n1 kt tx e42 hf AG b3 E (aY z) (rY z)
    have TB := fun (z : x_lk t n p = 97 ∨ x_lk t n p = 105 ∨ x_lk t n p = 99) => x_TTc n1 kt tx e42 hf AG b3 E (aT z) (rT z)
    constructor
    · refine ⟨⟨fun z => ?_, fun z => ?_, fun z => ?_⟩, ?_, fun z => ?_, fun z => ?_⟩
      · rw [a3] at z
        rw [hn]
        exact (SB z).1
      · rw [a3] at z
        rw [hn]
        exact (YB z).1
      · rw [a3] at z
        rw [hn]
        exact (TB z).1
      · rw [a5]
        rcases N5 with e | e | e <;> rw [e] <;> decide
      · rw [a5] at z
        exact (A1 (N4 z)).2.1
      · rw [a5] at z
        exact (A2 (RA2 z).1).2.1
    · unfold r_CM
      refine ⟨⟨?_, ?_, ?_, ?_⟩, fun z => ?_, fun z w => ?_, fun z => ?_, fun z => ?_, fun z => ?_, fun z => ?_, fun z => ?_⟩
      · rw [E (v0 + 4) (by omega), r4]; exact a3
      · rw [E (v0 + 16) (by omega), r16]; exact a6
      · rw [a6]; exact x_pv01
      · rw [E (v0 + 5) (by omega), E (v0 + 7) (by omega), ← N1]; exact a5
      · rw [E (v0 + 5) (by omega)] at z
        rw [E (v0 + 5) (by omega), E (v0 + 6) (by omega)]
        obtain ⟨⟨t1, t2, g, P1, P2⟩, -, -⟩ := A1 z
        exact ⟨t1, t2, g, P1, fun S rd kS lS => P2 S rd lc kS lS⟩
      · rw [E (v0 + 7) (by omega)] at w
        rw [E (v0 + 7) (by omega), E (v0 + 8) (by omega)]
        obtain ⟨⟨t1, t2, g, P1, P2⟩, -, P3⟩ := A2 w
        exact ⟨P3, t1, t2, g, P1, fun S rd kS lS => P2 S rd lc kS lS⟩
      · rw [a3] at z
        exact (SB z).2
      · rw [a3] at z
        exact (YB z).2
      · rw [a3] at z
        exact (TB z).2
      · rw [a3] at z
        rw [cB z, G1 z, aL z]
        show (if x_lb t n p = -1 then xSz B else xSl B (x_lb t n p)) = _
        by_cases y : x_lb t n p = -1
        · rw [if_pos y, if_pos y, if_pos rfl]
        · rw [if_neg y, if_neg y, if_neg]
          intro w
          have := G2 z y
          rw [w] at this
          exact absurd this (by decide)
      · rw [a3] at z
        rw [cG z, G3 z]
  exact ⟨fun k k0 k1 => (key k k0 (by rw [← s1]; exact k1)).1, s1, u1, s3, fun k k0 k1 => (key k k0 k1).2⟩
end U6
