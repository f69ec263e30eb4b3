/-! contents: a command of the reference -/
def r_TT (h : z_H) (v0 : Nat) (v1 : Int32) (t : Int32 → Int32) (n p : Int32) : Prop := ((0 ≤ x_nl t n (p + 2) - (p + 2) ∧ x_nl t n (p + 2) - (p + 2) ≤ 240) ∧ 0 ≤ p + 2 ∧ x_nl t n (p + 2) ≤ n) ∧ r_SW h v0 (vA h (v0 + 10) v1) t (p + 2) (x_nl t n (p + 2) - (p + 2)) ∧ vA h (v0 + 11) v1 = vA h (v0 + 10) v1 + (x_nl t n (p + 2) - (p + 2)) ∧ (300 * vI h v0 42 ≤ vA h (v0 + 10) v1 ∧ vA h (v0 + 10) v1 ≤ 600 ∧ vA h (v0 + 11) v1 ≤ r_SE h v0)
def r_LT (h : z_H) (v0 : Nat) (v1 : Int32) (t : Int32 → Int32) (n p : Int32) : Prop := vA h (v0 + 4) v1 = x_lk t n p ∧ (x_lk t n p = 115 → r_SB h v0 v1 t n (p + 1)) ∧ (x_lk t n p = 121 → r_YY h v0 v1 t n (p + 1)) ∧ (x_lk t n p = 97 ∨ x_lk t n p = 105 ∨ x_lk t n p = 99 → r_TT h v0 v1 t n p)
def r_BL (h : z_H) (v0 : Nat) (v1 : Int32) (t : Int32 → Int32) (n p : Int32) : Prop := x_lk t n p = 98 ∨ x_lk t n p = 116 → vA h (v0 + 13) v1 = (if 97 ≤ x_lk t n (p + 1) ∧ x_lk t n (p + 1) ≤ 122 then x_lk t n (p + 1) - 97 else -1)
/-- of the commands' rows only one place changes -/
def r_CE (h h' : z_H) (v0 : Nat) (i : Int32) : Prop := ∀ a, (v0 + 4 ≤ a ∧ a ≤ v0 + 18 ∧ a ≠ v0 + 13 ∧ a ≠ v0 + 15) → ∀ j, 0 ≤ j → ¬ j = i → vA h' a j = vA h a j
def r_ADS (h : z_H) (v0 : Nat) (q : Int32) (t : Int32 → Int32) (n a : Int32) : Prop := r_AD h v0 (vA h (v0 + 5) q) (vA h (v0 + 6) q) t n a ∧ (x_na t n a = 2 → ¬ vA h (v0 + 7) q = 0 ∧ r_AD h v0 (vA h (v0 + 7) q) (vA h (v0 + 8) q) t n (x_e1 t n a + 1)) ∧ (¬ x_na t n a = 2 → vA h (v0 + 7) q = 0)
def r_CMD (h : z_H) (v0 : Nat) (q : Int32) (t : Int32 → Int32) (n a : Int32) : Prop := r_ADS h v0 q t n a ∧ vA h (v0 + 16) q = x_pv t n a ∧ r_LT h v0 q t n (x_pq t n a)
section Q21
variable {h h' h2 : z_H} {v0 : Nat} {t : Int32 → Int32} {n a b c f m s hi lo v1 p k q i y w : Int32}
theorem r_CE_o (e4 : ∀ j, 0 ≤ j → ¬ j = i → vA h' (v0 + 4) j = vA h (v0 + 4) j) (e5 : ∀ j, 0 ≤ j → ¬ j = i → vA h' (v0 + 5) j = vA h (v0 + 5) j) (e6 : ∀ j, 0 ≤ j → ¬ j = i → vA h' (v0 + 6) j = vA h (v0 + 6) j) (e7 : ∀ j, 0 ≤ j → ¬ j = i → vA h' (v0 + 7) j = vA h (v0 + 7) j) (e8 : ∀ j, 0 ≤ j → ¬ j = i → vA h' (v0 + 8) j = vA h (v0 + 8) j) (e9 : ∀ j, 0 ≤ j → ¬ j = i → vA h' (v0 + 9) j = vA h (v0 + 9) j) (e10 : ∀ j, 0 ≤ j → ¬ j = i → vA h' (v0 + 10) j = vA h (v0 + 10) j) (e11 : ∀ j, 0 ≤ j → ¬ j = i → vA h' (v0 + 11) j = vA h (v0 + 11) j) (e12 : ∀ j, 0 ≤ j → ¬ j = i → vA h' (v0 + 12) j = vA h (v0 + 12) j) (e14 : ∀ j, 0 ≤ j → ¬ j = i → vA h' (v0 + 14) j = vA h (v0 + 14) j) (e16 : ∀ j, 0 ≤ j → ¬ j = i → vA h' (v0 + 16) j = vA h (v0 + 16) j) (e17 : ∀ j, 0 ≤ j → ¬ j = i → vA h' (v0 + 17) j = vA h (v0 + 17) j) (e18 : ∀ j, 0 ≤ j → ¬ j = i → vA h' (v0 + 18) j = vA h (v0 + 18) j) : r_CE h h' v0 i := by
  intro a ha
  have z : a = v0 + 4 ∨ a = v0 + 5 ∨ a = v0 + 6 ∨ a = v0 + 7 ∨ a = v0 + 8 ∨ a = v0 + 9 ∨ a = v0 + 10 ∨ a = v0 + 11 ∨ a = v0 + 12 ∨ a = v0 + 14 ∨ a = v0 + 16 ∨ a = v0 + 17 ∨ a = v0 + 18 := by omega
  rcases z with z | z | z | z | z | z | z | z | z | z | z | z | z <;> rw [z] <;> assumption
theorem r_KP_e (a : r_KP h h2 v0) (e : ∀ a, v0 < a → a < v0 + 34 → (a = v0 + 23 ∨ a = v0 + 24 ∨ a = v0 + 25 ∨ a = v0 + 26 ∨ a = v0 + 27 ∨ a = v0 + 29 ∨ a = v0 + 30 ∨ a = v0 + 31) → vA h' a = vA h2 a) (e4 : vL h' (v0 + 32) = vL h2 (v0 + 32)) (e5 : vL h' (v0 + 33) = vL h2 (v0 + 33)) (e0 : vI h' v0 42 = vI h2 v0 42) : r_KP h h' v0 := by
  obtain ⟨a1, a2, a3⟩ := a
  refine ⟨r_FB_t a1 (r_FB_a (e _ (by omega) (by omega) (by omega)) (e _ (by omega) (by omega) (by omega)) (e _ (by omega) (by omega) (by omega)) e4 e5) (Int32.le_refl _), fun j j0 jj => ?_, e0.trans a3⟩
  obtain ⟨x1, x2, x3, x4, x5⟩ := a2 j j0 jj
  exact ⟨by rw [e _ (by omega) (by omega) (by omega)]; exact x1, by rw [e _ (by omega) (by omega) (by omega)]; exact x2, by rw [e _ (by omega) (by omega) (by omega)]; exact x3, by rw [e _ (by omega) (by omega) (by omega)]; exact x4, by rw [e _ (by omega) (by omega) (by omega)]; exact x5⟩
theorem r_KP_h (e : h' = h2) (K : r_KP h h2 v0) : r_KP h h' v0 := by rw [e]; exact K
theorem r_SW_k (W : r_SW h v0 s t a m) (s0 : 0 ≤ s) (s1 : s ≤ 900) (m1 : m ≤ 240) (K : r_SK h h' v0 lo hi) (le : s + m ≤ lo) : r_SW h' v0 s t a m := fun j j0 j1 => by
  rw [K (s + j) (by lia) (Or.inl (by lia))]
  exact W j j0 j1
theorem r_h0 (hf : f = 0 ∨ f = 1) (le : 300 * f ≤ s) : 0 ≤ s := by
  rcases hf with e | e <;> rw [e] at le <;> lia
theorem r_SB_f (P : r_SB h v0 q t n a) (hf : vI h v0 42 = 0 ∨ vI h v0 42 = 1) (E : ∀ a, (v0 + 4 ≤ a ∧ a ≤ v0 + 18 ∧ a ≠ v0 + 13 ∧ a ≠ v0 + 15) → vA h' a q = vA h a q) (K : r_KP h h' v0) (G : r_GW h h' v0) (S : r_SK h h' v0 (r_SE h v0) hi) (le : r_SE h v0 ≤ r_SE h' v0) : r_SB h' v0 q t n a := by
  obtain ⟨b, g, E1, Q, ⟨R, e11⟩, ⟨f1, f2, f3⟩, b1, b2, b3⟩ := P
  have e42 := K.2.2
  refine ⟨b, g, E1, ?_, ⟨?_, ?_⟩, ⟨?_, ?_, ?_⟩, ?_, ?_, ?_⟩
  · rw [E (v0 + 9) (by omega)]; exact r_PQ_f Q K G
  · rw [E (v0 + 10) (by omega)]; exact r_RC_k R (r_h0 hf b1) b2 S (e11 ▸ b3)
  · rw [E (v0 + 11) (by omega), E (v0 + 10) (by omega)]; exact e11
  · rw [E (v0 + 17) (by omega)]; exact f1
  · rw [E (v0 + 18) (by omega)]; exact f2
  · rw [E (v0 + 14) (by omega)]; exact f3
  · rw [e42, E (v0 + 10) (by omega)]; exact b1
  · rw [E (v0 + 10) (by omega)]; exact b2
  · rw [E (v0 + 11) (by omega)]; exact Int32.le_trans b3 le
theorem r_YY_f (P : r_YY h v0 q t n a) (hf : vI h v0 42 = 0 ∨ vI h v0 42 = 1) (E : ∀ a, (v0 + 4 ≤ a ∧ a ≤ v0 + 18 ∧ a ≠ v0 + 13 ∧ a ≠ v0 + 15) → vA h' a q = vA h a q) (e42 : vI h' v0 42 = vI h v0 42) (S : r_SK h h' v0 (r_SE h v0) hi) (le : r_SE h v0 ≤ r_SE h' v0) : r_YY h' v0 q t n a := by
  obtain ⟨⟨m, y1, ⟨⟨m0, m1⟩, mx⟩, e12, e11, w1, w2, l1⟩, b1, b2⟩ := P
  have F0 := r_h0 hf b1
  have l2 : vA h (v0 + 10) q + (m - (a + 1)) + (m - (a + 1)) ≤ r_SE h v0 := e11 ▸ l1
  refine ⟨⟨m, y1, ⟨⟨m0, m1⟩, mx⟩, ?_, ?_, ?_, ?_, ?_⟩, ?_, ?_⟩
  · rw [E (v0 + 12) (by omega), E (v0 + 10) (by omega)]; exact e12
  · rw [E (v0 + 11) (by omega), E (v0 + 10) (by omega)]; exact e11
  · rw [E (v0 + 10) (by omega)]
    generalize m - (a + 1) = d at *
    exact r_SW_k w1 F0 (by lia) m1 S (by lia)
  · rw [E (v0 + 10) (by omega)]
    generalize m - (a + 1) = d at *
    exact r_SW_k w2 (by lia) (by lia) m1 S l2
  · rw [E (v0 + 11) (by omega)]; exact Int32.le_trans l1 le
  · rw [e42, E (v0 + 10) (by omega)]; exact b1
  · rw [E (v0 + 10) (by omega)]; exact b2
theorem r_TT_f (P : r_TT h v0 q t n a) (hf : vI h v0 42 = 0 ∨ vI h v0 42 = 1) (E : ∀ a, (v0 + 4 ≤ a ∧ a ≤ v0 + 18 ∧ a ≠ v0 + 13 ∧ a ≠ v0 + 15) → vA h' a q = vA h a q) (e42 : vI h' v0 42 = vI h v0 42) (S : r_SK h h' v0 (r_SE h v0) hi) (le : r_SE h v0 ≤ r_SE h' v0) : r_TT h' v0 q t n a := by
  obtain ⟨⟨⟨m0, m1⟩, mx⟩, w1, e11, b1, b2, l1⟩ := P
  refine ⟨⟨⟨m0, m1⟩, mx⟩, ?_, ?_, ?_, ?_, ?_⟩
  · rw [E (v0 + 10) (by omega)]; exact r_SW_k w1 (r_h0 hf b1) (Int32.le_trans b2 (by decide)) m1 S (e11 ▸ l1)
  · rw [E (v0 + 11) (by omega), E (v0 + 10) (by omega)]; exact e11
  · rw [e42, E (v0 + 10) (by omega)]; exact b1
  · rw [E (v0 + 10) (by omega)]; exact b2
  · rw [E (v0 + 11) (by omega)]; exact Int32.le_trans l1 le
theorem r_LT_f (P : r_LT h v0 q t n p) (hf : vI h v0 42 = 0 ∨ vI h v0 42 = 1) (E : ∀ a, (v0 + 4 ≤ a ∧ a ≤ v0 + 18 ∧ a ≠ v0 + 13 ∧ a ≠ v0 + 15) → vA h' a q = vA h a q) (K : r_KP h h' v0) (G : r_GW h h' v0) (S : r_SK h h' v0 (r_SE h v0) hi) (le : r_SE h v0 ≤ r_SE h' v0) : r_LT h' v0 q t n p := by
  obtain ⟨p1, p2, p3, p4⟩ := P
  exact ⟨by rw [E (v0 + 4) (by omega)]; exact p1, fun z => r_SB_f (p2 z) hf E K G S le, fun z => r_YY_f (p3 z) hf E K.2.2 S le, fun z => r_TT_f (p4 z) hf E K.2.2 S le⟩
theorem r_ADS_f (P : r_ADS h v0 q t n a) (E : ∀ a, (v0 + 4 ≤ a ∧ a ≤ v0 + 18 ∧ a ≠ v0 + 13 ∧ a ≠ v0 + 15) → vA h' a q = vA h a q) (K : r_KP h h' v0) (G : r_GW h h' v0) : r_ADS h' v0 q t n a := by
  obtain ⟨p1, p2, p3⟩ := P
  unfold r_ADS
  rw [E (v0 + 5) (by omega), E (v0 + 6) (by omega), E (v0 + 7) (by omega), E (v0 + 8) (by omega)]
  exact ⟨r_AD_f p1 K G, fun z => ⟨(p2 z).1, r_AD_f (p2 z).2 K G⟩, p3⟩
theorem r_CMD_f (P : r_CMD h v0 q t n a) (hf : vI h v0 42 = 0 ∨ vI h v0 42 = 1) (E : ∀ a, (v0 + 4 ≤ a ∧ a ≤ v0 + 18 ∧ a ≠ v0 + 13 ∧ a ≠ v0 + 15) → vA h' a q = vA h a q) (K : r_KP h h' v0) (G : r_GW h h' v0) (S : r_SK h h' v0 (r_SE h v0) hi) (le : r_SE h v0 ≤ r_SE h' v0) : r_CMD h' v0 q t n a :=
  ⟨r_ADS_f P.1 E K G, by rw [E (v0 + 16) (by omega)]; exact P.2.1, r_LT_f P.2.2 hf E K G S le⟩
theorem r_LT_115 (hk : x_lk t n p = 115) (e4 : vA h (v0 + 4) v1 = x_lk t n p) (S : r_SB h v0 v1 t n (p + 1)) : r_LT h v0 v1 t n p := by
  refine ⟨e4, fun _ => S, fun z => ?_, fun z => ?_⟩ <;> rw [hk] at z <;> exact absurd z (by decide)
theorem r_LT_121 (hk : x_lk t n p = 121) (e4 : vA h (v0 + 4) v1 = x_lk t n p) (S : r_YY h v0 v1 t n (p + 1)) : r_LT h v0 v1 t n p := by
  refine ⟨e4, fun z => ?_, fun _ => S, fun z => ?_⟩ <;> rw [hk] at z <;> exact absurd z (by decide)
theorem r_LT_97 (hk : x_lk t n p = k) (hk' : k = 97 ∨ k = 105 ∨ k = 99) (e4 : vA h (v0 + 4) v1 = x_lk t n p) (S : r_TT h v0 v1 t n p) : r_LT h v0 v1 t n p := by
  refine ⟨e4, fun z => ?_, fun z => ?_, fun _ => S⟩ <;> rw [hk] at z <;> rcases hk' with y | y | y <;> rw [y] at z <;> exact absurd z (by decide)
theorem r_LT_o (n1 : ¬ x_lk t n p = 115) (n2 : ¬ x_lk t n p = 121) (n3 : ¬ x_lk t n p = 97) (n4 : ¬ x_lk t n p = 105) (n5 : ¬ x_lk t n p = 99) (e4 : vA h (v0 + 4) v1 = x_lk t n p) : r_LT h v0 v1 t n p := ⟨e4, fun z => absurd z n1, fun z => absurd z n2, fun z => z.elim (fun z => absurd z n3) (fun z => z.elim (fun z => absurd z n4) (fun z => absurd z n5))⟩
theorem r_LT_k (hk : x_lk t n p = k) (hk' : ¬ (k = 115 ∨ k = 121 ∨ k = 97 ∨ k = 105 ∨ k = 99)) (e4 : vA h (v0 + 4) v1 = x_lk t n p) : r_LT h v0 v1 t n p := by
  subst hk
  exact r_LT_o (fun z => hk' (Or.inl z)) (fun z => hk' (Or.inr (Or.inl z))) (fun z => hk' (Or.inr (Or.inr (Or.inl z)))) (fun z => hk' (Or.inr (Or.inr (Or.inr (Or.inl z))))) (fun z => hk' (Or.inr (Or.inr (Or.inr (Or.inr z))))) e4
theorem r_BL_n (n1 : ¬ x_lk t n p = 98) (n2 : ¬ x_lk t n p = 116) : r_BL h v0 v1 t n p := fun z => z.elim (fun z => absurd z n1) (fun z => absurd z n2)
theorem r_BL_k (hk : x_lk t n p = k) (hk' : ¬ (k = 98 ∨ k = 116)) : r_BL h v0 v1 t n p := fun z => absurd (by rw [hk] at z; exact z) hk'
theorem r_TT_o (cb : ((0 ≤ c ∧ c ≤ p + 1) ∧ (f = 0 ∨ f = 1)) ∧ p + 1 ≤ n) (n1 : n ≤ 240) (p0 : 0 ≤ p) (e10 : vA h' (v0 + 10) v1 = 300 * f + c) (e11 : vA h' (v0 + 11) v1 = 300 * f + (c + (x_nl t n (p + 2) - (p + 2)))) (W : r_SW h' v0 (300 * f + c) t (p + 2) (x_nl t n (p + 2) - (p + 2))) (l : p + 2 ≤ x_nl t n (p + 2) ∧ x_nl t n (p + 2) ≤ n) (e42 : vI h' v0 42 = f) (e22 : vA h' (v0 + 22) f = c + (x_nl t n (p + 2) - (p + 2))) : r_TT h' v0 v1 t n p := by
  obtain ⟨⟨⟨c0, c1⟩, hf⟩, c2⟩ := cb
  obtain ⟨l1, l2⟩ := l
  have d0 : 0 ≤ x_nl t n (p + 2) - (p + 2) ∧ x_nl t n (p + 2) - (p + 2) ≤ 240 := by constructor <;> lia
  refine ⟨⟨d0, by lia, l2⟩, by rw [e10]; exact W, by rw [e11, e10, Int32.add_assoc], ?_, ?_, ?_⟩
  · rw [e42, e10]
    rcases hf with e | e <;> rw [e] <;> lia
  · rw [e10]
    rcases hf with e | e <;> rw [e] <;> lia
  · unfold r_SE
    rw [e42, e22, e11]
    exact Int32.le_refl _
theorem x_blk : a ≤ x_bl t n a := Int32.le_iff_toInt_le.mpr (x_bl_le t n _ a (Nat.lt_succ_self _))
theorem r_cbk (ck : (0 ≤ c ∧ c ≤ a) ∧ (f = 0 ∨ f = 1)) (l : a ≤ p) (n1 : n ≤ 240) (h : p < n) : ((0 ≤ c ∧ c ≤ p + 1) ∧ (f = 0 ∨ f = 1)) ∧ p + 1 ≤ n := by
  obtain ⟨⟨c0, c1⟩, hf⟩ := ck
  exact ⟨⟨⟨c0, by lia⟩, hf⟩, by lia⟩
theorem r_ckl (ck : (0 ≤ c ∧ c ≤ a) ∧ (f = 0 ∨ f = 1)) (l : a ≤ p) : (0 ≤ c ∧ c ≤ p) ∧ (f = 0 ∨ f = 1) := ⟨⟨ck.1.1, Int32.le_trans ck.1.2 l⟩, ck.2⟩
theorem r_ckt (cb : ((0 ≤ c ∧ c ≤ p + 1) ∧ (f = 0 ∨ f = 1)) ∧ p + 1 ≤ n) (n1 : n ≤ 240) (p0 : 0 ≤ p) (l : p + 2 ≤ m ∧ m ≤ n) : (0 ≤ c + (m - (p + 2)) ∧ c + (m - (p + 2)) ≤ m) ∧ (f = 0 ∨ f = 1) := by
  obtain ⟨⟨⟨c0, c1⟩, hf⟩, c2⟩ := cb
  obtain ⟨l1, l2⟩ := l
  exact ⟨⟨by lia, by lia⟩, hf⟩
theorem r_ckg (cb : ((0 ≤ c ∧ c ≤ p + 1) ∧ (f = 0 ∨ f = 1)) ∧ p + 1 ≤ n) (n1 : n ≤ 240) (p0 : 0 ≤ p) (l : p + 2 ≤ m ∧ m ≤ n) : c ≤ c + (m - (p + 2)) := by
  obtain ⟨⟨⟨c0, c1⟩, hf⟩, c2⟩ := cb
  obtain ⟨l1, l2⟩ := l
  lia
theorem x_n58 (n1 : n ≤ 240) (h : p < n) (l : 97 ≤ x_lk t n (p + 1) ∧ x_lk t n (p + 1) ≤ 122) : p + 2 ≤ n := by
  have z : p + 1 < n := x_lkn (t := t) (fun z => absurd l.1 (by rw [z]; decide))
  lia
theorem x_nbr (n1 : n ≤ 240) (h : p < n) : (if 97 ≤ x_lk t n (p + 1) ∧ x_lk t n (p + 1) ≤ 122 then p + 2 else p + 1) ≤ n := by
  split
  · next z => exact x_n58 n1 h z
  · lia
theorem x_np1 (n1 : n ≤ 240) (h : p < n) : p + 1 ≤ n := by lia
theorem x_A1le {ab : Int32 → Prop} {ad d d' s kd lb : Int32} {l l' : Int32 → Int32} (n2 : n ≤ 1000) (A : x_A1 ab (x_act t n p ad) b d d' s l l' kd lb) : p ≤ b := by
  obtain ⟨k, v, e, -⟩ := A
  exact Int32.le_iff_toInt_le.mpr (Int.le_of_lt (x_act_lt n2 e))
theorem r_ADS0 (c0 : ¬ x_sA (x_lk t n a)) (e5 : vA h (v0 + 5) q = y) (e6 : vA h (v0 + 6) q = w) (A : r_AD h v0 y w t n a) (e7 : vA h (v0 + 7) q = 0) : r_ADS h v0 q t n a := by
  have k := x_na0 c0
  refine ⟨by rw [e5, e6]; exact A, fun z => absurd (k.symm.trans z) (by decide), fun _ => e7⟩
theorem r_ADS1 (c0 : x_sA (x_lk t n a)) (e1 : x_adr t n a = some b) (c1 : ¬ x_lk t n b = 44) (e5 : vA h (v0 + 5) q = y) (e6 : vA h (v0 + 6) q = w) (A : r_AD h v0 y w t n a) (e7 : vA h (v0 + 7) q = 0) : r_ADS h v0 q t n a := by
  have k := x_na1 c0 (by rw [x_e1e e1]; exact c1)
  refine ⟨by rw [e5, e6]; exact A, fun z => absurd (k.symm.trans z) (by decide), fun _ => e7⟩
theorem r_ADS2 {y2 w2 : Int32} (c0 : x_sA (x_lk t n a)) (e1 : x_adr t n a = some b) (c1 : x_lk t n b = 44) (e5 : vA h (v0 + 5) q = y) (e6 : vA h (v0 + 6) q = w) (A : r_AD h v0 y w t n a) (e7 : vA h (v0 + 7) q = y2) (e8 : vA h (v0 + 8) q = w2) (n7 : ¬ y2 = 0) (A2 : r_AD h v0 y2 w2 t n (b + 1)) : r_ADS h v0 q t n a := by
  have k := x_na2 c0 (by rw [x_e1e e1]; exact c1)
  refine ⟨by rw [e5, e6]; exact A, fun _ => ?_, fun z => absurd k z⟩
  rw [e7, e8, x_e1e e1]
  exact ⟨n7, A2⟩
end Q21
section Q21b
variable {h h' : z_H} {v0 : Nat} {t : Int32 → Int32} {n a q : Int32}
theorem r_SB_a (P : r_SB h v0 q t n a) (e : ∀ a, vA h' a = vA h a) (l : ∀ a, vL h' a = vL h a) (e42 : vI h' v0 42 = vI h v0 42) : r_SB h' v0 q t n a := by
  obtain ⟨b, g, E1, Q, ⟨R, e11⟩, F, b1, b2, b3⟩ := P
  refine ⟨b, g, E1, ?_, ⟨?_, ?_⟩, ?_, ?_, ?_, ?_⟩
  · rw [e]; exact r_PQ_f Q (r_KP_a (fun a _ _ _ => e a) (l _) (l _) e42) (r_GW_a (e _) (e _) e42)
  · rw [e]; exact r_RC_a R (e _)
  · rw [e, e]; exact e11
  · rw [e, e, e]; exact F
  · rw [e42, e]; exact b1
  · rw [e]; exact b2
  · unfold r_SE; rw [e42, e, e]; exact b3
theorem r_YY_a (P : r_YY h v0 q t n a) (e : ∀ a, vA h' a = vA h a) (e42 : vI h' v0 42 = vI h v0 42) : r_YY h' v0 q t n a := by
  obtain ⟨⟨m, y1, m0, e12, e11, w1, w2, l1⟩, b1, b2⟩ := P
  refine ⟨⟨m, y1, m0, ?_, ?_, ?_, ?_, ?_⟩, ?_, ?_⟩
  · rw [e, e]; exact e12
  · rw [e, e]; exact e11
  · rw [e]; exact fun j j0 j1 => by rw [e]; exact w1 j j0 j1
  · rw [e]; exact fun j j0 j1 => by rw [e]; exact w2 j j0 j1
  · unfold r_SE; rw [e42, e, e]; exact l1
  · rw [e42, e]; exact b1
  · rw [e]; exact b2
end Q21b
