/-! contents: halves, goals, the whole script of the reference -/
section Q25
variable {h h' h1 h2 : z_H} {v0 : Nat} {t : Int32 → Int32} {n f g v i : Int32} {B : x_SS}
theorem r_OH_t (a : r_OH h h2 v0 g) (c : r_OH h2 h' v0 g) : r_OH h h' v0 g := by
  obtain ⟨a1, a2, a3, a4, a5⟩ := a
  obtain ⟨c1, c2, c3, c4, c5⟩ := c
  refine ⟨fun b hb j j0 jj => (c1 b hb j j0 jj).trans (a1 b hb j j0 jj), fun j j0 jj => (c2 j j0 jj).trans (a2 j j0 jj), fun j j0 jj => ?_, r_FB_t a4 c4 (Int32.le_refl _), r_SK_t a5 c5 (Int32.le_refl _)⟩
  obtain ⟨x1, x2, x3, x4, x5⟩ := a3 j j0 jj
  obtain ⟨y1, y2, y3, y4, y5⟩ := c3 j j0 jj
  exact ⟨y1.trans x1, y2.trans x2, y3.trans x3, y4.trans x4, y5.trans x5⟩
theorem r_OH_s (e19 : ∀ j, 0 ≤ j → ¬ j = g → vA h' (v0 + 19) j = vA h (v0 + 19) j) (e : ∀ a, v0 + 4 ≤ a → a ≤ v0 + 31 → ¬ (v0 + 19 ≤ a ∧ a ≤ v0 + 22) → vA h' a = vA h a) (l1 : vL h' (v0 + 32) = vL h (v0 + 32)) (l2 : vL h' (v0 + 33) = vL h (v0 + 33)) : r_OH h h' v0 g :=
  ⟨fun a ha j _ _ => by rw [e a (by omega) (by omega) (by omega)], e19, fun j _ _ => ⟨by rw [e _ (by omega) (by omega) (by omega)], by rw [e _ (by omega) (by omega) (by omega)], by rw [e _ (by omega) (by omega) (by omega)], by rw [e _ (by omega) (by omega) (by omega)], by rw [e _ (by omega) (by omega) (by omega)]⟩, r_FB_a (e _ (by omega) (by omega) (by omega)) (e _ (by omega) (by omega) (by omega)) (e _ (by omega) (by omega) (by omega)) l1 l2, r_SK_a (e _ (by omega) (by omega) (by omega))⟩
theorem r_OH_a (e : ∀ a, v0 + 4 ≤ a → a ≤ v0 + 31 → vA h' a = vA h a) (l1 : vL h' (v0 + 32) = vL h (v0 + 32)) (l2 : vL h' (v0 + 33) = vL h (v0 + 33)) : r_OH h h' v0 g :=
  r_OH_s (fun j _ _ => by rw [e _ (by omega) (by omega)]) (fun a h1 h2 _ => e a h1 h2) l1 l2
theorem r_OH_g (e13 : ∀ j, 0 ≤ j → j < 40 * g ∨ 40 * g + 40 ≤ j → vA h' (v0 + 13) j = vA h (v0 + 13) j) (e : ∀ a, ¬ a = v0 + 13 → vA h' a = vA h a) (l : ∀ a, vL h' a = vL h a) : r_OH h h' v0 g := by
  refine ⟨fun a ha j j0 jj => ?_, fun j _ _ => by rw [e _ (by omega)], fun j _ _ => ⟨by rw [e _ (by omega)], by rw [e _ (by omega)], by rw [e _ (by omega)], by rw [e _ (by omega)], by rw [e _ (by omega)]⟩, r_FB_a (e _ (by omega)) (e _ (by omega)) (e _ (by omega)) (l _) (l _), r_SK_a (e _ (by omega))⟩
  by_cases q : a = v0 + 13
  · rw [q]; exact e13 j j0 jj
  · rw [e a q]
theorem r_OH_13 (ix : 40 * g ≤ i ∧ i < 40 * g + 40) (e13 : ∀ j, 0 ≤ j → ¬ j = i → vA h' (v0 + 13) j = vA h (v0 + 13) j) (e : ∀ a, ¬ a = v0 + 13 → vA h' a = vA h a) (l : ∀ a, vL h' a = vL h a) : r_OH h h' v0 g :=
  r_OH_g (fun j j0 jj => e13 j j0 (fun z => by
    rcases jj with y | y
    · exact absurd (z ▸ y) (Int32.not_lt.mpr ix.1)
    · exact absurd (Int32.lt_of_lt_of_le ix.2 y) (z ▸ Int32.lt_irrefl))) e l
theorem r_OH_m (K : r_KP h h' v0) (BD : r_BD h v0) (ck : (0 ≤ vA h (v0 + 22) (vI h v0 42) ∧ vA h (v0 + 22) (vI h v0 42) ≤ vI h v0 41) ∧ (vI h v0 42 = 0 ∨ vI h v0 42 = 1)) (a240 : vI h v0 41 ≤ 240) (SK : r_SK h h' v0 (300 * vI h v0 42 + vA h (v0 + 22) (vI h v0 42)) (300 * vI h v0 42 + 300)) (CE : r_CE h h' v0 i) (E13 : ∀ j, 0 ≤ j → ¬ j = i → vA h' (v0 + 13) j = vA h (v0 + 13) j) (ix : i = -1 ∨ (40 * vI h v0 42 ≤ i ∧ i < 40 * vI h v0 42 + 40)) (E19 : ∀ j, 0 ≤ j → ¬ j = vI h v0 42 → vA h' (v0 + 19) j = vA h (v0 + 19) j) : r_OH h h' v0 (vI h v0 42) := by
  obtain ⟨k1, k2, -⟩ := K
  obtain ⟨⟨c0, c1⟩, ⟨d0, d9, d1⟩, hf⟩ := BD
  obtain ⟨⟨s0, s1⟩, -⟩ := ck
  have nx : ∀ j, 0 ≤ j → j < 40 * vI h v0 42 ∨ 40 * vI h v0 42 + 40 ≤ j → ¬ j = i := by
    intro j j0 jj z
    rcases ix with q | ⟨q1, q2⟩
    · rw [z, q] at j0
      exact absurd j0 (by decide)
    · rcases jj with y | y
      · exact absurd (z ▸ y) (Int32.not_lt.mpr q1)
      · exact absurd (Int32.lt_of_lt_of_le q2 y) (z ▸ Int32.lt_irrefl)
  have l1 : 260 * vI h v0 42 ≤ r_IX h v0 ∧ 130 * vI h v0 42 ≤ r_QT h v0 ∧ 300 * vI h v0 42 ≤ 300 * vI h v0 42 + vA h (v0 + 22) (vI h v0 42) := by
    unfold r_IX r_QT
    rcases hf with e | e <;> rw [e] at c0 c1 d0 d9 s0 s1 ⊢ <;> refine ⟨?_, ?_, ?_⟩ <;> lia
  refine ⟨fun a ha j j0 jj => ?_, E19, fun j j0 jj => k2 j j0 (jj.imp (fun z => Int32.lt_of_lt_of_le z l1.2.1) id), fun j j0 jj => k1 j j0 (jj.imp (fun z => Int32.lt_of_lt_of_le z l1.1) id), fun j j0 jj => SK j j0 (jj.imp (fun z => Int32.lt_of_lt_of_le z l1.2.2) id)⟩
  by_cases q : a = v0 + 13
  · rw [q]; exact E13 j j0 (nx j j0 jj)
  · exact CE a (by omega) j j0 (nx j j0 jj)
theorem r_ix40 (ck : f = 0 ∨ f = 1) {c : Int32} (c0 : 0 ≤ c) (c1 : c ≤ 40) : (if c = 40 then -1 else 40 * f + c) = -1 ∨ (40 * f ≤ (if c = 40 then -1 else 40 * f + c) ∧ (if c = 40 then -1 else 40 * f + c) < 40 * f + 40) := by
  by_cases q : c = 40
  · rw [if_pos q]; exact Or.inl rfl
  · rw [if_neg q]
    right
    rcases ck with e | e <;> rw [e] <;> constructor <;> lia
theorem r_ix41 (ck : f = 0 ∨ f = 1) {c : Int32} (c0 : 0 ≤ c) (c1 : c ≤ 40) (q : ¬ c = 40) : (40 * f + c) = -1 ∨ (40 * f ≤ 40 * f + c ∧ 40 * f + c < 40 * f + 40) := by
  right
  rcases ck with e | e <;> rw [e] <;> constructor <;> lia
theorem r_SC_ix (S : r_SC h v0 t n B) (hf : vI h v0 42 = 0 ∨ vI h v0 42 = 1) (dz : ¬ vI h v0 43 = 0) : 40 * vI h v0 42 ≤ vA h (v0 + 35) (vI h v0 43 - 1) ∧ vA h (v0 + 35) (vI h v0 43 - 1) < 40 * vI h v0 42 + 40 := by
  obtain ⟨⟨b1, b2, b3⟩, ⟨r1, r2, r3, r4⟩, c, o, g, l⟩ := S
  rw [b2] at dz ⊢
  obtain ⟨⟨o1, -⟩, o2, o3⟩ := o (xSd B - 1) (by lia) (by lia)
  rw [o1]
  rcases hf with e | e <;> rw [e] <;> constructor <;> lia
/-- goals -/
theorem r_GN_0 (le : vA h (v0 + 19) (vI h v0 42) ≤ v) : r_GN h h v0 v := fun k k0 k1 => ⟨fun z => absurd (Int32.lt_of_lt_of_le k1 (Int32.le_trans le z)) Int32.lt_irrefl, fun _ => rfl⟩
theorem r_GN_n (w0 : 0 ≤ v) (w1 : v < 40) (nb : ¬ (vA h (v0 + 4) (40 * vI h v0 42 + v) = 98 ∨ vA h (v0 + 4) (40 * vI h v0 42 + v) = 116)) (R : r_GN h h' v0 (v + 1)) : r_GN h h' v0 v := by
  intro k k0 k1
  obtain ⟨R1, R2⟩ := R k k0 k1
  by_cases q : k = v
  · rw [q] at R2 ⊢
    exact ⟨fun _ z => absurd z nb, fun _ => R2 (fun z => nb z.2)⟩
  · have e : (v + 1 ≤ k) ↔ (v ≤ k) := by constructor <;> intro _ <;> lia
    rw [e] at R1 R2
    exact ⟨R1, R2⟩
theorem r_GN_m (w0 : 0 ≤ v) (w1 : v < 40) (m1 : vA h (v0 + 13) (40 * vI h v0 42 + v) = -1) (R : r_GN h h' v0 (v + 1)) : r_GN h h' v0 v := by
  intro k k0 k1
  obtain ⟨R1, R2⟩ := R k k0 k1
  by_cases q : k = v
  · rw [q] at R2 ⊢
    have z := R2 (fun z => absurd z.1 (by lia))
    exact ⟨fun _ _ => Or.inl ⟨m1, z.trans m1⟩, fun _ => z⟩
  · have e : (v + 1 ≤ k) ↔ (v ≤ k) := by constructor <;> intro _ <;> lia
    rw [e] at R1 R2
    exact ⟨R1, R2⟩
theorem r_GN_b (hf : vI h v0 42 = 0 ∨ vI h v0 42 = 1) (w0 : 0 ≤ v) (w1 : v < 40) (c1 : vA h (v0 + 19) (vI h v0 42) ≤ 40) (ne : ¬ vA h (v0 + 13) (40 * vI h v0 42 + v) = -1) (g0 : 0 ≤ vA h (v0 + 34) (vA h (v0 + 13) (40 * vI h v0 42 + v))) (kk : vA h (v0 + 4) (40 * vI h v0 42 + v) = 98 ∨ vA h (v0 + 4) (40 * vI h v0 42 + v) = 116) (a13 : ∀ j, 0 ≤ j → vA h1 (v0 + 13) j = if j = 40 * vI h v0 42 + v then vA h (v0 + 34) (vA h (v0 + 13) (40 * vI h v0 42 + v)) - 40 * vI h v0 42 + 1 else vA h (v0 + 13) j) (a1 : ∀ a, ¬ a = v0 + 13 → vA h1 a = vA h a) (e42 : vI h1 v0 42 = vI h v0 42) (R : r_GN h1 h' v0 (v + 1)) : r_GN h h' v0 v := by
  unfold r_GN at R
  rw [e42, a1 (v0 + 19) (by omega), a1 (v0 + 4) (by omega), a1 (v0 + 34) (by omega)] at R
  intro k k0 k1
  obtain ⟨R1, R2⟩ := R k k0 k1
  have k40 : k < 40 := Int32.lt_of_lt_of_le k1 c1
  have i0 : 0 ≤ 40 * vI h v0 42 + k := by rcases hf with e | e <;> rw [e] <;> lia
  rw [a13 _ i0] at R1 R2
  by_cases q : k = v
  · rw [q] at R2 ⊢
    rw [if_pos rfl] at R2
    have z := R2 (fun z => absurd z.1 (by lia))
    exact ⟨fun _ _ => Or.inr ⟨ne, g0, z⟩, fun w => absurd ⟨Int32.le_refl _, kk⟩ w⟩
  · have e : (v + 1 ≤ k) ↔ (v ≤ k) := by constructor <;> intro _ <;> lia
    rw [if_neg (fun z => q (by rcases hf with e | e <;> rw [e] at z <;> lia))] at R1 R2
    rw [e] at R1 R2
    exact ⟨R1, R2⟩
theorem r_ixo (hf : f = 0 ∨ f = 1) {j : Int32} (w0 : 0 ≤ v) (w1 : v < 40) (jj : j < 40 * f ∨ 40 * f + 40 ≤ j) : ¬ j = 40 * f + v := by
  intro z
  rw [z] at jj
  rcases hf with e | e <;> rw [e] at jj <;> rcases jj with y | y <;> lia
theorem r_AG_a (e : ∀ a, ¬ a = v0 + 13 → vA h' a = vA h a) (l : ∀ a, vL h' a = vL h a) : r_AG h h' v0 f :=
  ⟨fun a ha j _ _ => by rw [e a (by omega)], fun j _ _ => ⟨by rw [e _ (by omega)], by rw [e _ (by omega)], by rw [e _ (by omega)], by rw [e _ (by omega)], by rw [e _ (by omega)]⟩, fun j _ _ => ⟨by rw [e _ (by omega)], by rw [e _ (by omega)], by rw [e _ (by omega)], by rw [l], by rw [l]⟩, fun j _ _ => by rw [e _ (by omega)]⟩
theorem r_AG_t (hf : f = 0 ∨ f = 1) (eg : g = 1 - f) (a : r_AG h h2 v0 f) (c : r_OH h2 h' v0 g) : r_AG h h' v0 f := by
  obtain ⟨a1, a2, a3, a4⟩ := a
  obtain ⟨c1, c2, c3, c4, c5⟩ := c
  have m0 : ∀ (m j : Int32), 0 ≤ m → m ≤ 300 → m * f ≤ j → j < m * f + m → 0 ≤ j ∧ (j < m * g ∨ m * g + m ≤ j) := by
    intro m j m0 m1 j0 j1
    rcases hf with e | e
    · rw [e] at j0 j1 eg
      have g1 : g = 1 := by rw [eg]; decide
      rw [Int32.mul_zero] at j0 j1
      rw [g1, Int32.mul_one]
      exact ⟨j0, Or.inl (by lia)⟩
    · rw [e] at j0 j1 eg
      have g1 : g = 0 := by rw [eg]; decide
      rw [Int32.mul_one] at j0 j1
      rw [g1, Int32.mul_zero]
      exact ⟨by lia, Or.inr (by lia)⟩
  refine ⟨fun b hb j j0 j1 => ?_, fun j j0 j1 => ?_, fun j j0 j1 => ?_, fun j j0 j1 => ?_⟩
  · obtain ⟨p, q⟩ := m0 40 j (by decide) (by decide) j0 j1
    exact (c1 b (by omega) j p q).trans (a1 b hb j j0 j1)
  · obtain ⟨p, q⟩ := m0 130 j (by decide) (by decide) j0 j1
    obtain ⟨x1, x2, x3, x4, x5⟩ := a2 j j0 j1
    obtain ⟨y1, y2, y3, y4, y5⟩ := c3 j p q
    exact ⟨y1.trans x1, y2.trans x2, y3.trans x3, y4.trans x4, y5.trans x5⟩
  · obtain ⟨p, q⟩ := m0 260 j (by decide) (by decide) j0 j1
    obtain ⟨x1, x2, x3, x4, x5⟩ := a3 j j0 j1
    obtain ⟨y1, y2, y3, y4, y5⟩ := c4 j p q
    exact ⟨y1.trans x1, y2.trans x2, y3.trans x3, y4.trans x4, y5.trans x5⟩
  · obtain ⟨p, q⟩ := m0 300 j (by decide) (by decide) j0 j1
    exact (c5 j p q).trans (a4 j j0 j1)
/-- a refused script leaves the other half -/
theorem r_PRG_f (P : r_PRG h v0 f t n B) (eg : g = 1 - f) (c : r_OH h h' v0 g) : r_PRG h' v0 f t n B := by
  obtain ⟨⟨p1, p2, p3⟩, hf, G, h0, e0, A, bb, C⟩ := P
  have fg : ¬ f = g := by rcases hf with e | e <;> rw [e] at eg ⊢ <;> rw [eg] <;> decide
  have f0 : 0 ≤ f := by rcases hf with e | e <;> rw [e] <;> decide
  refine ⟨⟨(c.2.1 f f0 fg).trans p1, p2, p3⟩, hf, fun k k0 k1 => ?_, h0, e0, r_AG_t hf eg A c, bb, C⟩
  have k40 : k < 40 := Int32.lt_of_lt_of_le k1 p3
  have e13 : vA h' (v0 + 13) (40 * f + k) = vA h (v0 + 13) (40 * f + k) := by
    refine c.1 (v0 + 13) (by omega) _ ?_ ?_
    · rcases hf with e | e <;> rw [e] <;> lia
    · rcases hf with e | e
      · rw [e] at eg ⊢
        left
        rw [eg]
        lia
      · rw [e] at eg ⊢
        right
        rw [eg]
        lia
  rw [e13]
  exact G k k0 k1
theorem r_PRG_o {hg : z_H} (S : r_SC h v0 t n B) (BD : r_BD h v0) (cb : ((0 ≤ vA h (v0 + 22) (vI h v0 42) ∧ vA h (v0 + 22) (vI h v0 42) ≤ vI h v0 41) ∧ (vI h v0 42 = 0 ∨ vI h v0 42 = 1)) ∧ vI h v0 41 ≤ n) (n1 : n ≤ 240) (st : x_lk t n (vI h v0 41) = -1) (d0 : vI h v0 43 = 0) (GN : r_GN h hg v0 0) (e13 : vA h' (v0 + 13) = vA hg (v0 + 13)) (a1 : ∀ a, ¬ a = v0 + 13 → vA h' a = vA h a) (l1 : ∀ a, vL h' a = vL h a) : r_PRG h' v0 (vI h v0 42) t n (x_sW t n B) := by
  obtain ⟨⟨b1, b2, b3⟩, ⟨r1, r2, r3, r4⟩, c, o, g, l⟩ := S
  rw [b1] at st
  rw [x_sW_t st]
  obtain ⟨⟨c0, c1⟩, ⟨q0, q9, q1⟩, -⟩ := BD
  obtain ⟨⟨⟨s0, s1⟩, hf⟩, s2⟩ := cb
  refine ⟨⟨by rw [a1 _ (by omega)]; exact b3, r3, r4⟩, hf, fun k k0 k1 => ?_, h, rfl, r_AG_a a1 l1, ?_, fun k k0 k1 => (c k k0 k1).1⟩
  · obtain ⟨G1, G2⟩ := GN k k0 (by rw [b3]; exact k1)
    obtain ⟨⟨-, -, LT⟩, BL⟩ := c k k0 k1
    have e4 := LT.1
    rw [e13]
    have LB : x_lk t n (x_pq t n (xSp B k)) = 98 ∨ x_lk t n (x_pq t n (xSp B k)) = 116 → vA h (v0 + 13) (40 * vI h v0 42 + k) = x_lb t n (x_pq t n (xSp B k)) := BL
    have az : ¬ x_lb t n (x_pq t n (xSp B k)) = -1 → 0 ≤ x_lb t n (x_pq t n (xSp B k)) ∧ x_lb t n (x_pq t n (xSp B k)) < 26 := by
      intro z
      unfold x_lb at z ⊢
      split at z
      · next w => rw [if_pos w]; exact ⟨(x_az w).1, Int32.lt_of_le_of_lt (x_az w).2 (by decide)⟩
      · exact absurd rfl z
    have main : x_lk t n (x_pq t n (xSp B k)) = 98 ∨ x_lk t n (x_pq t n (xSp B k)) = 116 → (vA hg (v0 + 13) (40 * vI h v0 42 + k) = if x_lb t n (x_pq t n (xSp B k)) = -1 then -1 else xSl B (x_lb t n (x_pq t n (xSp B k)))) ∧ (¬ x_lb t n (x_pq t n (xSp B k)) = -1 → 1 ≤ xSl B (x_lb t n (x_pq t n (xSp B k)))) := by
      intro z
      have w := G1 k0 (by rw [e4]; exact z)
      rw [LB z] at w
      rcases w with ⟨w1, w2⟩ | ⟨w1, w2, w3⟩
      · rw [if_pos w1]; exact ⟨w2, fun y => absurd w1 y⟩
      · rw [if_neg w1]
        obtain ⟨y0, y1⟩ := az w1
        rcases l _ y0 y1 with ⟨u1, u2⟩ | ⟨u1, u2, u3⟩
        · rw [u1] at w2
          exact absurd w2 (by decide)
        · rw [u1] at w3
          refine ⟨?_, fun _ => u2⟩
          rw [w3]
          rcases hf with e | e <;> rw [e] <;> lia
    refine ⟨fun z => (main z).1, fun z => (main z).2, fun z => ?_⟩
    rw [G2 (fun w => by rw [e4, z] at w; exact absurd w.2 (by decide))]
    rcases g k k0 k1 z with e | ⟨d, e0, e1, -⟩
    · exact e
    · rw [← b2, d0] at e1
      exact absurd (Int32.lt_of_le_of_lt e0 e1) (by decide)
  · unfold r_IX r_QT r_SE
    rcases hf with e | e <;> rw [e] at c0 c1 q0 q9 s0 s1 ⊢ <;> refine ⟨?_, ?_, ?_⟩ <;> lia
theorem x_lk_end (hn : vI h v0 3 = n) (nl : vI h v0 3 ≤ vI h v0 41) : x_lk t n (vI h v0 41) = -1 := by
  rw [x_lk, if_neg (Int32.not_lt.mpr (hn ▸ nl))]
theorem r_BD0 (q1 : vI h v0 41 = 0) (hf : vI h v0 42 = 0 ∨ vI h v0 42 = 1) (q3 : vA h (v0 + 21) (vI h v0 42) = 0) (q4 : vA h (v0 + 20) (vI h v0 42) = 0) : r_BD h v0 := by
  unfold r_BD
  rw [q1, q3, q4]
  exact ⟨⟨by decide, by decide⟩, ⟨by decide, by decide, by decide⟩, hf⟩
theorem r_live {x : Int32} (lv : x = 0 ∨ x = 1) : 1 - x = 0 ∨ 1 - x = 1 := by
  rcases lv with e | e <;> rw [e]
  · exact Or.inr (by decide)
  · exact Or.inl (by decide)
theorem r_hfx (hf : f = 0 ∨ f = 1) : x_hf (40 * f) := by
  rcases hf with e | e <;> rw [e]
  · exact Or.inl (by decide)
  · exact Or.inr (by decide)
end Q25
