/-! what a search finds, as a function; the same for rows of items that are alike -/
noncomputable def x_fd (tx : Int32 → Int32) (n : Int32) (kd gp : Int32 → Int32) (tk : Int32 → Int32 → Int32) (fr s1 s2 to ae ab fm : Int32) : Option (Int32 × Int32 × (Int32 → Int32) × (Int32 → Int32)) :=
  @dite _ (∃ z : Int32 × Int32 × (Int32 → Int32) × (Int32 → Int32), ∃ a b, x_fye tx n kd gp tk fr s1 s2 to ae ab fm z.1 a b z.2.1 z.2.2.1 z.2.2.2) (Classical.propDecidable _) (fun h => some (Classical.choose h)) (fun _ => none)
section FD
variable {tx tx' : Int32 → Int32} {n : Int32} {kd gp kd' gp' : Int32 → Int32} {tk tk' : Int32 → Int32 → Int32} {fr s1 s2 to ae ab fm g d : Int32}
theorem x_hit_u {st a b e a' b' e' : Int32} {gb ge gb' ge' : Int32 → Int32} (h : x_hit tx n kd gp tk fr s1 s2 to ae st a b e gb ge) (h' : x_hit tx n kd gp tk fr s1 s2 to ae st a' b' e' gb' ge') : e = e' ∧ gb = gb' ∧ ge = ge' := by
  obtain ⟨⟨a0, b0, c⟩, m⟩ := h
  obtain ⟨⟨a0', b0', c'⟩, m'⟩ := h'
  have u : a = a' ∧ b = b' := by
    have q1 := m _ _ _ _ _ a0' b0' c'
    have q2 := m' _ _ _ _ _ a0 b0 c
    rcases q1 with q1 | ⟨q1, q1'⟩
    · rcases q2 with q2 | ⟨q2, _⟩
      · exact absurd (Int32.lt_trans q1 q2) Int32.lt_irrefl
      · rw [q2] at q1; exact absurd q1 Int32.lt_irrefl
    · rcases q2 with q2 | ⟨_, q2'⟩
      · rw [q1] at q2; exact absurd q2 Int32.lt_irrefl
      · rcases q1' with q1' | ⟨q1', w1⟩
        · rcases q2' with q2' | ⟨q2', _⟩
          · exact absurd (Int32.lt_trans q1' q2') Int32.lt_irrefl
          · rw [q2'] at q1'; exact absurd q1' Int32.lt_irrefl
        · rcases q2' with q2' | ⟨_, w2⟩
          · rw [q1'] at q2'; exact absurd q2' Int32.lt_irrefl
          · exact ⟨q1'.symm, Int32.le_antisymm w2 w1⟩
  obtain ⟨ea, eb⟩ := u
  subst ea; subst eb
  obtain ⟨p1, c1, d1, p2, c2, d2, m1, r1, m2, r2, m3⟩ := c.1
  have z := (x_pth_2 m1 m2 c'.1).2
  rw [m3] at z
  cases z
  exact ⟨rfl, rfl, rfl⟩
theorem x_fye_u {s a b e s' a' b' e' : Int32} {gb ge gb' ge' : Int32 → Int32} (h : x_fye tx n kd gp tk fr s1 s2 to ae ab fm s a b e gb ge) (h' : x_fye tx n kd gp tk fr s1 s2 to ae ab fm s' a' b' e' gb' ge') : s = s' ∧ e = e' ∧ gb = gb' ∧ ge = ge' := by
  have es : s = s' := by
    by_cases q : s < s'
    · exact absurd h.2.2.1.2.2 (h'.2.1 s h.1.1 q a b e gb ge h.2.2.1.1 h.2.2.1.2.1)
    · by_cases q' : s' < s
      · exact absurd h'.2.2.1.2.2 (h.2.1 s' h'.1.1 q' a' b' e' gb' ge' h'.2.2.1.1 h'.2.2.1.2.1)
      · exact Int32.le_antisymm (Int32.not_lt.mp q') (Int32.not_lt.mp q)
  subst es
  exact ⟨rfl, x_hit_u h.2.2 h'.2.2⟩
theorem x_fd_s {s a b e : Int32} {gb ge : Int32 → Int32} (h : x_fye tx n kd gp tk fr s1 s2 to ae ab fm s a b e gb ge) : x_fd tx n kd gp tk fr s1 s2 to ae ab fm = some (s, e, gb, ge) := by
  have ex : ∃ z : Int32 × Int32 × (Int32 → Int32) × (Int32 → Int32), ∃ a b, x_fye tx n kd gp tk fr s1 s2 to ae ab fm z.1 a b z.2.1 z.2.2.1 z.2.2.2 := ⟨(s, e, gb, ge), a, b, h⟩
  unfold x_fd
  rw [dif_pos ex]
  obtain ⟨a', b', h'⟩ := Classical.choose_spec ex
  obtain ⟨u1, u2, u3, u4⟩ := x_fye_u h h'
  congr 1
  exact Prod.ext u1.symm (Prod.ext u2.symm (Prod.ext u3.symm u4.symm))
theorem x_fd_n (h : x_fno tx n kd gp tk fr s1 s2 to ae ab fm) : x_fd tx n kd gp tk fr s1 s2 to ae ab fm = none := by
  unfold x_fd
  rw [dif_neg]
  rintro ⟨z, a, b, q⟩
  exact h z.1 q.1.1 q.1.2.1 q.1.2.2 a b _ _ _ q.2.2.1.1 q.2.2.1.2.1 q.2.2.1.2.2
theorem x_fd_z (h : ∀ s a b e gb ge, ¬ x_fye tx n kd gp tk fr s1 s2 to ae ab fm s a b e gb ge) : x_fd tx n kd gp tk fr s1 s2 to ae ab fm = none := by
  unfold x_fd
  rw [dif_neg]
  rintro ⟨z, a, b, q⟩
  exact h _ _ _ _ _ _ q
theorem x_rr_p2 {s p k : Int32} (r : x_rr tx n tk s to p k) (k0 : 0 ≤ k) (n0 : 0 ≤ n) (p0 : 0 ≤ p) (pn : p ≤ n) (n1 : n ≤ 1000) : p ≤ p + k ∧ p + k ≤ n := x_rr_p r k0 (Int32.le_trans (x_rr_b r n0 n1).1 n1) p0 pn n1
/-- a way's end and groups lie in the text -/
theorem x_pth_gk {gb0 ge0 : Int32 → Int32} {st a b e : Int32} {gb ge : Int32 → Int32} (W : x_pw kd gp fr s1 s2 to g) (n0 : 0 ≤ n) (n1 : n ≤ 1000) (st0 : 0 ≤ st) (stn : st ≤ n) (a0 : 0 ≤ a) (b0 : 0 ≤ b) (P : x_pth tx n kd gp tk fr s1 s2 to gb0 ge0 st a b e gb ge) : x_gk n g g gb ge e ∧ st ≤ e := by
  obtain ⟨o1, l1, o2, l2, w1, z1, w2, z2, w3, z3⟩ := W
  obtain ⟨p1, c1, d1, p2, c2, d2, m1, r1, m2, r2, m3⟩ := P
  have k1 := x_w_gk n1 _ _ _ _ _ _ _ _ _ _ w1 (⟨⟨st0, stn⟩, fun j a b => absurd (Int32.le_trans a b) (by decide), fun j a b => absurd (Int32.le_trans a b) (by decide)⟩ : x_gk n 0 0 gb0 ge0 st) m1
  rw [z1] at k1
  have t1 := x_rr_p2 r1 a0 n0 k1.1.1.1 k1.1.1.2 n1
  have k2 := x_w_gk n1 _ _ _ _ _ _ _ _ _ _ w2 (x_gk_up k1.1 t1.1 t1.2) m2
  rw [z2] at k2
  have t2 := x_rr_p2 r2 b0 n0 k2.1.1.1 k2.1.1.2 n1
  have k3 := x_w_gk n1 _ _ _ _ _ _ _ _ _ _ w3 (x_gk_up k2.1 t2.1 t2.2) m3
  rw [z3] at k3
  exact ⟨k3.1, Int32.le_trans k1.2 (Int32.le_trans t1.1 (Int32.le_trans k2.2 (Int32.le_trans t2.1 k3.2)))⟩
theorem x_fye_gk {s a b e : Int32} {gb ge : Int32 → Int32} (W : x_pw kd gp fr s1 s2 to g) (n0 : 0 ≤ n) (n1 : n ≤ 1000) (f0 : 0 ≤ fm) (h : x_fye tx n kd gp tk fr s1 s2 to ae ab fm s a b e gb ge) : x_gk n g g gb ge e ∧ fm ≤ s ∧ s ≤ e := by
  have k := x_pth_gk W n0 n1 (Int32.le_trans f0 h.1.1) h.1.2.1 h.2.2.1.1 h.2.2.1.2.1 h.2.2.1.2.2.1
  exact ⟨k.1, h.1.1, k.2⟩
/-- texts that are alike -/
theorem x_sq_tx {b e p : Int32} (H : ∀ j, 0 ≤ j → j < n → tx j = tx' j) (n1 : n ≤ 1000) (p0 : 0 ≤ p) (pn : p ≤ n) (b0 : 0 ≤ b) (be : b ≤ e) (ep : e ≤ p) (q : x_sq tx n b e p) : x_sq tx' n b e p := by
  refine ⟨q.1, fun j j0 j1 => ?_⟩
  have q1 := q.1
  rw [← H (b + j) (by lia) (by lia), ← H (p + j) (by lia) (by lia)]
  exact q.2 j j0 j1
theorem x_w_tx (H : ∀ j, 0 ≤ j → j < n → tx j = tx' j) (n1 : n ≤ 1000) : ∀ (c : Nat) (i p o l : Int32) (gb ge : Int32 → Int32), x_wf kd gp c i o l → x_gk n o l gb ge p → x_w tx n kd gp tk c i p gb ge = x_w tx' n kd gp tk c i p gb ge := by
  intro c
  induction c with
  | zero => intro i p o l gb ge wf gk; rfl
  | succ c ih =>
    intro i p o l gb ge wf gk
    have w0 := x_wf0 wf
    obtain ⟨-, w1, w2, w3, w4⟩ := wf
    rw [x_w, x_w]
    by_cases k1 : kd i = 1
    · rw [if_pos k1, if_pos k1]
      obtain ⟨gg, wf⟩ := w1 k1
      rw [gg]
      exact ih (i + 1) p (o + 1) l _ _ wf (x_gk_1 gk w0.1 w0.2.1 w0.2.2)
    · rw [if_neg k1, if_neg k1]
      by_cases k2 : kd i = 2
      · rw [if_pos k2, if_pos k2]
        obtain ⟨gg, lo, wf⟩ := w2 k2
        rw [gg]
        exact ih (i + 1) p o o _ _ wf (x_gk_2 gk w0.1 lo w0.2.2 (Int32.le_trans w0.2.1 w0.2.2))
      · rw [if_neg k2, if_neg k2]
        by_cases k3 : kd i = 3
        · rw [if_pos k3, if_pos k3]
          obtain ⟨⟨g1, gl⟩, wf⟩ := w3 k3
          have a1 := gk.2.1 (gp i) g1 (Int32.le_trans gl w0.2.1)
          have a2 := gk.2.2 (gp i) g1 gl
          by_cases s : x_sq tx n (gb (gp i)) (ge (gp i)) p
          · rw [x_cif_t s, x_cif_t (x_sq_tx H n1 gk.1.1 gk.1.2 a1.1 a2.1 a2.2 s)]
            have z := x_sq_le n1 gk.1.1 gk.1.2 a1.1 a2.1 a2.2 s.1
            exact ih (i + 1) _ o l _ _ wf (x_gk_up gk z.1 z.2)
          · rw [x_cif_f s, x_cif_f (fun s' => s (x_sq_tx (fun j j0 j1 => (H j j0 j1).symm) n1 gk.1.1 gk.1.2 a1.1 a2.1 a2.2 s'))]
        · rw [if_neg k3, if_neg k3]
          by_cases s : 0 ≤ p ∧ p < n ∧ tk i (tx p) = 1
          · have s' : 0 ≤ p ∧ p < n ∧ tk i (tx' p) = 1 := ⟨s.1, s.2.1, by rw [← H p s.1 s.2.1]; exact s.2.2⟩
            rw [if_pos s, if_pos s']
            have z := x_lel2 s.2.1 s.1
            exact ih (i + 1) _ o l _ _ (w4 k1 k2 k3) (x_gk_up gk z.1 z.2)
          · have s' : ¬ (0 ≤ p ∧ p < n ∧ tk i (tx' p) = 1) := fun w => s ⟨w.1, w.2.1, by rw [H p w.1 w.2.1]; exact w.2.2⟩
            rw [if_neg s, if_neg s']
theorem x_rr_tx {s p k : Int32} (H : ∀ j, 0 ≤ j → j < n → tx j = tx' j) (r : x_rr tx n tk s to p k) : x_rr tx' n tk s to p k := fun j j0 j1 => by
  have w := r j j0 j1
  exact ⟨w.1, w.2.1, w.2.2.1, by rw [← H _ w.2.1 w.2.2.1]; exact w.2.2.2⟩
theorem x_pth_tx {gb0 ge0 : Int32 → Int32} {st a b e : Int32} {gb ge : Int32 → Int32} (H : ∀ j, 0 ≤ j → j < n → tx j = tx' j) (W : x_pw kd gp fr s1 s2 to g) (n0 : 0 ≤ n) (n1 : n ≤ 1000) (st0 : 0 ≤ st) (stn : st ≤ n) (a0 : 0 ≤ a) (b0 : 0 ≤ b) (P : x_pth tx n kd gp tk fr s1 s2 to gb0 ge0 st a b e gb ge) : x_pth tx' n kd gp tk fr s1 s2 to gb0 ge0 st a b e gb ge := by
  obtain ⟨o1, l1, o2, l2, w1, z1, w2, z2, w3, z3⟩ := W
  obtain ⟨p1, c1, d1, p2, c2, d2, m1, r1, m2, r2, m3⟩ := P
  have g0 : x_gk n 0 0 gb0 ge0 st := ⟨⟨st0, stn⟩, fun j a b => absurd (Int32.le_trans a b) (by decide), fun j a b => absurd (Int32.le_trans a b) (by decide)⟩
  have k1 := x_w_gk n1 _ _ _ _ _ _ _ _ _ _ w1 g0 m1
  rw [z1] at k1
  have t1 := x_rr_p2 r1 a0 n0 k1.1.1.1 k1.1.1.2 n1
  have g1 := x_gk_up k1.1 t1.1 t1.2
  have k2 := x_w_gk n1 _ _ _ _ _ _ _ _ _ _ w2 g1 m2
  rw [z2] at k2
  have t2 := x_rr_p2 r2 b0 n0 k2.1.1.1 k2.1.1.2 n1
  have g2 := x_gk_up k2.1 t2.1 t2.2
  exact ⟨p1, c1, d1, p2, c2, d2, (x_w_tx H n1 _ _ _ _ _ _ _ w1 g0).symm.trans m1, x_rr_tx H r1, (x_w_tx H n1 _ _ _ _ _ _ _ w2 g1).symm.trans m2, x_rr_tx H r2, (x_w_tx H n1 _ _ _ _ _ _ _ w3 g2).symm.trans m3⟩
/-- two patterns that are alike, the second d items further on -/
def x_PE (kd gp : Int32 → Int32) (tk : Int32 → Int32 → Int32) (kd' gp' : Int32 → Int32) (tk' : Int32 → Int32 → Int32) (fr s1 s2 to d : Int32) : Prop := (0 ≤ fr ∧ fr ≤ s1 ∧ s1 ≤ s2 ∧ s2 ≤ to ∧ to ≤ 1000 ∧ -1000 ≤ d ∧ d ≤ 1000) ∧ (s1 < to → kd s1 = 0) ∧ (s2 < to → kd s2 = 0) ∧ ∀ i, fr ≤ i → i < to → kd' (i + d) = kd i ∧ (¬ kd i = 0 → gp' (i + d) = gp i) ∧ (kd i = 0 ∨ kd i = 1 ∨ kd i = 2 ∨ kd i = 3) ∧ (kd i = 0 → ∀ c, x_kc c → tk' (i + d) c = tk i c)
theorem x_ct_sh {a b d : Int32} : x_ct (a + d) (b + d) = x_ct a b := by
  unfold x_ct
  rw [show b + d - (a + d) = b - a from by grind]
theorem x_w_pe (PE : x_PE kd gp tk kd' gp' tk' fr s1 s2 to d) (K : ∀ j, 0 ≤ j → j < n → x_kc (tx j)) {a b p : Int32} {gb ge : Int32 → Int32} (ha : fr ≤ a) (hb : b ≤ to) (b0 : 0 ≤ b) : x_w tx n kd' gp' tk' (x_ct (a + d) (b + d)) (a + d) p gb ge = x_w tx n kd gp tk (x_ct a b) a p gb ge := by
  rw [x_ct_sh]
  obtain ⟨⟨q1, q2, q3, q4, q5, q6, q7⟩, -, -, E⟩ := PE
  by_cases ab : a ≤ b
  · exact x_w_eq (fun i => fr ≤ i ∧ i < to) (fun i h => (E i h.1 h.2).1) (fun i h => (E i h.1 h.2).2.1) (fun i h => (E i h.1 h.2).2.2.1) (fun i p h z p0 p1 => (E i h.1 h.2).2.2.2 z _ (K p p0 p1)) _ a p gb ge (fun k hk => by
      have w := x_ct_i ab (Int32.le_trans q1 ha) hk
      exact ⟨Int32.le_trans ha w.1, Int32.lt_of_lt_of_le w.2 hb⟩)
  · rw [x_ct0 (Int32.le_of_lt (Int32.not_le.mp ab)) (Int32.le_trans q1 ha) b0]; rfl
theorem x_rr_pe (PE : x_PE kd gp tk kd' gp' tk' fr s1 s2 to d) (K : ∀ j, 0 ≤ j → j < n → x_kc (tx j)) {s p k : Int32} (hs : fr ≤ s) (s1' : s ≤ to) (z : s < to → kd s = 0) : x_rr tx n tk' (s + d) (to + d) p k ↔ x_rr tx n tk s to p k := by
  obtain ⟨⟨q1, q2, q3, q4, q5, q6, q7⟩, -, -, E⟩ := PE
  constructor
  · intro r j j0 j1
    have w := r j j0 j1
    have lt : s < to := by have := w.1; lia
    exact ⟨lt, w.2.1, w.2.2.1, by rw [← (E s hs lt).2.2.2 (z lt) _ (K _ w.2.1 w.2.2.1)]; exact w.2.2.2⟩
  · intro r j j0 j1
    have w := r j j0 j1
    have lt := w.1
    exact ⟨by lia, w.2.1, w.2.2.1, by rw [(E s hs lt).2.2.2 (z lt) _ (K _ w.2.1 w.2.2.1)]; exact w.2.2.2⟩
theorem x_pth_pe (PE : x_PE kd gp tk kd' gp' tk' fr s1 s2 to d) (K : ∀ j, 0 ≤ j → j < n → x_kc (tx j)) {gb0 ge0 : Int32 → Int32} {st a b e : Int32} {gb ge : Int32 → Int32} : x_pth tx n kd' gp' tk' (fr + d) (s1 + d) (s2 + d) (to + d) gb0 ge0 st a b e gb ge ↔ x_pth tx n kd gp tk fr s1 s2 to gb0 ge0 st a b e gb ge := by
  have PE' := PE
  obtain ⟨⟨q1, q2, q3, q4, q5, q6, q7⟩, z1, z2, -⟩ := PE'
  unfold x_pth
  have e1 : s1 + d + 1 = s1 + 1 + d := by grind
  have e2 : s2 + d + 1 = s2 + 1 + d := by grind
  have W1 := fun p gb ge => x_w_pe (p := p) (gb := gb) (ge := ge) PE K (Int32.le_refl fr) (Int32.le_trans q3 q4) (Int32.le_trans q1 q2)
  have W2 := fun p gb ge => x_w_pe (a := s1 + 1) (b := s2) (p := p) (gb := gb) (ge := ge) PE K (by lia) q4 (by lia)
  have W3 := fun p gb ge => x_w_pe (a := s2 + 1) (b := to) (p := p) (gb := gb) (ge := ge) PE K (by lia) (Int32.le_refl _) (by lia)
  have R1 := fun p k => x_rr_pe (s := s1) (p := p) (k := k) PE K q2 (Int32.le_trans q3 q4) z1
  have R2 := fun p k => x_rr_pe (s := s2) (p := p) (k := k) PE K (Int32.le_trans q2 q3) q4 z2
  rw [e1, e2]
  simp only [W1, W2, W3, R1, R2]
/-- a search answers the same in texts and patterns that are alike -/
theorem x_fd_eq (H : ∀ j, 0 ≤ j → j < n → tx j = tx' j) (K : ∀ j, 0 ≤ j → j < n → x_kc (tx' j)) (W : x_pw kd gp fr s1 s2 to g) (n0 : 0 ≤ n) (n1 : n ≤ 1000) (f0 : 0 ≤ fm) (PE : x_PE kd gp tk kd' gp' tk' fr s1 s2 to d) : x_fd tx' n kd' gp' tk' (fr + d) (s1 + d) (s2 + d) (to + d) ae ab fm = x_fd tx n kd gp tk fr s1 s2 to ae ab fm := by
  have C : ∀ st a b e gb ge, 0 ≤ st → st ≤ n → 0 ≤ a → 0 ≤ b → (y_C tx' n kd' gp' tk' (fr + d) (s1 + d) (s2 + d) (to + d) ae x_mi x_mi st a b e gb ge ↔ y_C tx n kd gp tk fr s1 s2 to ae x_mi x_mi st a b e gb ge) := by
    intro st a b e gb ge st0 stn a0 b0
    unfold y_C
    rw [x_pth_pe PE K]
    exact ⟨fun z => ⟨x_pth_tx (fun j j0 j1 => (H j j0 j1).symm) W n0 n1 st0 stn a0 b0 z.1, z.2⟩, fun z => ⟨x_pth_tx H W n0 n1 st0 stn a0 b0 z.1, z.2⟩⟩
  have F : ∀ s a b e gb ge, x_fye tx' n kd' gp' tk' (fr + d) (s1 + d) (s2 + d) (to + d) ae ab fm s a b e gb ge ↔ x_fye tx n kd gp tk fr s1 s2 to ae ab fm s a b e gb ge := by
    intro s a b e gb ge
    constructor
    · rintro ⟨⟨c1, c2, c3⟩, c4, ⟨c5, c6, c7⟩, c8⟩
      have s0 := Int32.le_trans f0 c1
      exact ⟨⟨c1, c2, c3⟩, fun s' x1 x2 a b e gb ge y1 y2 y3 => c4 s' x1 x2 a b e gb ge y1 y2 ((C s' a b e gb ge (Int32.le_trans f0 x1) (Int32.le_trans (Int32.le_of_lt x2) c2) y1 y2).mpr y3), ⟨c5, c6, (C s a b e gb ge s0 c2 c5 c6).mp c7⟩, fun a' b' e' gb' ge' y1 y2 y3 => c8 a' b' e' gb' ge' y1 y2 ((C s a' b' e' gb' ge' s0 c2 y1 y2).mpr y3)⟩
    · rintro ⟨⟨c1, c2, c3⟩, c4, ⟨c5, c6, c7⟩, c8⟩
      have s0 := Int32.le_trans f0 c1
      exact ⟨⟨c1, c2, c3⟩, fun s' x1 x2 a b e gb ge y1 y2 y3 => c4 s' x1 x2 a b e gb ge y1 y2 ((C s' a b e gb ge (Int32.le_trans f0 x1) (Int32.le_trans (Int32.le_of_lt x2) c2) y1 y2).mp y3), ⟨c5, c6, (C s a b e gb ge s0 c2 c5 c6).mpr c7⟩, fun a' b' e' gb' ge' y1 y2 y3 => c8 a' b' e' gb' ge' y1 y2 ((C s a' b' e' gb' ge' s0 c2 y1 y2).mp y3)⟩
  by_cases q : ∃ s a b e gb ge, x_fye tx n kd gp tk fr s1 s2 to ae ab fm s a b e gb ge
  · obtain ⟨s, a, b, e, gb, ge, q⟩ := q
    rw [x_fd_s q, x_fd_s ((F s a b e gb ge).mpr q)]
  · rw [x_fd_z (fun s a b e gb ge z => q ⟨s, a, b, e, gb, ge, z⟩), x_fd_z (fun s a b e gb ge z => q ⟨s, a, b, e, gb, ge, (F s a b e gb ge).mp z⟩)]
end FD
