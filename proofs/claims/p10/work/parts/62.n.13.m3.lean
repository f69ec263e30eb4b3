/-! matching: places and groups stay in the text -/
/-- o groups have begun, l have ended, all of them before p -/
def x_gk (n o l : Int32) (gb ge : Int32 → Int32) (p : Int32) : Prop := (0 ≤ p ∧ p ≤ n) ∧ (∀ j, 1 ≤ j → j ≤ o → 0 ≤ gb j ∧ gb j ≤ p) ∧ ∀ j, 1 ≤ j → j ≤ l → gb j ≤ ge j ∧ ge j ≤ p
theorem x_gk_up {n o l p p' : Int32} {gb ge : Int32 → Int32} (g : x_gk n o l gb ge p) (a : p ≤ p') (b : p' ≤ n) : x_gk n o l gb ge p' :=
  ⟨⟨Int32.le_trans g.1.1 a, b⟩, fun j j1 j2 => ⟨(g.2.1 j j1 j2).1, Int32.le_trans (g.2.1 j j1 j2).2 a⟩, fun j j1 j2 => ⟨(g.2.2 j j1 j2).1, Int32.le_trans (g.2.2 j j1 j2).2 a⟩⟩
theorem x_gk_1 {n o l p : Int32} {gb ge : Int32 → Int32} (g : x_gk n o l gb ge p) (h0 : 0 ≤ l) (h1 : l ≤ o) (h3 : o ≤ 3) : x_gk n (o + 1) l (x_up gb (o + 1) p) ge p := by
  refine ⟨g.1, fun j j1 j2 => ?_, fun j j1 j2 => ?_⟩
  · unfold x_up
    by_cases q : j = o + 1
    · rw [if_pos q]; exact ⟨g.1.1, Int32.le_refl _⟩
    · rw [if_neg q]; exact g.2.1 j j1 (by lia)
  · unfold x_up
    rw [if_neg (by lia)]
    exact g.2.2 j j1 j2
theorem x_gk_2 {n o l p : Int32} {gb ge : Int32 → Int32} (g : x_gk n o l gb ge p) (h0 : 0 ≤ l) (lo : l + 1 = o) (h3 : o ≤ 3) (l3 : l ≤ 3) : x_gk n o o gb (x_up ge o p) p := by
  refine ⟨g.1, g.2.1, fun j j1 j2 => ?_⟩
  unfold x_up
  by_cases q : j = o
  · rw [if_pos q]; exact ⟨(g.2.1 j j1 j2).2, Int32.le_refl _⟩
  · rw [if_neg q]; exact g.2.2 j j1 (by lia)
theorem x_sq_le {n p b e : Int32} (n0 : n ≤ 1000) (p0 : 0 ≤ p) (pn : p ≤ n) (b0 : 0 ≤ b) (be : b ≤ e) (ep : e ≤ p) (s : e - b ≤ n - p) : p ≤ p + (e - b) ∧ p + (e - b) ≤ n := by
  constructor <;> lia
theorem x_lel2 {p n : Int32} (a : p < n) (b : 0 ≤ p) : p ≤ p + 1 ∧ p + 1 ≤ n := by
  constructor <;> lia
theorem x_w_gk {tx : Int32 → Int32} {n : Int32} {kd gp : Int32 → Int32} {tk : Int32 → Int32 → Int32} (n0 : n ≤ 1000) : ∀ (c : Nat) (i p o l : Int32) (gb ge : Int32 → Int32) (q : Int32) (b e : Int32 → Int32), x_wf kd gp c i o l → x_gk n o l gb ge p → x_w tx n kd gp tk c i p gb ge = some (q, b, e) → x_gk n (x_oc kd c i o l).1 (x_oc kd c i o l).2 b e q ∧ p ≤ q := by
  intro c
  induction c with
  | zero =>
    intro i p o l gb ge q b e wf g w
    rw [x_w] at w
    cases w
    exact ⟨g, Int32.le_refl _⟩
  | succ c ih =>
    intro i p o l gb ge q b e wf g w
    have w0 := x_wf0 wf
    obtain ⟨-, w1, w2, w3, w4⟩ := wf
    rw [x_w] at w
    rw [x_oc]
    by_cases k1 : kd i = 1
    · rw [if_pos k1] at w ⊢
      obtain ⟨gg, wf⟩ := w1 k1
      rw [gg] at w
      exact ih (i + 1) p (o + 1) l _ _ q b e wf (x_gk_1 g w0.1 w0.2.1 w0.2.2) w
    · rw [if_neg k1] at w ⊢
      by_cases k2 : kd i = 2
      · rw [if_pos k2] at w ⊢
        obtain ⟨gg, lo, wf⟩ := w2 k2
        rw [gg] at w
        exact ih (i + 1) p o o _ _ q b e wf (x_gk_2 g w0.1 lo w0.2.2 (Int32.le_trans w0.2.1 w0.2.2)) w
      · rw [if_neg k2] at w ⊢
        by_cases k3 : kd i = 3
        · rw [if_pos k3] at w
          obtain ⟨⟨g1, gl⟩, wf⟩ := w3 k3
          by_cases s : x_sq tx n (gb (gp i)) (ge (gp i)) p
          · rw [x_cif_t s] at w
            have a1 := g.2.1 (gp i) g1 (Int32.le_trans gl w0.2.1)
            have a2 := g.2.2 (gp i) g1 gl
            have z := x_sq_le n0 g.1.1 g.1.2 a1.1 a2.1 a2.2 s.1
            have r := ih (i + 1) _ o l _ _ q b e wf (x_gk_up g z.1 z.2) w
            exact ⟨r.1, Int32.le_trans z.1 r.2⟩
          · rw [x_cif_f s] at w; cases w
        · rw [if_neg k3] at w
          by_cases s : 0 ≤ p ∧ p < n ∧ tk i (tx p) = 1
          · rw [if_pos s] at w
            have z := x_lel2 s.2.1 s.1
            have r := ih (i + 1) _ o l _ _ q b e (w4 k1 k2 k3) (x_gk_up g z.1 z.2) w
            exact ⟨r.1, Int32.le_trans z.1 r.2⟩
          · rw [if_neg s] at w; cases w
theorem x_rr_s {tx : Int32 → Int32} {n : Int32} {tk : Int32 → Int32 → Int32} {s to p k : Int32} (k1 : 1 ≤ k) (r : x_rr tx n tk s to p (k - 1)) (q : s < to ∧ 0 ≤ p + (k - 1) ∧ p + (k - 1) < n ∧ tk s (tx (p + (k - 1))) = 1) : x_rr tx n tk s to p k := by
  intro j j0 jk
  by_cases w : j = k - 1
  · rw [w]; exact q
  · exact r j j0 (by lia)
theorem x_rr_g {tx : Int32 → Int32} {n : Int32} {tk : Int32 → Int32 → Int32} {s to p k b : Int32} (r : x_rr tx n tk s to p b) (k1 : 1 ≤ k) (kb : k ≤ b) : s < to ∧ 0 ≤ p + (k - 1) ∧ p + (k - 1) < n ∧ tk s (tx (p + (k - 1))) = 1 := r (k - 1) (by lia) (by lia)
theorem x_rr_0 {tx : Int32 → Int32} {n : Int32} {tk : Int32 → Int32 → Int32} {s to p k : Int32} (k1 : k ≤ 0) : x_rr tx n tk s to p k := fun _ a b => absurd (Int32.lt_of_lt_of_le (Int32.lt_of_le_of_lt a b) k1) Int32.lt_irrefl
section PTH
variable {tx : Int32 → Int32} {n : Int32} {kd gp : Int32 → Int32} {tk : Int32 → Int32 → Int32} {fr s1 s2 to : Int32} {gb0 ge0 : Int32 → Int32} {st : Int32}
theorem x_pth_1 {a b e hd : Int32} {gb ge b1 e1 : Int32 → Int32} (S1 : x_w tx n kd gp tk (x_ct fr s1) fr st gb0 ge0 = some (hd, b1, e1)) (P : x_pth tx n kd gp tk fr s1 s2 to gb0 ge0 st a b e gb ge) : x_rr tx n tk s1 to hd a ∧ ∃ p2 b2 e2, x_w tx n kd gp tk (x_ct (s1 + 1) s2) (s1 + 1) (hd + a) b1 e1 = some (p2, b2, e2) := by
  obtain ⟨p1, c1, d1, p2, c2, d2, m1, r1, m2, r2, m3⟩ := P
  rw [S1] at m1
  cases m1
  exact ⟨r1, p2, c2, d2, m2⟩
theorem x_pth_2 {a b e hd mid : Int32} {gb ge b1 e1 b2 e2 : Int32 → Int32} (S1 : x_w tx n kd gp tk (x_ct fr s1) fr st gb0 ge0 = some (hd, b1, e1)) (S2 : x_w tx n kd gp tk (x_ct (s1 + 1) s2) (s1 + 1) (hd + a) b1 e1 = some (mid, b2, e2)) (P : x_pth tx n kd gp tk fr s1 s2 to gb0 ge0 st a b e gb ge) : x_rr tx n tk s2 to mid b ∧ x_w tx n kd gp tk (x_ct (s2 + 1) to) (s2 + 1) (mid + b) b2 e2 = some (e, gb, ge) := by
  obtain ⟨p1, c1, d1, p2, c2, d2, m1, r1, m2, r2, m3⟩ := P
  rw [S1] at m1
  cases m1
  rw [S2] at m2
  cases m2
  exact ⟨r2, m3⟩
end PTH
/-- the best of the ways in V is what the object v0 keeps -/
def y_I (C : Int32 → Int32 → Int32 → (Int32 → Int32) → (Int32 → Int32) → Prop) (V : Int32 → Int32 → Prop) (st g : Int32) (v0 : Nat) (h : z_H) : Prop :=
  (vI h v0 1 = -1 ∧ ∀ a b e gb ge, 0 ≤ a → 0 ≤ b → V a b → ¬ C a b e gb ge) ∨ ∃ a b e gb ge, (0 ≤ a ∧ 0 ≤ b ∧ V a b ∧ C a b e gb ge) ∧ 0 ≤ e ∧ vI h v0 1 = e ∧ vI h v0 0 = st ∧ x_ag g gb (vA h (v0 + 1)) ∧ x_ag g ge (vA h (v0 + 2)) ∧ ∀ a' b' e' gb' ge', 0 ≤ a' → 0 ≤ b' → V a' b' → C a' b' e' gb' ge' → e' < e ∨ (e' = e ∧ (a' < a ∨ (a' = a ∧ b' ≤ b)))
theorem y_I_ext {C : Int32 → Int32 → Int32 → (Int32 → Int32) → (Int32 → Int32) → Prop} {V V' : Int32 → Int32 → Prop} {st g : Int32} {v0 : Nat} {h h' : z_H} (I : y_I C V st g v0 h) (w : ∀ a b, V a b → V' a b) (H : ∀ a b e gb ge, 0 ≤ a → 0 ≤ b → V' a b → C a b e gb ge → V a b) (c0 : vI h' v0 1 = vI h v0 1) (c1 : vI h' v0 0 = vI h v0 0) (c2 : vA h' (v0 + 1) = vA h (v0 + 1)) (c3 : vA h' (v0 + 2) = vA h (v0 + 2)) : y_I C V' st g v0 h' := by
  unfold y_I
  rw [c0, c1, c2, c3]
  rcases I with ⟨i1, i2⟩ | ⟨a, b, e, gb, ge, ⟨j1, j2, j3, j4⟩, i1, i2, i3, i4, i5, i6⟩
  · exact Or.inl ⟨i1, fun a b e gb ge a0 b0 v c => i2 a b e gb ge a0 b0 (H a b e gb ge a0 b0 v c) c⟩
  · exact Or.inr ⟨a, b, e, gb, ge, ⟨j1, j2, w a b j3, j4⟩, i1, i2, i3, i4, i5, fun a' b' e' gb' ge' a0 b0 v c => i6 a' b' e' gb' ge' a0 b0 (H a' b' e' gb' ge' a0 b0 v c) c⟩
/-- ways that were seen when the first star takes k1 and the second k2 -/
def y_V (k1 k2 : Int32) (a b : Int32) : Prop := a < k1 ∨ (a = k1 ∧ b < k2)
section FL
variable {L : q_L} {π : Nat → Nat → Option Nat} {N v0 it pt tr : Nat}
set_option maxHeartbeats 2000000 in
theorem y_kp47 (k6 : qκ L v0 = 6) (p3 : π v0 3 = some pt) (D2 : pt < v0 ∨ v0 + 4 < pt) {g : Int32} (g3 : g ≤ 3) : ∀ (m : Nat) (v3 : Int32) (h : z_H), x_U L π h → 1 ≤ v3 → vI h pt 6 = g → qi (f_Ma_keepIfLongest_47 N m v0 v3 h) (fun r => x_U L π r ∧ (∀ a, a ≠ v0 + 1 → a ≠ v0 + 2 → r a = h a) ∧ (∀ j, 0 ≤ j → j < v3 → vA r (v0 + 1) j = vA h (v0 + 1) j ∧ vA r (v0 + 2) j = vA h (v0 + 2) j) ∧ ∀ j, v3 ≤ j → j ≤ g → vA r (v0 + 1) j = vA h (v0 + 3) j ∧ vA r (v0 + 2) j = vA h (v0 + 4) j) := by
  intro m
  induction m with
  | zero => intro v3 h T b1 hg r e; rw [f_Ma_keepIfLongest_47] at e; cases e
  | succ m ih =>
    intro v3 h T b1 hg
    rw [f_Ma_keepIfLongest_47]
    refine l_gR T p3 (l_gI (e := g) hg ?_)
    refine qi_if (fun c => ?_) (fun c => ?_)
    · exact qi_some ⟨T, fun _ _ _ => rfl, fun _ _ _ => ⟨rfl, rfl⟩, fun j j1 j2 => absurd (Int32.lt_of_lt_of_le c (Int32.le_trans j1 j2)) Int32.lt_irrefl⟩
    · have cl := Int32.not_lt.mp c
      refine l_gR T (d_Ma_5 T k6) (l_gR T (d_Ma_7 T k6) (l_aI (e := vA h (v0 + 3) v3) (fun _ => rfl) (fun _ => l_uIc T ?_)))
      intro h1 T1 j1 c1 u1
      refine l_gR T1 (d_Ma_6 T1 k6) (l_gR T1 (d_Ma_8 T1 k6) (l_aI (e := vA h1 (v0 + 4) v3) (fun _ => rfl) (fun _ => l_uIc T1 ?_)))
      intro h2 T2 _ c2 u2
      refine qi_bs (qi_mono (ih (v3 + 1) h2 T2 (by lia) (by rw [x_vI_c (c2 pt (by omega)), x_vI_c (c1 pt (by omega)), hg])) ?_)
      rintro r ⟨t1, t2, t3, t4⟩
      rw [x_vA_c (c2 (v0 + 1) (by omega))] at t3
      rw [x_vA_c (c2 (v0 + 3) (by omega)), x_vA_c (c1 (v0 + 3) (by omega)), x_vA_c (c2 (v0 + 4) (by omega)), x_vA_c (c1 (v0 + 4) (by omega))] at t4
      rw [x_vA_c (c1 (v0 + 2) (by omega)), x_vA_c (c1 (v0 + 4) (by omega))] at u2
      refine ⟨t1, fun a a1 a2 => (t2 a a1 a2).trans ((c2 a a2).trans (c1 a a1)), fun j j0 jv => ?_, fun j jv jg => ?_⟩
      · obtain ⟨q1, q2⟩ := t3 j j0 (by lia)
        have ne : ¬ j = v3 := by lia
        rw [u1 j j0, if_neg ne] at q1
        rw [u2 j j0, if_neg ne] at q2
        exact ⟨q1, q2⟩
      · by_cases w : j = v3
        · subst w
          obtain ⟨q1, q2⟩ := t3 j j1 (by lia)
          rw [u1 j j1, if_pos rfl] at q1
          rw [u2 j j1, if_pos rfl] at q2
          exact ⟨q1, q2⟩
        · exact t4 j (by lia) jg
/-- what keepIfLongest leaves -/
def y_KP (h : z_H) (v0 : Nat) (n ae g st x : Int32) (r : z_H) : Prop := ((x = -1 ∨ x < vI h v0 1 ∨ (¬ ae = 0 ∧ ¬ x = n)) ∧ r = h) ∨ ((¬ x = -1 ∧ vI h v0 1 ≤ x ∧ (ae = 0 ∨ x = n)) ∧ vI r v0 0 = st ∧ vI r v0 1 = x ∧ x_ag g (vA h (v0 + 3)) (vA r (v0 + 1)) ∧ x_ag g (vA h (v0 + 4)) (vA r (v0 + 2)) ∧ vA r (v0 + 3) = vA h (v0 + 3) ∧ vA r (v0 + 4) = vA h (v0 + 4))
theorem y_kp (k6 : qκ L v0 = 6) (p3 : π v0 3 = some pt) (p4 : π v0 4 = some tr) (D2 : pt < v0 ∨ v0 + 4 < pt) {n ae g v1 v2 : Int32} (g3 : g ≤ 3) {h : z_H} (T : x_U L π h) (hg : vI h pt 6 = g) (ha : vI h pt 1 = ae) (hn : vI h tr 1 = n) : qi (f_Ma_keepIfLongest N v0 v1 v2 h) (fun r => x_U L π r ∧ (∀ a, a < v0 ∨ v0 + 4 < a → r a = h a) ∧ y_KP h v0 n ae g v1 v2 r) := by
  have K : ¬ v2 = -1 ∧ vI h v0 1 ≤ v2 ∧ (ae = 0 ∨ v2 = n) → qi (f_Ma_keepIfLongest_35 N v0 v1 v2 h) (fun r => x_U L π r ∧ (∀ a, a < v0 ∨ v0 + 4 < a → r a = h a) ∧ y_KP h v0 n ae g v1 v2 r) := by
    intro cc
    unfold f_Ma_keepIfLongest_35
    refine l_sIc T k6 (by decide) rfl ?_
    intro h1 T1 c1 u1
    refine l_sIc T1 k6 (by decide) rfl ?_
    intro h2 T2 c2 u2
    refine qi_mono (y_kp47 (N := N) k6 p3 D2 g3 N 1 h2 T2 (by decide) (by rw [x_vI_c (c2 pt (by omega)), x_vI_c (c1 pt (by omega)), hg])) ?_
    rintro r ⟨t1, t2, t3, t4⟩
    rw [x_vA_c (c2 (v0 + 3) (by omega)), x_vA_c (c1 (v0 + 3) (by omega)), x_vA_c (c2 (v0 + 4) (by omega)), x_vA_c (c1 (v0 + 4) (by omega))] at t4
    refine ⟨t1, fun a aa => (t2 a (by omega) (by omega)).trans ((c2 a (by omega)).trans (c1 a (by omega))), Or.inr ⟨cc, ?_, ?_, fun j j1 j2 => ((t4 j j1 j2).1).symm, fun j j1 j2 => ((t4 j j1 j2).2).symm, ?_, ?_⟩⟩
    · rw [x_vI_c (t2 v0 (by omega) (by omega)), u2 0, if_neg (by decide), u1 0, if_pos rfl]
    · rw [x_vI_c (t2 v0 (by omega) (by omega)), u2 1, if_pos rfl]
    · rw [x_vA_c (t2 (v0 + 3) (by omega) (by omega)), x_vA_c (c2 (v0 + 3) (by omega)), x_vA_c (c1 (v0 + 3) (by omega))]
    · rw [x_vA_c (t2 (v0 + 4) (by omega) (by omega)), x_vA_c (c2 (v0 + 4) (by omega)), x_vA_c (c1 (v0 + 4) (by omega))]
  unfold f_Ma_keepIfLongest
  refine qi_if (fun c => ?_) (fun c => ?_)
  · exact qi_some ⟨T, fun _ _ => rfl, Or.inl ⟨Or.inl c, rfl⟩⟩
  · refine l_gI (e := vI h v0 1) rfl ?_
    refine qi_if (fun c1 => ?_) (fun c1 => ?_)
    · exact qi_some ⟨T, fun _ _ => rfl, Or.inl ⟨Or.inr (Or.inl c1), rfl⟩⟩
    · refine l_gR T p3 (l_gI (e := ae) ha ?_)
      refine qi_if (fun c2 => ?_) (fun c2 => ?_)
      · exact K ⟨c, Int32.not_lt.mp c1, Or.inl c2⟩
      · refine l_gR T p4 (l_gI (e := n) hn ?_)
        refine qi_if (fun c3 => ?_) (fun c3 => ?_)
        · exact K ⟨c, Int32.not_lt.mp c1, Or.inr c3⟩
        · exact qi_some ⟨T, fun _ _ => rfl, Or.inl ⟨Or.inr (Or.inr ⟨c2, c3⟩), rfl⟩⟩
end FL
