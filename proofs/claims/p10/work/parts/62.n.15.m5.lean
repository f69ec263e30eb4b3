/-! matching, class side: a place, the search -/
def x_mi : Int32 → Int32 := fun _ => -1
def x_mis (tx : Int32 → Int32) (n : Int32) (kd gp : Int32 → Int32) (tk : Int32 → Int32 → Int32) (fr s1 s2 to ae st : Int32) : Prop := ∀ a b e gb ge, 0 ≤ a → 0 ≤ b → ¬ y_C tx n kd gp tk fr s1 s2 to ae x_mi x_mi st a b e gb ge
def x_hit (tx : Int32 → Int32) (n : Int32) (kd gp : Int32 → Int32) (tk : Int32 → Int32 → Int32) (fr s1 s2 to ae st a b e : Int32) (gb ge : Int32 → Int32) : Prop := (0 ≤ a ∧ 0 ≤ b ∧ y_C tx n kd gp tk fr s1 s2 to ae x_mi x_mi st a b e gb ge) ∧ ∀ a' b' e' gb' ge', 0 ≤ a' → 0 ≤ b' → y_C tx n kd gp tk fr s1 s2 to ae x_mi x_mi st a' b' e' gb' ge' → e' < e ∨ (e' = e ∧ (a' < a ∨ (a' = a ∧ b' ≤ b)))
/-- a search from fm on finds nothing -/
def x_fno (tx : Int32 → Int32) (n : Int32) (kd gp : Int32 → Int32) (tk : Int32 → Int32 → Int32) (fr s1 s2 to ae ab fm : Int32) : Prop := ∀ s, fm ≤ s → s ≤ n → (ab = 0 ∨ s ≤ 0) → x_mis tx n kd gp tk fr s1 s2 to ae s
/-- .. finds this -/
def x_fye (tx : Int32 → Int32) (n : Int32) (kd gp : Int32 → Int32) (tk : Int32 → Int32 → Int32) (fr s1 s2 to ae ab fm s a b e : Int32) (gb ge : Int32 → Int32) : Prop := (fm ≤ s ∧ s ≤ n ∧ (ab = 0 ∨ s ≤ 0)) ∧ (∀ s', fm ≤ s' → s' < s → x_mis tx n kd gp tk fr s1 s2 to ae s') ∧ x_hit tx n kd gp tk fr s1 s2 to ae s a b e gb ge
/-- what findLongest answers -/
def y_FR (tx : Int32 → Int32) (n : Int32) (kd gp : Int32 → Int32) (tk : Int32 → Int32 → Int32) (fr s1 s2 to g ae st : Int32) (v0 : Nat) (r : Int32 × z_H) : Prop := (r.1 = 0 ∧ x_mis tx n kd gp tk fr s1 s2 to ae st) ∨ (r.1 = 1 ∧ ∃ a b e gb ge, x_hit tx n kd gp tk fr s1 s2 to ae st a b e gb ge ∧ 0 ≤ e ∧ vI r.2 v0 1 = e ∧ vI r.2 v0 0 = st ∧ x_ag g gb (vA r.2 (v0 + 1)) ∧ x_ag g ge (vA r.2 (v0 + 2)))
section FF
variable {L : q_L} {π : Nat → Nat → Option Nat} {N v0 it pt tr : Nat} {h0 : z_H} {tx : Int32 → Int32} {n : Int32} {kd gp : Int32 → Int32} {tk : Int32 → Int32 → Int32} {fr s1 s2 to g ae : Int32} {gb0 ge0 : Int32 → Int32} {st : Int32}
theorem x_C_tr {gb0' ge0' gb ge : Int32 → Int32} {a b e : Int32} (W : x_pw kd gp fr s1 s2 to g) (c : y_C tx n kd gp tk fr s1 s2 to ae gb0 ge0 st a b e gb ge) : ∃ gb' ge', y_C tx n kd gp tk fr s1 s2 to ae gb0' ge0' st a b e gb' ge' ∧ x_ag g gb gb' ∧ x_ag g ge ge' := by
  obtain ⟨gb', ge', p, q1, q2⟩ := x_pth_ag (gb0' := gb0') (ge0' := ge0') W c.1
  exact ⟨gb', ge', ⟨p, c.2⟩, q1, q2⟩
theorem x_ag_s {m : Int32} {f g : Int32 → Int32} (a : x_ag m f g) : x_ag m g f := fun j j1 j2 => (a j j1 j2).symm
theorem y_I_fin {h : z_H} (W : x_pw kd gp fr s1 s2 to g) (I : y_I (y_C tx n kd gp tk fr s1 s2 to ae gb0 ge0 st) (fun _ _ => True) st g v0 h) : (vI h v0 1 = -1 → x_mis tx n kd gp tk fr s1 s2 to ae st) ∧ (¬ vI h v0 1 = -1 → ∃ a b e gb ge, x_hit tx n kd gp tk fr s1 s2 to ae st a b e gb ge ∧ 0 ≤ e ∧ vI h v0 1 = e ∧ vI h v0 0 = st ∧ x_ag g gb (vA h (v0 + 1)) ∧ x_ag g ge (vA h (v0 + 2))) := by
  rcases I with ⟨i1, i2⟩ | ⟨a, b, e, gb, ge, ⟨j1, j2, j3, j4⟩, i1, i2, i3, i4, i5, i6⟩
  · refine ⟨fun _ a b e gb ge a0 b0 c => ?_, fun z => absurd i1 z⟩
    obtain ⟨gb', ge', c', _⟩ := x_C_tr (gb0' := gb0) (ge0' := ge0) W c
    exact i2 a b e gb' ge' a0 b0 trivial c'
  · refine ⟨fun z => ?_, fun _ => ?_⟩
    · rw [i2] at z
      rw [z] at i1
      exact absurd i1 (by decide)
    · obtain ⟨gb', ge', c', x1, x2⟩ := x_C_tr (gb0' := x_mi) (ge0' := x_mi) W j4
      refine ⟨a, b, e, gb', ge', ⟨⟨j1, j2, c'⟩, ?_⟩, i1, i2, i3, x_ag_t (x_ag_s x1) i4, x_ag_t (x_ag_s x2) i5⟩
      intro a' b' e' gb1 ge1 a0 b0 c
      obtain ⟨gb2, ge2, c2, _⟩ := x_C_tr (gb0' := gb0) (ge0' := ge0) W c
      exact i6 a' b' e' gb2 ge2 a0 b0 trivial c2
set_option maxHeartbeats 4000000 in
theorem y_fl (k6 : qκ L v0 = 6) (k5 : qκ L it = 5) (k11 : qκ L tr = 11) (p2 : π v0 2 = some it) (p3 : π v0 3 = some pt) (p4 : π v0 4 = some tr) (D1 : it + 4 < v0 ∨ v0 + 4 < it) (D2 : pt < v0 ∨ v0 + 4 < pt) (D3 : tr + 1 < v0 ∨ v0 + 4 < tr) (n0 : 0 ≤ n ∧ n ≤ 1000) (g3 : g ≤ 3) (bf : 0 ≤ fr) (bs1 : 0 ≤ s1 ∧ s1 ≤ 1000) (bs2 : 0 ≤ s2 ∧ s2 ≤ 1000) (bt : 0 ≤ to) (W : x_pw kd gp fr s1 s2 to g) {h : z_H} (G : y_G L π it pt tr v0 h0 tx n kd gp tk fr s1 s2 to g ae h) (st0 : 0 ≤ st) (stn : st ≤ n) : qi (f_Ma_findLongest N v0 st h) (fun r => y_G L π it pt tr v0 h0 tx n kd gp tk fr s1 s2 to g ae r.2 ∧ y_FR tx n kd gp tk fr s1 s2 to g ae st v0 r) := by
  have W' := W
  obtain ⟨o1, l1, o2, l2, w1, z1, w2, z2, w3, z3⟩ := W'
  have T := G.1
  have FIN : ∀ (gb0 ge0 : Int32 → Int32) (r : Int32 × z_H), y_G L π it pt tr v0 h0 tx n kd gp tk fr s1 s2 to g ae r.2 ∧ y_I (y_C tx n kd gp tk fr s1 s2 to ae gb0 ge0 st) (fun _ _ => True) st g v0 r.2 ∧ ((r.1 = 0 ∧ vI r.2 v0 1 = -1) ∨ (r.1 = 1 ∧ ¬ vI r.2 v0 1 = -1)) → y_G L π it pt tr v0 h0 tx n kd gp tk fr s1 s2 to g ae r.2 ∧ y_FR tx n kd gp tk fr s1 s2 to g ae st v0 r := by
    rintro gb0 ge0 r ⟨G1, I1, q⟩
    have F := y_I_fin W I1
    rcases q with ⟨q1, q2⟩ | ⟨q1, q2⟩
    · exact ⟨G1, Or.inl ⟨q1, F.1 q2⟩⟩
    · exact ⟨G1, Or.inr ⟨q1, F.2 q2⟩⟩
  unfold f_Ma_findLongest
  refine l_sIc T k6 (by decide) rfl ?_
  intro h1 T1 c1 u1
  have G1 := y_G_f k5 D1 D2 D3 G T1 (fun a aa => c1 a (by omega))
  have G1' := G1
  obtain ⟨_, f0, ⟨q1, q2, q3, q4, q5⟩, r1, r2, r3, r4, r5, r6⟩ := G1'
  have WK := y_wk (N := N) (v3 := st) k6 k5 k11 p2 p4 D1 D3 (v1 := fr) (v2 := s1) (o := 0) (l := 0) T1 bf bs1.1 (by rw [q3, q4]; exact w1)
  unfold y_R at WK
  rw [q1, q2, q3, q4, q5, z1] at WK
  refine l_gR T1 p3 (l_gI (e := fr) r2 (l_gR T1 p3 (l_gI (e := s1) r4 (l_gO (qi_b WK ?_)))))
  rintro ⟨y, h2⟩ ⟨T2, f2, R, a3, a4⟩
  dsimp only at T2 f2 R a3 a4 ⊢
  have G2 := y_G_f k5 D1 D2 D3 G1 T2 (fun a aa => f2 a (by omega) (by omega))
  have em : vI h2 v0 1 = -1 := by rw [x_vI_c (f2 v0 (by omega) (by omega)), u1 1, if_pos rfl]
  refine qi_bs (qi_mono ?_ (FIN (vA h1 (v0 + 3)) (vA h1 (v0 + 4))))
  rcases R with ⟨z, w⟩ | ⟨b1, e1, w, x1, x2⟩
  · rw [z]
    cases N with
    | zero => intro r e; rw [f_Ma_findLongest_27] at e; cases e
    | succ N =>
      rw [f_Ma_findLongest_27]
      refine qi_if (fun c => ?_) (fun c => absurd (by decide : (-1 : Int32) < 0) c)
      refine qi_mono (y_178 k6 k5 k11 p2 p3 p4 D1 D2 D3) ?_
      rintro r ⟨e, q⟩
      rw [e]
      refine ⟨G2, Or.inl ⟨em, fun a b e gb ge a0 b0 _ cc => ?_⟩, q⟩
      obtain ⟨p1, c1, d1, p2, c2, d2, m1, _⟩ := cc.1
      rw [w] at m1
      cases m1
  · have gk := (x_w_gk n0.2 _ _ _ _ _ _ _ _ _ _ w1 (⟨⟨st0, stn⟩, fun j a b => absurd (Int32.le_trans a b) (by decide), fun j a b => absurd (Int32.le_trans a b) (by decide)⟩ : x_gk n 0 0 (vA h1 (v0 + 3)) (vA h1 (v0 + 4)) st) w).1
    rw [z1] at gk
    have n0a := n0.1
    have n0b := n0.2
    have ya := gk.1.2
    have s1a := bs1.1
    have s1b := bs1.2
    have s2a := bs2.1
    have s2b := bs2.2
    exact y_27 (N := N) k6 k5 k11 p2 p3 p4 D1 D2 D3 n0.2 g3 (by lia) (by lia) bs2.1 bt w2 z2 w3 z3 w gk N y 0 h2 (Int32.add_zero y).symm (by decide) (by lia) (by lia) (x_rr_0 (by decide)) G2 x1 x2 (Or.inl ⟨em, fun a b e gb ge a0 b0 v => by
      rcases v with v | v
      · exact absurd (Int32.lt_of_le_of_lt a0 v) Int32.lt_irrefl
      · exact absurd (Int32.lt_of_le_of_lt b0 v.2) Int32.lt_irrefl⟩)
set_option maxHeartbeats 4000000 in
theorem y_f42 (k6 : qκ L v0 = 6) (k5 : qκ L it = 5) (k11 : qκ L tr = 11) (p2 : π v0 2 = some it) (p3 : π v0 3 = some pt) (p4 : π v0 4 = some tr) (D1 : it + 4 < v0 ∨ v0 + 4 < it) (D2 : pt < v0 ∨ v0 + 4 < pt) (D3 : tr + 1 < v0 ∨ v0 + 4 < tr) (n0 : 0 ≤ n ∧ n ≤ 1000) (g3 : g ≤ 3) (bf : 0 ≤ fr) (bs1 : 0 ≤ s1 ∧ s1 ≤ 1000) (bs2 : 0 ≤ s2 ∧ s2 ≤ 1000) (bt : 0 ≤ to) (W : x_pw kd gp fr s1 s2 to g) {v5 : Int32} (vn : v5 ≤ n) : ∀ (m : Nat) (v6 : Int32) (h : z_H), y_G L π it pt tr v0 h0 tx n kd gp tk fr s1 s2 to g ae h → 0 ≤ v6 → qi (f_Ma_find_42 N m v0 v5 v6 h) (fun r => y_G L π it pt tr v0 h0 tx n kd gp tk fr s1 s2 to g ae r.2 ∧ ((r.1 = 0 ∧ ∀ s, v6 ≤ s → s ≤ v5 → x_mis tx n kd gp tk fr s1 s2 to ae s) ∨ (r.1 = 1 ∧ ∃ s, v6 ≤ s ∧ s ≤ v5 ∧ (∀ s', v6 ≤ s' → s' < s → x_mis tx n kd gp tk fr s1 s2 to ae s') ∧ ∃ a b e gb ge, x_hit tx n kd gp tk fr s1 s2 to ae s a b e gb ge ∧ 0 ≤ e ∧ vI r.2 v0 1 = e ∧ vI r.2 v0 0 = s ∧ x_ag g gb (vA r.2 (v0 + 1)) ∧ x_ag g ge (vA r.2 (v0 + 2))))) := by
  have n0a := n0.1
  have n0b := n0.2
  intro m
  induction m with
  | zero => intro v6 h G b6 r e; rw [f_Ma_find_42] at e; cases e
  | succ m ih =>
    intro v6 h G b6
    rw [f_Ma_find_42]
    refine qi_if (fun c => ?_) (fun c => ?_)
    · exact qi_some ⟨G, Or.inl ⟨rfl, fun s s1 s2 => absurd (Int32.lt_of_lt_of_le c (Int32.le_trans s1 s2)) Int32.lt_irrefl⟩⟩
    · have cl := Int32.not_lt.mp c
      refine l_gO (qi_b (y_fl (N := N) k6 k5 k11 p2 p3 p4 D1 D2 D3 n0 g3 bf bs1 bs2 bt W G b6 (Int32.le_trans cl vn)) ?_)
      rintro ⟨y, h1⟩ ⟨G1, q | q⟩
      · dsimp only at G1 q ⊢
        rw [q.1, if_pos rfl]
        refine qi_bs (qi_mono (ih (v6 + 1) h1 G1 (by lia)) ?_)
        have E : ∀ s, v6 ≤ s → (v6 + 1 ≤ s → x_mis tx n kd gp tk fr s1 s2 to ae s) → x_mis tx n kd gp tk fr s1 s2 to ae s := by
          intro s a b
          by_cases w : s = v6
          · rw [w]; exact q.2
          · exact b (by lia)
        rintro r ⟨G2, t | t⟩
        · exact ⟨G2, Or.inl ⟨t.1, fun s a b => E s a (fun z => t.2 s z b)⟩⟩
        · obtain ⟨t1, s, t2, t3, t4, t5⟩ := t
          exact ⟨G2, Or.inr ⟨t1, s, by lia, t3, fun s' a b => E s' a (fun z => t4 s' z b), t5⟩⟩
      · dsimp only at G1 q ⊢
        rw [q.1, if_neg (by decide)]
        exact qi_some ⟨G1, Or.inr ⟨rfl, v6, Int32.le_refl _, cl, fun s' a b => absurd (Int32.lt_of_le_of_lt a b) Int32.lt_irrefl, q.2⟩⟩
end FF
/-- what find answers -/
def y_FN (tx : Int32 → Int32) (n : Int32) (kd gp : Int32 → Int32) (tk : Int32 → Int32 → Int32) (fr s1 s2 to g ae ab fm : Int32) (v0 : Nat) (r : Int32 × z_H) : Prop := (r.1 = 0 ∧ x_fno tx n kd gp tk fr s1 s2 to ae ab fm) ∨ (r.1 = 1 ∧ ∃ s a b e gb ge, x_fye tx n kd gp tk fr s1 s2 to ae ab fm s a b e gb ge ∧ 0 ≤ e ∧ vI r.2 v0 1 = e ∧ vI r.2 v0 0 = s ∧ x_ag g gb (vA r.2 (v0 + 1)) ∧ x_ag g ge (vA r.2 (v0 + 2)))
/-- a pattern's numbers in the heap -/
def y_PT (h : z_H) (pt : Nat) (fr s1 s2 to g ae ab : Int32) : Prop := vI h pt 0 = ab ∧ vI h pt 1 = ae ∧ vI h pt 2 = fr ∧ vI h pt 3 = to ∧ vI h pt 4 = s1 ∧ vI h pt 5 = s2 ∧ vI h pt 6 = g
set_option maxHeartbeats 4000000 in
theorem y_fi {L : q_L} {π : Nat → Nat → Option Nat} {N v0 it pt tr : Nat} {h : z_H} {fr s1 s2 to g ae ab fm : Int32} (T : x_U L π h) (k6 : qκ L v0 = 6) (k5 : qκ L it = 5) (k11 : qκ L tr = 11) (D1 : it + 4 < v0 ∨ v0 + 4 < it) (D2 : pt < v0 ∨ v0 + 4 < pt) (D3 : tr + 1 < v0 ∨ v0 + 4 < tr) (n0 : 0 ≤ vI h tr 1 ∧ vI h tr 1 ≤ 1000) (g3 : g ≤ 3) (bf : 0 ≤ fr) (bs1 : 0 ≤ s1 ∧ s1 ≤ 1000) (bs2 : 0 ≤ s2 ∧ s2 ≤ 1000) (bt : 0 ≤ to) (PT : y_PT h pt fr s1 s2 to g ae ab) (W : x_pw (vA h (it + 1)) (vA h (it + 2)) fr s1 s2 to g) (f0 : 0 ≤ fm) : qi (f_Ma_find N v0 it pt tr fm h) (fun r => ∃ π', x_U L π' r.2 ∧ (∀ a k, ¬ (a = v0 ∧ (k = 2 ∨ k = 3 ∨ k = 4)) → π' a k = π a k) ∧ (∀ a, a < v0 ∨ v0 + 4 < a → r.2 a = h a) ∧ y_FN (vA h (tr + 1)) (vI h tr 1) (vA h (it + 1)) (vA h (it + 2)) (x_tk h it) fr s1 s2 to g ae ab fm v0 r) := by
  unfold f_Ma_find
  refine l_Ma_2 T k6 ?_
  intro π1 h1 T1 e1 c1 i1
  refine l_Ma_3 T1 k6 ?_
  intro π2 h2 T2 e2 c2 i2
  refine l_Ma_4 T2 k6 ?_
  intro π3 h3 T3 e3 c3 i3
  have p2 : π3 v0 2 = some it := by rw [e3, if_neg (by omega), e2, if_neg (by omega), e1, if_pos ⟨rfl, rfl⟩]
  have p3 : π3 v0 3 = some pt := by rw [e3, if_neg (by omega), e2, if_pos ⟨rfl, rfl⟩]
  have p4 : π3 v0 4 = some tr := by rw [e3, if_pos ⟨rfl, rfl⟩]
  have ep : ∀ a k, ¬ (a = v0 ∧ (k = 2 ∨ k = 3 ∨ k = 4)) → π3 a k = π a k := by
    intro a k z
    rw [e3, if_neg (by omega), e2, if_neg (by omega), e1, if_neg (by omega)]
  have fr3 : ∀ a, a < v0 ∨ v0 + 4 < a → h3 a = h a := fun a aa => (c3 a (by omega)).trans ((c2 a (by omega)).trans (c1 a (by omega)))
  obtain ⟨b0, b1, b2, b3, b4, b5, b6⟩ := PT
  have P : ∀ k, vI h3 pt k = vI h pt k := fun k => x_vI_c (fr3 pt (by omega))
  have G : y_G L π3 it pt tr v0 h (vA h (tr + 1)) (vI h tr 1) (vA h (it + 1)) (vA h (it + 2)) (x_tk h it) fr s1 s2 to g ae h3 := by
    refine ⟨T3, fr3, ⟨x_vA_c (fr3 (tr + 1) (by omega)), x_vI_c (fr3 tr (by omega)), x_vA_c (fr3 (it + 1) (by omega)), x_vA_c (fr3 (it + 2) (by omega)), x_tk_c T k5 (fr3 it (by omega)) (fr3 (it + 3) (by omega)) (fr3 (it + 4) (by omega))⟩, ?_, ?_, ?_, ?_, ?_, ?_⟩ <;> (rw [P]; assumption)
  have GN := G.2.2.1.2.1
  refine l_gR T3 p3 (l_gI (e := ab) (by rw [P, b0]) ?_)
  refine qi_if (fun c => ?_) (fun c => ?_)
  · refine l_gR T3 p4 (l_gI (e := vI h tr 1) GN ?_)
    refine qi_mono (y_f42 (N := N) k6 k5 k11 p2 p3 p4 D1 D2 D3 n0 g3 bf bs1 bs2 bt W (Int32.le_refl _) N fm h3 G f0) ?_
    rintro r ⟨G1, q | q⟩
    · exact ⟨π3, G1.1, ep, G1.2.1, Or.inl ⟨q.1, fun s a b _ => q.2 s a b⟩⟩
    · obtain ⟨q1, s, q2, q3, q4, a, b, e, gb, ge, q5, q6⟩ := q
      exact ⟨π3, G1.1, ep, G1.2.1, Or.inr ⟨q1, s, a, b, e, gb, ge, ⟨⟨q2, q3, Or.inl c⟩, q4, q5⟩, q6⟩⟩
  · refine qi_mono (y_f42 (N := N) k6 k5 k11 p2 p3 p4 D1 D2 D3 n0 g3 bf bs1 bs2 bt W (v5 := 0) n0.1 N fm h3 G f0) ?_
    rintro r ⟨G1, q | q⟩
    · exact ⟨π3, G1.1, ep, G1.2.1, Or.inl ⟨q.1, fun s a b z => q.2 s a (z.resolve_left c)⟩⟩
    · obtain ⟨q1, s, q2, q3, q4, a, b, e, gb, ge, q5, q6⟩ := q
      exact ⟨π3, G1.1, ep, G1.2.1, Or.inr ⟨q1, s, a, b, e, gb, ge, ⟨⟨q2, Int32.le_trans q3 n0.1, Or.inr q3⟩, q4, q5⟩, q6⟩⟩
