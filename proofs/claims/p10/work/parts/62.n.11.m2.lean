/-! matching, class side: cells, walks -/
theorem x_vI_c {h h' : z_H} {b k : Nat} (e : h' b = h b) : vI h' b k = vI h b k := by simp only [vI, e]
theorem x_vA_c {h h' : z_H} {b : Nat} (e : h' b = h b) : vA h' b = vA h b := by funext j; simp only [vA, e]
theorem x_gR_c {h h' : z_H} {b c k : Nat} (e : h' b = h b) : gR h' b c k = gR h b c k := by simp only [gR, gF, e]
theorem x_aL_c {h h' : z_H} {b : Nat} {i : Int32} (e : h' b = h b) : aL h' b i = aL h b i := by simp only [aL, e]
section CR
variable {L : q_L} {π : Nat → Nat → Option Nat} {h : z_H} {a c k : Nat} {β : Type} {Q : β → Prop}
theorem l_uIc {f : z_H → Option β} {t : Nat} {i x : Int32} (T : x_U L π h) (H : ∀ h', x_U L π h' → 0 ≤ i → (∀ b, b ≠ a → h' b = h b) → (∀ j, 0 ≤ j → vA h' a j = if j = i then x else vA h a j) → qi (f h') Q) : qi (z_b (uI h a t i x) f) Q := by
  intro r z
  obtain ⟨h', e1, e2⟩ := z_bs z
  obtain ⟨n, g, f1, f2, f3⟩ := uI_s e1
  have P := l_uI (f := fun x => some x) (Q := fun h' => x_U L π h' ∧ 0 ≤ i ∧ ∀ j, 0 ≤ j → vA h' a j = if j = i then x else vA h a j) (t := t) (i := i) (x := x) T (fun h' q1 q2 q3 q4 q5 => qi_some ⟨q1, q2, fun j j0 => by
    rw [q4 a j j0]
    by_cases w : j = i
    · rw [if_pos ⟨rfl, w⟩, if_pos w]
    · rw [if_neg (fun u => w u.2), if_neg w]⟩) h' (by rw [e1]; rfl)
  exact H h' P.1 P.2.1 (fun b hb => by rw [f3]; exact if_neg hb) P.2.2 r e2
theorem l_sIc {f : z_H → Option β} {v : Int32} (T : x_U L π h) (ha : qκ L a = c + 1) (hc : c < 13) (ht : (q_tb c)[k]? = some 0) (H : ∀ h', x_U L π h' → (∀ b, b ≠ a → h' b = h b) → (∀ k', vI h' a k' = if k' = k then v else vI h a k') → qi (f h') Q) : qi (z_b (sF h a c k (.int v)) f) Q := by
  intro r z
  obtain ⟨h', e1, e2⟩ := z_bs z
  obtain ⟨fs, f1, f2, f3⟩ := sF_s e1
  have P := l_sI (f := fun x => some x) (Q := fun h' => x_U L π h' ∧ ∀ k', vI h' a k' = if k' = k then v else vI h a k') (v := v) T ha hc ht (fun h' q1 q2 q3 => qi_some ⟨q1, fun k' => by
    rw [q2 a k']
    by_cases w : k' = k
    · rw [if_pos ⟨rfl, w⟩, if_pos w]
    · rw [if_neg (fun u => w u.2), if_neg w]⟩) h' (by rw [e1]; rfl)
  exact H h' P.1 (fun b hb => by rw [f3]; exact if_neg hb) P.2 r e2
end CR
/-- what an item takes -/
def x_tk (h : z_H) (it : Nat) (i c : Int32) : Int32 := match f_It_takes 0 it i c h with
  | some r => r.1
  | none => 0
theorem x_tk_s {N it : Nat} {i c : Int32} {h : z_H} {r : Int32 × z_H} (e : f_It_takes N it i c h = some r) : r = (x_tk h it i c, h) ∧ (r.1 = 0 ∨ r.1 = 1) := by
  have e0 : f_It_takes 0 it i c h = some r := e
  have q : r.2 = h ∧ (r.1 = 0 ∨ r.1 = 1) := by
    clear e
    unfold f_It_takes f_It_takes_15 f_It_takes_44 at e0
    repeat' split at e0
    all_goals (obtain ⟨_, _, e0⟩ := z_bs e0; obtain ⟨_, _, e0⟩ := z_bs e0)
    all_goals (split at e0 <;> (cases e0; simp))
  refine ⟨?_, q.2⟩
  have z : x_tk h it i c = r.1 := by unfold x_tk; rw [e0]
  rw [z]
  exact Prod.ext rfl q.1
theorem x_tk_c {L : q_L} {π : Nat → Nat → Option Nat} {h h' : z_H} {it : Nat} (T : x_U L π h) (k : qκ L it = 5) (e0 : h' it = h it) (e3 : h' (it + 3) = h (it + 3)) (e4 : h' (it + 4) = h (it + 4)) : x_tk h' it = x_tk h it := by
  funext i c
  have A : ∀ s0, (f_It_takes_15 0 it i s0 h').map Prod.fst = (f_It_takes_15 0 it i s0 h).map Prod.fst := by
    intro s0
    unfold f_It_takes_15
    split
    · rw [x_gR_c e0]
      cases q : gR h it 4 3 with
      | none => rfl
      | some x2 =>
        have z : x2 = it + 4 := by
          obtain ⟨fs, f1, f2⟩ := gR_s q
          have w : vR h it 3 = some x2 := by simp only [vR, f1, f2]
          rw [T.2.2.2.1, d_It_3 T k] at w
          exact (Option.some.inj w).symm
        subst z
        show (z_b (aL h' (it + 4) i) _).map Prod.fst = (z_b (aL h (it + 4) i) _).map Prod.fst
        rw [x_aL_c e4]
        cases aL h (it + 4) i with
        | none => rfl
        | some x3 =>
          show (f_It_takes_44 0 _ h').map Prod.fst = (f_It_takes_44 0 _ h).map Prod.fst
          unfold f_It_takes_44
          split <;> rfl
    · rw [x_gR_c e0]
      cases q : gR h it 4 2 with
      | none => rfl
      | some x2 =>
        have z : x2 = it + 3 := by
          obtain ⟨fs, f1, f2⟩ := gR_s q
          have w : vR h it 2 = some x2 := by simp only [vR, f1, f2]
          rw [T.2.2.2.1, d_It_2 T k] at w
          exact (Option.some.inj w).symm
        subst z
        show (z_b (aL h' (it + 3) i) _).map Prod.fst = (z_b (aL h (it + 3) i) _).map Prod.fst
        rw [x_aL_c e3]
        cases aL h (it + 3) i with
        | none => rfl
        | some x3 =>
          show (f_It_takes_44 0 _ h').map Prod.fst = (f_It_takes_44 0 _ h).map Prod.fst
          unfold f_It_takes_44
          split <;> rfl
  have B : (f_It_takes 0 it i c h').map Prod.fst = (f_It_takes 0 it i c h).map Prod.fst := by
    unfold f_It_takes
    split
    · exact A 95
    · exact A (c - 32)
  unfold x_tk
  cases q1 : f_It_takes 0 it i c h' <;> cases q2 : f_It_takes 0 it i c h
  · rfl
  · rw [q1, q2] at B; cases B
  · rw [q1, q2] at B; cases B
  · rw [q1, q2] at B; exact Option.some.inj B
theorem l_takes {N it : Nat} {i c : Int32} {h : z_H} {β : Type} {f : Int32 × z_H → Option β} {Q : β → Prop} (H : x_tk h it i c = 0 ∨ x_tk h it i c = 1 → qi (f (x_tk h it i c, h)) Q) : qi (z_b (f_It_takes N it i c h) f) Q := by
  intro r z
  obtain ⟨x, e1, e2⟩ := z_bs z
  obtain ⟨q1, q2⟩ := x_tk_s e1
  subst q1
  exact H q2 r e2
theorem x_ct0 {a b : Int32} (h : b ≤ a) (a0 : 0 ≤ a) (b0 : 0 ≤ b) : x_ct a b = 0 := by
  have e := Int32.le_iff_toInt_le.mp h
  have e1 := Int32.le_iff_toInt_le.mp a0
  have e2 := Int32.le_iff_toInt_le.mp b0
  have z : (0 : Int32).toInt = 0 := rfl
  rw [z] at e1 e2
  have l1 := a.toInt_lt
  have q : (b - a).toInt = b.toInt - a.toInt := by rw [Int32.toInt_sub]; exact Int.bmod_eq_of_le_mul_two (by omega) (by omega)
  unfold x_ct
  show (b - a).toInt.toNat = 0
  omega
theorem x_ct1 {a b : Int32} (h : a < b) (a0 : 0 ≤ a) : x_ct a b = x_ct (a + 1) b + 1 := by
  have e := Int32.lt_iff_toInt_lt.mp h
  have e1 := Int32.le_iff_toInt_le.mp a0
  have z : (0 : Int32).toInt = 0 := rfl
  have o : (1 : Int32).toInt = 1 := rfl
  rw [z] at e1
  have l1 := b.toInt_lt
  have q : (b - a).toInt = b.toInt - a.toInt := by rw [Int32.toInt_sub]; exact Int.bmod_eq_of_le_mul_two (by omega) (by omega)
  have s : (a + 1).toInt = a.toInt + 1 := by rw [Int32.toInt_add, o]; exact Int.bmod_eq_of_le_mul_two (by omega) (by omega)
  have q2 : (b - (a + 1)).toInt = b.toInt - (a.toInt + 1) := by rw [Int32.toInt_sub, s]; exact Int.bmod_eq_of_le_mul_two (by omega) (by omega)
  unfold x_ct
  show (b - a).toInt.toNat = (b - (a + 1)).toInt.toNat + 1
  omega
theorem x_ii1 {a b : Int32} (h : a < b) (a0 : 0 ≤ a) : 0 ≤ a + 1 := by lia
theorem x_lel {v x : Int32} (h : v < x) (v0 : 0 ≤ v) : v ≤ v + 1 := by lia
theorem x_sp1 {v j x : Int32} (h : v < x) (v0 : 0 ≤ v) (a : v ≤ j) (q : ¬ j = v) : v + 1 ≤ j := by lia
section MAW
variable {L : q_L} {π : Nat → Nat → Option Nat} {N v0 it pt tr : Nat}
set_option maxHeartbeats 2000000 in
theorem y_sA36 (p4 : π v0 4 = some tr) (k11 : qκ L tr = 11) : ∀ (m : Nat) (v2 v3 v4 v5 : Int32) (h : z_H), x_U L π h → 0 ≤ v5 → qi (f_Ma_standsAgain_36 N m v0 v2 v3 v4 v5 h) (fun r => r.2 = h ∧ ((r.1 = 1 ∧ ∀ j, v5 ≤ j → j < v4 → vA h (tr + 1) (v3 + j) = vA h (tr + 1) (v2 + j)) ∨ (r.1 = 0 ∧ ∃ j, v5 ≤ j ∧ j < v4 ∧ ¬ vA h (tr + 1) (v3 + j) = vA h (tr + 1) (v2 + j)))) := by
  intro m
  induction m with
  | zero => intro v2 v3 v4 v5 h T b0 r e; rw [f_Ma_standsAgain_36] at e; cases e
  | succ m ih =>
    intro v2 v3 v4 v5 h T b0
    rw [f_Ma_standsAgain_36]
    refine qi_if (fun c => ?_) (fun c => ?_)
    · exact qi_some ⟨rfl, Or.inl ⟨rfl, fun j j1 j2 => absurd (Int32.lt_of_lt_of_le j2 (Int32.le_trans c j1)) Int32.lt_irrefl⟩⟩
    · have cl := Int32.not_le.mp c
      refine l_gR T p4 (l_gR T (d_Row_0 T k11) (l_aI (e := vA h (tr + 1) (v3 + v5)) (fun _ => rfl) (fun _ => l_gR T p4 (l_gR T (d_Row_0 T k11) (l_aI (e := vA h (tr + 1) (v2 + v5)) (fun _ => rfl) (fun _ => ?_))))))
      refine qi_if (fun c1 => ?_) (fun c1 => ?_)
      · refine qi_bs (qi_mono (ih v2 v3 v4 (v5 + 1) h T (x_ii1 cl b0)) ?_)
        rintro r ⟨e, q | q⟩
        · refine ⟨e, Or.inl ⟨q.1, fun j j1 j2 => ?_⟩⟩
          by_cases w : j = v5
          · subst w; exact c1
          · exact q.2 j (x_sp1 cl b0 j1 w) j2
        · obtain ⟨q1, j, j1, j2, j3⟩ := q
          exact ⟨e, Or.inr ⟨q1, j, Int32.le_trans (x_lel cl b0) j1, j2, j3⟩⟩
      · exact qi_some ⟨rfl, Or.inr ⟨rfl, v5, Int32.le_refl _, cl, c1⟩⟩
theorem y_sA (k6 : qκ L v0 = 6) (p4 : π v0 4 = some tr) (k11 : qκ L tr = 11) {v1 v2 : Int32} {h : z_H} (T : x_U L π h) : qi (f_Ma_standsAgain N v0 v1 v2 h) (fun r => r.2 = h ∧ ((r.1 = 1 ∧ x_sq (vA h (tr + 1)) (vI h tr 1) (vA h (v0 + 3) v1) (vA h (v0 + 4) v1) v2) ∨ (r.1 = 0 ∧ ¬ x_sq (vA h (tr + 1)) (vI h tr 1) (vA h (v0 + 3) v1) (vA h (v0 + 4) v1) v2))) := by
  unfold f_Ma_standsAgain
  refine l_gR T (d_Ma_7 T k6) (l_aI (e := vA h (v0 + 3) v1) (fun _ => rfl) (fun _ => l_gR T (d_Ma_8 T k6) (l_aI (e := vA h (v0 + 4) v1) (fun _ => rfl) (fun _ => qi_bs (l_gR T p4 (l_gI (e := vI h tr 1) rfl ?_))))))
  refine qi_if (fun c => ?_) (fun c => ?_)
  · refine qi_mono (y_sA36 (N := N) p4 k11 N v2 _ _ 0 h T (by decide)) ?_
    rintro r ⟨e, q | q⟩
    · exact ⟨e, Or.inl ⟨q.1, c, q.2⟩⟩
    · obtain ⟨q1, j, j1, j2, j3⟩ := q
      exact ⟨e, Or.inr ⟨q1, fun w => j3 (w.2 j j1 j2)⟩⟩
  · exact qi_some ⟨rfl, Or.inr ⟨rfl, fun w => c w.1⟩⟩
/-- what a walk answers, against what its items lead to -/
def y_R (h : z_H) (it tr v0 c : Nat) (i p o l : Int32) (r : Int32 × z_H) : Prop := (r.1 = -1 ∧ x_w (vA h (tr + 1)) (vI h tr 1) (vA h (it + 1)) (vA h (it + 2)) (x_tk h it) c i p (vA h (v0 + 3)) (vA h (v0 + 4)) = none) ∨ ∃ b e, x_w (vA h (tr + 1)) (vI h tr 1) (vA h (it + 1)) (vA h (it + 2)) (x_tk h it) c i p (vA h (v0 + 3)) (vA h (v0 + 4)) = some (r.1, b, e) ∧ x_ag (x_oc (vA h (it + 1)) c i o l).1 b (vA r.2 (v0 + 3)) ∧ x_ag (x_oc (vA h (it + 1)) c i o l).2 e (vA r.2 (v0 + 4))
theorem x_ag_t {m : Int32} {f g k : Int32 → Int32} (a : x_ag m f g) (b : x_ag m g k) : x_ag m f k := fun j j1 j2 => (a j j1 j2).trans (b j j1 j2)
theorem x_ag_of {m : Int32} {f g : Int32 → Int32} (e : ∀ j, 0 ≤ j → f j = g j) : x_ag m f g := fun j j1 _ => e j (Int32.le_trans (by decide) j1)
theorem x_ag_r {m : Int32} {f : Int32 → Int32} : x_ag m f f := fun _ _ _ => rfl
theorem x_w_tr {tx : Int32 → Int32} {n : Int32} {kd gp : Int32 → Int32} {tk : Int32 → Int32 → Int32} {c : Nat} {i p o l y : Int32} {gb ge gb' ge' B E : Int32 → Int32} (w : x_wf kd gp c i o l) (a1 : x_ag o gb gb') (a2 : x_ag l ge ge') (t : (y = -1 ∧ x_w tx n kd gp tk c i p gb' ge' = none) ∨ ∃ b e, x_w tx n kd gp tk c i p gb' ge' = some (y, b, e) ∧ x_ag (x_oc kd c i o l).1 b B ∧ x_ag (x_oc kd c i o l).2 e E) : (y = -1 ∧ x_w tx n kd gp tk c i p gb ge = none) ∨ ∃ b e, x_w tx n kd gp tk c i p gb ge = some (y, b, e) ∧ x_ag (x_oc kd c i o l).1 b B ∧ x_ag (x_oc kd c i o l).2 e E := by
  rcases x_w_ag (tx := tx) (n := n) (tk := tk) c i p o l gb ge gb' ge' w a1 a2 with ⟨m1, m2⟩ | ⟨q, b, e, b', e', m1, m2, m3, m4⟩
  · rcases t with ⟨y1, t⟩ | ⟨b9, e9, t, t1, t2⟩
    · exact Or.inl ⟨y1, m1⟩
    · rw [m2] at t; cases t
  · rcases t with ⟨y1, t⟩ | ⟨b9, e9, t, t1, t2⟩
    · rw [m2] at t; cases t
    · rw [m2] at t
      cases t
      exact Or.inr ⟨b, e, m1, x_ag_t m3 t1, x_ag_t m4 t2⟩
theorem x_ag_dn {o l g x : Int32} {f f1 k : Int32 → Int32} (u : ∀ j, 0 ≤ j → f1 j = if j = g then x else f j) (lo : l + 1 = o) (g1 : g = o) (l0 : 0 ≤ l) (l3 : l ≤ 3) (a : x_ag o f1 k) : x_ag l f k := by
  intro j j1 j2
  have w : ¬ j = g := by lia
  have q := a j j1 (by lia)
  rw [u j (by lia), if_neg w] at q
  exact q
set_option maxHeartbeats 4000000 in
theorem y_wk6 (k6 : qκ L v0 = 6) (k5 : qκ L it = 5) (k11 : qκ L tr = 11) (p2 : π v0 2 = some it) (p4 : π v0 4 = some tr) (D1 : it + 4 < v0 ∨ v0 + 4 < it) (D3 : tr + 1 < v0 ∨ v0 + 4 < tr) : ∀ (m : Nat) (v2 v4 v5 o l : Int32) (h : z_H), x_U L π h → 0 ≤ v5 → 0 ≤ v2 → x_wf (vA h (it + 1)) (vA h (it + 2)) (x_ct v5 v2) v5 o l → qi (f_Ma_walk_6 N m v0 v2 v4 v5 h) (fun r => x_U L π r.2 ∧ (∀ a, a ≠ v0 + 3 → a ≠ v0 + 4 → r.2 a = h a) ∧ y_R h it tr v0 (x_ct v5 v2) v5 v4 o l r ∧ x_ag o (vA h (v0 + 3)) (vA r.2 (v0 + 3)) ∧ x_ag l (vA h (v0 + 4)) (vA r.2 (v0 + 4))) := by
  intro m
  induction m with
  | zero => intro v2 v4 v5 o l h T b0 b2 wf r e; rw [f_Ma_walk_6] at e; cases e
  | succ m ih =>
    intro v2 v4 v5 o l h T b0 b2 wf
    rw [f_Ma_walk_6]
    refine qi_if (fun c => ?_) (fun c => ?_)
    · rw [x_ct0 c b0 b2]
      exact qi_some ⟨T, fun _ _ _ => rfl, Or.inr ⟨_, _, rfl, x_ag_r, x_ag_r⟩, x_ag_r, x_ag_r⟩
    · have cl := Int32.not_le.mp c
      have w0 := x_wf0 wf
      rw [x_ct1 cl b0] at wf ⊢
      obtain ⟨-, w1, w2, w3, w4⟩ := wf
      refine l_gR T p2 (l_gR T (d_It_1 T k5) (l_aI (e := vA h (it + 2) v5) (fun _ => rfl) (fun _ => l_gR T p2 (l_gR T (d_It_0 T k5) (l_aI (e := vA h (it + 1) v5) (fun _ => rfl) (fun _ => ?_))))))
      unfold y_R
      rw [x_w, x_oc]
      refine qi_if (fun k1 => ?_) (fun k1 => ?_)
      · obtain ⟨g1, wf1⟩ := w1 k1
        refine l_gR T (d_Ma_7 T k6) (l_uIc T ?_)
        intro h1 T1 j1 c1 u1
        have I := ih v2 v4 (v5 + 1) (o + 1) l h1 T1 (x_ii1 cl b0) b2
        unfold y_R at I
        rw [x_vA_c (c1 (it + 1) (by omega)), x_vA_c (c1 (it + 2) (by omega)), x_vA_c (c1 (tr + 1) (by omega)), x_vI_c (c1 tr (by omega)), x_tk_c T k5 (c1 it (by omega)) (c1 (it + 3) (by omega)) (c1 (it + 4) (by omega)), x_vA_c (c1 (v0 + 4) (by omega))] at I
        refine qi_bs (qi_mono (I wf1) ?_)
        rintro r ⟨t1, t2, t3, t4, t5⟩
        refine ⟨t1, fun a n3 n4 => (t2 a n3 n4).trans (c1 a n3), ?_, x_ag_dn u1 rfl g1 (Int32.le_trans w0.1 w0.2.1) w0.2.2 t4, t5⟩
        rw [if_pos k1, if_pos k1]
        exact x_w_tr wf1 (x_ag_of (fun j j0 => (u1 j j0).symm)) x_ag_r t3
      · refine qi_if (fun k2 => ?_) (fun k2 => ?_)
        · obtain ⟨g1, lo, wf1⟩ := w2 k2
          refine l_gR T (d_Ma_8 T k6) (l_uIc T ?_)
          intro h1 T1 j1 c1 u1
          have I := ih v2 v4 (v5 + 1) o o h1 T1 (x_ii1 cl b0) b2
          unfold y_R at I
          rw [x_vA_c (c1 (it + 1) (by omega)), x_vA_c (c1 (it + 2) (by omega)), x_vA_c (c1 (tr + 1) (by omega)), x_vI_c (c1 tr (by omega)), x_tk_c T k5 (c1 it (by omega)) (c1 (it + 3) (by omega)) (c1 (it + 4) (by omega)), x_vA_c (c1 (v0 + 3) (by omega))] at I
          refine qi_bs (qi_mono (I wf1) ?_)
          rintro r ⟨t1, t2, t3, t4, t5⟩
          refine ⟨t1, fun a n3 n4 => (t2 a n3 n4).trans (c1 a n4), ?_, t4, x_ag_dn u1 lo g1 w0.1 (Int32.le_trans w0.2.1 w0.2.2) t5⟩
          rw [if_neg k1, if_neg k1, if_pos k2, if_pos k2]
          exact x_w_tr wf1 x_ag_r (x_ag_of (fun j j0 => (u1 j j0).symm)) t3
        · refine qi_if (fun k3 => ?_) (fun k3 => ?_)
          · obtain ⟨g1, wf1⟩ := w3 k3
            refine l_gO (qi_b (y_sA (N := N) k6 p4 k11 T) ?_)
            rintro ⟨y, hz⟩ ⟨ez, q | q⟩
            · dsimp only at ez q ⊢
              rw [ez, q.1, if_neg (by decide)]
              refine l_gR T (d_Ma_8 T k6) (l_aI (e := vA h (v0 + 4) (vA h (it + 2) v5)) (fun _ => rfl) (fun _ => l_gR T (d_Ma_7 T k6) (l_aI (e := vA h (v0 + 3) (vA h (it + 2) v5)) (fun _ => rfl) (fun _ => qi_bs (qi_bs ?_)))))
              refine qi_mono (ih v2 _ (v5 + 1) o l h T (x_ii1 cl b0) b2 wf1) ?_
              rintro r ⟨t1, t2, t3, t4, t5⟩
              refine ⟨t1, t2, ?_, t4, t5⟩
              rw [if_neg k1, if_neg k1, if_neg k2, if_neg k2, if_pos k3, x_cif_t q.2]
              exact t3
            · dsimp only at ez q ⊢
              rw [ez, q.1, if_pos rfl]
              refine qi_some ⟨T, fun _ _ _ => rfl, Or.inl ⟨rfl, ?_⟩, x_ag_r, x_ag_r⟩
              rw [if_neg k1, if_neg k2, if_pos k3, x_cif_f q.2]
          · have wf1 := w4 k1 k2 k3
            refine l_gR T p4 (l_gI (e := vI h tr 1) rfl ?_)
            refine qi_if (fun c1 => ?_) (fun c1 => ?_)
            · refine qi_some ⟨T, fun _ _ _ => rfl, Or.inl ⟨rfl, ?_⟩, x_ag_r, x_ag_r⟩
              rw [if_neg k1, if_neg k2, if_neg k3, if_neg (fun z => absurd (Int32.lt_of_lt_of_le z.2.1 c1) Int32.lt_irrefl)]
            · refine l_gR T p2 (l_gR T p4 (l_gR T (d_Row_0 T k11) (l_aI (e := vA h (tr + 1) v4) (fun _ => rfl) (fun i0 => l_gO (l_takes (fun zz => ?_))))))
              refine qi_if (fun c2 => ?_) (fun c2 => ?_)
              · refine qi_some ⟨T, fun _ _ _ => rfl, Or.inl ⟨rfl, ?_⟩, x_ag_r, x_ag_r⟩
                rw [if_neg k1, if_neg k2, if_neg k3, if_neg (fun z => absurd (z.2.2.symm.trans c2) (by decide))]
              · refine qi_bs (qi_bs (qi_mono (ih v2 _ (v5 + 1) o l h T (x_ii1 cl b0) b2 wf1) ?_))
                rintro r ⟨t1, t2, t3, t4, t5⟩
                refine ⟨t1, t2, ?_, t4, t5⟩
                rw [if_neg k1, if_neg k1, if_neg k2, if_neg k2, if_neg k3, if_pos ⟨i0, Int32.not_le.mp c1, zz.resolve_left c2⟩]
                exact t3
theorem y_wk (k6 : qκ L v0 = 6) (k5 : qκ L it = 5) (k11 : qκ L tr = 11) (p2 : π v0 2 = some it) (p4 : π v0 4 = some tr) (D1 : it + 4 < v0 ∨ v0 + 4 < it) (D3 : tr + 1 < v0 ∨ v0 + 4 < tr) {v1 v2 v3 o l : Int32} {h : z_H} (T : x_U L π h) (b0 : 0 ≤ v1) (b2 : 0 ≤ v2) (wf : x_wf (vA h (it + 1)) (vA h (it + 2)) (x_ct v1 v2) v1 o l) : qi (f_Ma_walk N v0 v1 v2 v3 h) (fun r => x_U L π r.2 ∧ (∀ a, a ≠ v0 + 3 → a ≠ v0 + 4 → r.2 a = h a) ∧ y_R h it tr v0 (x_ct v1 v2) v1 v3 o l r ∧ x_ag o (vA h (v0 + 3)) (vA r.2 (v0 + 3)) ∧ x_ag l (vA h (v0 + 4)) (vA r.2 (v0 + 4))) := y_wk6 (N := N) k6 k5 k11 p2 p4 D1 D3 N v2 v3 v1 o l h T b0 b2 wf
/-- whether a star takes the character at a place -/
theorem y_rep (k6 : qκ L v0 = 6) (k5 : qκ L it = 5) (k11 : qκ L tr = 11) (p2 : π v0 2 = some it) (p3 : π v0 3 = some pt) (p4 : π v0 4 = some tr) {v1 v2 : Int32} {h : z_H} (T : x_U L π h) : qi (f_Ma_repeats N v0 v1 v2 h) (fun r => r.2 = h ∧ ((r.1 = 1 ∧ v1 < vI h pt 3 ∧ 0 ≤ v2 ∧ x_tk h it v1 (vA h (tr + 1) v2) = 1) ∨ (r.1 = 0 ∧ ¬ (v1 < vI h pt 3 ∧ 0 ≤ v2 ∧ x_tk h it v1 (vA h (tr + 1) v2) = 1)))) := by
  unfold f_Ma_repeats
  refine l_gR T p3 (l_gI (e := vI h pt 3) rfl ?_)
  refine qi_if (fun c => ?_) (fun c => ?_)
  · exact qi_some ⟨rfl, Or.inr ⟨rfl, fun z => absurd (Int32.lt_of_lt_of_le z.1 c) Int32.lt_irrefl⟩⟩
  · refine l_gR T p2 (l_gR T p4 (l_gR T (d_Row_0 T k11) (l_aI (e := vA h (tr + 1) v2) (fun _ => rfl) (fun i0 => l_gO (l_takes (fun zz => ?_))))))
    refine qi_if (fun c2 => ?_) (fun c2 => ?_)
    · exact qi_some ⟨rfl, Or.inr ⟨rfl, fun z => absurd (z.2.2.symm.trans c2) (by decide)⟩⟩
    · exact qi_some ⟨rfl, Or.inl ⟨rfl, Int32.not_le.mp c, i0, zz.resolve_left c2⟩⟩
end MAW
