/-! texts as lists -/
def x_sl (f : Int32 → Int32) (a b : Int32) : List Int32 := (List.range (x_ct a b)).map (fun j => f (a + Int32.ofNat j))
theorem x_sl_0 {f : Int32 → Int32} {a b : Int32} (h : b ≤ a) (a0 : 0 ≤ a) (b0 : 0 ≤ b) : x_sl f a b = [] := by
  unfold x_sl; rw [x_ct0 h a0 b0]; rfl
theorem x_sl_1 {f : Int32 → Int32} {a b : Int32} (h : a < b) (a0 : 0 ≤ a) : x_sl f a b = f a :: x_sl f (a + 1) b := by
  unfold x_sl
  rw [x_ct1 h a0, List.range_succ_eq_map, List.map_cons, List.map_map]
  refine congr (congrArg List.cons ?_) ?_
  · rw [show a + Int32.ofNat 0 = a from Int32.add_zero a]
  · refine List.map_congr_left (fun j _ => ?_)
    show f (a + Int32.ofNat (j + 1)) = f (a + 1 + Int32.ofNat j)
    rw [x_io1]
theorem x_sl_p {f : Int32 → Int32} {a b c : Int32} (h1 : a ≤ b) (h2 : b ≤ c) (a0 : 0 ≤ a) : x_sl f a c = x_sl f a b ++ x_sl f b c := by
  unfold x_sl
  rw [x_ct_p h1 h2 a0, List.range_add, List.map_append, List.map_map]
  refine congrArg (List.append _) ?_
  refine List.map_congr_left (fun j _ => ?_)
  show f (a + Int32.ofNat (x_ct a b + j)) = f (b + Int32.ofNat j)
  rw [Int32.ofNat_add, ← Int32.add_assoc, x_ct_e h1 a0]
theorem x_sl_q {f : Int32 → Int32} {a b : Int32} (h1 : a ≤ b) (a0 : 0 ≤ a) (b1 : b < 2000000) : x_sl f a (b + 1) = x_sl f a b ++ [f b] := by
  have b0 : 0 ≤ b := Int32.le_trans a0 h1
  have l : b < b + 1 := by lia
  rw [x_sl_p h1 (Int32.le_of_lt l) a0, x_sl_1 l b0, x_sl_0 (Int32.le_refl _) (by lia) (by lia)]
theorem x_sl_e {f g : Int32 → Int32} {a b : Int32} (a0 : 0 ≤ a) (b0 : 0 ≤ b) (h : ∀ j, a ≤ j → j < b → f j = g j) : x_sl f a b = x_sl g a b := by
  by_cases w : a ≤ b
  · unfold x_sl
    refine List.map_congr_left (fun j hj => ?_)
    have q := x_ct_i w a0 (List.mem_range.mp hj)
    exact h _ q.1 q.2
  · have w' := Int32.le_of_lt (Int32.not_le.mp w)
    rw [x_sl_0 w' a0 b0, x_sl_0 w' a0 b0]
theorem x_sl_s {f g : Int32 → Int32} {a b d : Int32} (a0 : 0 ≤ a) (ab : a ≤ b) (d0 : 0 ≤ d) (bd : b ≤ 1000000) (dd : d ≤ 1000000) (h : ∀ j, a ≤ j → j < b → f j = g (j + d)) : x_sl f a b = x_sl g (a + d) (b + d) := by
  have e : x_ct (a + d) (b + d) = x_ct a b := by
    unfold x_ct
    rw [show b + d - (a + d) = b - a from by grind]
  unfold x_sl
  rw [e]
  refine List.map_congr_left (fun j hj => ?_)
  have q := x_ct_i ab a0 (List.mem_range.mp hj)
  rw [h _ q.1 q.2]
  congr 1
  grind
theorem x_sl_len {f : Int32 → Int32} {a b : Int32} : (x_sl f a b).length = x_ct a b := by
  unfold x_sl; rw [List.length_map, List.length_range]
/-- equal texts have equal lengths and characters -/
theorem x_sl_i {f g : Int32 → Int32} {n m : Int32} (n0 : 0 ≤ n) (m0 : 0 ≤ m) (e : x_sl f 0 n = x_sl g 0 m) : n = m ∧ ∀ j, 0 ≤ j → j < n → f j = g j := by
  have l : x_ct 0 n = x_ct 0 m := by
    have z := congrArg List.length e
    rwa [x_sl_len, x_sl_len] at z
  have nm : n = m := by
    have q1 := x_ct_e n0 (Int32.le_refl 0)
    have q2 := x_ct_e m0 (Int32.le_refl 0)
    rw [← q1, ← q2, l]
  refine ⟨nm, fun j j0 jn => ?_⟩
  subst nm
  have s1 := x_sl_p (f := f) j0 (Int32.le_of_lt jn) (Int32.le_refl 0)
  have s2 := x_sl_p (f := g) j0 (Int32.le_of_lt jn) (Int32.le_refl 0)
  rw [s1, s2] at e
  have t := List.append_inj e (by rw [x_sl_len, x_sl_len])
  have u := t.2
  rw [x_sl_1 jn j0, x_sl_1 jn j0] at u
  exact (List.cons.inj u).1
/-- characters of texts -/
def x_kc (c : Int32) : Prop := c = 10 ∨ (32 ≤ c ∧ c ≤ 126)
def x_kt (l : List Int32) : Prop := ∀ c ∈ l, x_kc c
theorem x_kc_r {c : Int32} (h : x_kc c) : 0 ≤ c ∧ c ≤ 255 := by
  rcases h with h | h
  · rw [h]; decide
  · exact ⟨by lia, by lia⟩
theorem x_kt_a {l m : List Int32} (h : x_kt l) (k : x_kt m) : x_kt (l ++ m) := fun c hc => (List.mem_append.mp hc).elim (h c) (k c)
theorem x_kt_1 {c : Int32} (h : x_kc c) : x_kt [c] := fun d hd => by rw [List.mem_singleton.mp hd]; exact h
theorem x_kt_0 : x_kt [] := fun _ h => absurd h (List.not_mem_nil)
theorem x_kt_f {f : Int32 → Int32} {a b : Int32} (a0 : 0 ≤ a) (ab : a ≤ b) (h : ∀ j, a ≤ j → j < b → x_kc (f j)) : x_kt (x_sl f a b) := by
  intro c hc
  unfold x_sl at hc
  obtain ⟨j, hj, e⟩ := List.mem_map.mp hc
  have q := x_ct_i ab a0 (List.mem_range.mp hj)
  rw [← e]
  exact h _ q.1 q.2
theorem x_kt_g {f : Int32 → Int32} {a b : Int32} (a0 : 0 ≤ a) (ab : a ≤ b) (h : x_kt (x_sl f a b)) : ∀ j, a ≤ j → j < b → x_kc (f j) := by
  intro j j0 jn
  refine h _ ?_
  rw [x_sl_p j0 (Int32.le_of_lt jn) a0, x_sl_1 jn (Int32.le_trans a0 j0)]
  exact List.mem_append.mpr (Or.inr (List.mem_cons_self))
/-- what a row holds -/
def x_rw (h : z_H) (r : Nat) : List Int32 := x_sl (vA h (r + 1)) 0 (vI h r 1)
theorem x_rw_c {h h' : z_H} {r : Nat} (e : h' r = h r) (e1 : h' (r + 1) = h (r + 1)) : x_rw h' r = x_rw h r := by unfold x_rw; rw [x_vI_c e, x_vA_c e1]
section ROW
variable {L : q_L} {π : Nat → Nat → Option Nat} {N r o : Nat} {h : z_H}
theorem y_hr {v : Int32} (T : x_U L π h) (k : qκ L r = 11) : qi (f_Row_hasRoom N r v h) (fun y => y.2 = h ∧ ((y.1 = 1 ∧ v ≤ qhi L r 1 - vI h r 1) ∨ (y.1 = 0 ∧ qhi L r 1 - vI h r 1 < v))) := by
  unfold f_Row_hasRoom
  refine l_gR T (d_Row_0 T k) (l_aNr T k (l_gI (e := vI h r 1) rfl ?_))
  exact qi_if (fun c => qi_some ⟨rfl, Or.inr ⟨rfl, c⟩⟩) (fun c => qi_some ⟨rfl, Or.inl ⟨rfl, Int32.not_lt.mp c⟩⟩)
theorem y_at {v : Int32} (T : x_U L π h) (k : qκ L r = 11) : qi (f_Row_at N r v h) (fun y => y.2 = h ∧ ((0 ≤ v ∧ v < vI h r 1 ∧ y.1 = vA h (r + 1) v) ∨ (¬ (0 ≤ v ∧ v < vI h r 1) ∧ y.1 = -1))) := by
  unfold f_Row_at
  refine qi_if (fun c => qi_some ⟨rfl, Or.inr ⟨fun z => absurd (Int32.lt_of_lt_of_le c z.1) Int32.lt_irrefl, rfl⟩⟩) (fun c => ?_)
  refine l_gI (e := vI h r 1) rfl ?_
  refine qi_if (fun c1 => qi_some ⟨rfl, Or.inr ⟨fun z => absurd (Int32.lt_of_lt_of_le z.2 c1) Int32.lt_irrefl, rfl⟩⟩) (fun c1 => ?_)
  refine l_gR T (d_Row_0 T k) (l_aI (e := vA h (r + 1) v) (fun _ => rfl) (fun _ => ?_))
  exact qi_some ⟨rfl, Or.inl ⟨Int32.not_lt.mp c, Int32.not_le.mp c1, rfl⟩⟩
theorem y_em (T : x_U L π h) (k : qκ L r = 11) : qi (f_Row_empty N r h) (fun h' => x_U L π h' ∧ (∀ b, b ≠ r → h' b = h b) ∧ vI h' r 1 = 0 ∧ x_rw h' r = []) := by
  unfold f_Row_empty
  refine l_sIc T k (by decide) rfl ?_
  intro h1 T1 c1 u1
  have e : vI h1 r 1 = 0 := by rw [u1 1, if_pos rfl]
  refine qi_some ⟨T1, c1, e, ?_⟩
  unfold x_rw
  rw [e]
  exact x_sl_0 (by decide) (by decide) (by decide)
theorem y_ad {c : Int32} (T : x_U L π h) (k : qκ L r = 11) (hc : 0 ≤ c ∧ c ≤ 255) (n0 : 0 ≤ vI h r 1) (n1 : vI h r 1 < qhi L r 1) (n2 : vI h r 1 ≤ 1000) : qi (f_Row_add N r c h) (fun h' => x_U L π h' ∧ (∀ b, b ≠ r → b ≠ r + 1 → h' b = h b) ∧ vI h' r 1 = vI h r 1 + 1 ∧ x_rw h' r = x_rw h r ++ [c]) := by
  unfold f_Row_add
  refine l_gI (e := vI h r 1) rfl (l_gR T (d_Row_0 T k) (l_aNr T k ?_))
  refine qi_if (fun c1 => absurd (Int32.lt_of_lt_of_le n1 c1) Int32.lt_irrefl) (fun _ => ?_)
  refine l_gR T (d_Row_0 T k) (l_gI (e := vI h r 1) rfl (l_uIc T ?_))
  intro h1 T1 j1 c1 u1
  refine l_gI (e := vI h r 1) (x_vI_c (c1 r (by omega))) (l_sIc T1 k (by decide) rfl ?_)
  intro h2 T2 c2 u2
  have e : vI h2 r 1 = vI h r 1 + 1 := by rw [u2 1, if_pos rfl]
  refine qi_some ⟨T2, fun b b1 b2 => (c2 b b1).trans (c1 b b2), e, ?_⟩
  unfold x_rw
  rw [e, x_vA_c (c2 (r + 1) (by omega)), x_sl_q n0 (Int32.le_refl 0) (by lia), u1 _ n0, if_pos rfl, x_nar2 hc.1 hc.2]
  congr 1
  refine x_sl_e (Int32.le_refl 0) n0 (fun j j0 jn => ?_)
  rw [u1 j j0, if_neg (by lia)]
theorem y_ap3 (k : qκ L r = 11) (ko : qκ L o = 11) (D : r + 1 < o ∨ o + 1 < r) {v3 : Int32} : ∀ (m : Nat) (i : Int32) (h : z_H), x_U L π h → 0 ≤ i → i ≤ v3 → v3 ≤ vI h o 1 → vI h o 1 ≤ 1000 → 0 ≤ vI h r 1 → vI h r 1 ≤ qhi L r 1 → vI h r 1 + (v3 - i) ≤ qhi L r 1 → qhi L r 1 ≤ 1000 → x_kt (x_rw h o) → qi (f_Row_addPart_3 N m r o v3 i h) (fun h' => x_U L π h' ∧ (∀ b, b ≠ r → b ≠ r + 1 → h' b = h b) ∧ vI h' r 1 = vI h r 1 + (v3 - i) ∧ x_rw h' r = x_rw h r ++ x_sl (vA h (o + 1)) i v3) := by
  intro m
  induction m with
  | zero => intro i h T i0 i3 v3n nn n0 nc cap cap1 ok r e; rw [f_Row_addPart_3] at e; cases e
  | succ m ih =>
    intro i h T i0 i3 v3n nn n0 nc cap cap1 ok
    rw [f_Row_addPart_3]
    refine qi_if (fun c => ?_) (fun c => ?_)
    · have e : v3 = i := Int32.le_antisymm c i3
      subst e
      refine qi_some ⟨T, fun _ _ _ => rfl, ?_, ?_⟩
      · rw [show v3 - v3 = 0 from by grind, Int32.add_zero]
      · rw [x_sl_0 (Int32.le_refl _) i0 i0, List.append_nil]
    · have cl := Int32.not_le.mp c
      refine l_gI (e := vI h o 1) rfl ?_
      refine qi_if (fun c1 => absurd (Int32.lt_of_lt_of_le cl (Int32.le_trans v3n c1)) Int32.lt_irrefl) (fun c1 => ?_)
      refine l_gI (e := vI h r 1) rfl (l_gR T (d_Row_0 T k) (l_aNr T k ?_))
      refine qi_if (fun c2 => ?_) (fun _ => ?_)
      · exact absurd c2 (by lia)
      refine l_gR T (d_Row_0 T k) (l_gI (e := vI h r 1) rfl (l_gR T (d_Row_0 T ko) (l_aI (e := vA h (o + 1) i) (fun _ => rfl) (fun _ => l_uIc T ?_))))
      intro h1 T1 j1 c1' u1
      refine l_gI (e := vI h r 1) (x_vI_c (c1' r (by omega))) (l_sIc T1 k (by decide) rfl ?_)
      intro h2 T2 c2 u2
      have e : vI h2 r 1 = vI h r 1 + 1 := by rw [u2 1, if_pos rfl]
      have fr : ∀ b, b ≠ r → b ≠ r + 1 → h2 b = h b := fun b b1 b2 => (c2 b b1).trans (c1' b b2)
      have eo : vI h2 o 1 = vI h o 1 := x_vI_c (fr o (by omega) (by omega))
      have ea : vA h2 (o + 1) = vA h (o + 1) := x_vA_c (fr (o + 1) (by omega) (by omega))
      have er : x_rw h2 o = x_rw h o := x_rw_c (fr o (by omega) (by omega)) (fr (o + 1) (by omega) (by omega))
      have kc := x_kc_r (x_kt_g (Int32.le_refl 0) (Int32.le_trans (Int32.le_trans i0 i3) v3n) ok i i0 (Int32.lt_of_lt_of_le cl v3n))
      have E : x_rw h2 r = x_rw h r ++ [vA h (o + 1) i] := by
        unfold x_rw
        rw [e, x_vA_c (c2 (r + 1) (by omega)), x_sl_q n0 (Int32.le_refl 0) (by lia), u1 _ n0, if_pos rfl, x_nar kc.1 (Int32.le_trans kc.2 (by decide))]
        congr 1
        refine x_sl_e (Int32.le_refl 0) n0 (fun j j0 jn => ?_)
        rw [u1 j j0, if_neg (by lia)]
      refine qi_bs (qi_mono (ih (i + 1) h2 T2 (by lia) (by lia) (by rw [eo]; exact v3n) (by rw [eo]; exact nn) (by rw [e]; lia) (by rw [e]; lia) (by rw [e]; lia) cap1 (by rw [er]; exact ok)) ?_)
      rintro h3 ⟨t1, t2, t3, t4⟩
      refine ⟨t1, fun b b1 b2 => (t2 b b1 b2).trans (fr b b1 b2), ?_, ?_⟩
      · rw [t3, e]; grind
      · rw [t4, E, ea, x_sl_1 cl i0, List.append_assoc]; rfl
/-- a part of a row comes to the end of another -/
theorem y_ap {v2 v3 : Int32} (T : x_U L π h) (k : qκ L r = 11) (ko : qκ L o = 11) (D : r + 1 < o ∨ o + 1 < r) (i0 : 0 ≤ v2) (i3 : v2 ≤ v3) (v3n : v3 ≤ vI h o 1) (nn : vI h o 1 ≤ 1000) (n0 : 0 ≤ vI h r 1) (nc : vI h r 1 ≤ qhi L r 1) (cap : vI h r 1 + (v3 - v2) ≤ qhi L r 1) (cap1 : qhi L r 1 ≤ 1000) (ok : x_kt (x_rw h o)) : qi (f_Row_addPart N r o v2 v3 h) (fun h' => x_U L π h' ∧ (∀ b, b ≠ r → b ≠ r + 1 → h' b = h b) ∧ vI h' r 1 = vI h r 1 + (v3 - v2) ∧ x_rw h' r = x_rw h r ++ x_sl (vA h (o + 1)) v2 v3) := y_ap3 (N := N) k ko D N v2 h T i0 i3 v3n nn n0 nc cap cap1 ok
theorem y_dr2 (k : qκ L r = 11) {d n : Int32} {f : Int32 → Int32} (d0 : 1 ≤ d) (dn : d ≤ n) (nn : n ≤ 1000) (fc : ∀ j, 0 ≤ j → j < n → x_kc (f j)) : ∀ (m : Nat) (i : Int32) (h : z_H), x_U L π h → d ≤ i → i ≤ n → vI h r 1 = n → (∀ j, 0 ≤ j → j < i - d → vA h (r + 1) j = f (j + d)) → (∀ j, i ≤ j → vA h (r + 1) j = f j) → qi (f_Row_dropFirst_2 N m r d i h) (fun h' => x_U L π h' ∧ (∀ b, b ≠ r → b ≠ r + 1 → h' b = h b) ∧ vI h' r 1 = n - d ∧ x_rw h' r = x_sl f d n) := by
  intro m
  induction m with
  | zero => intro i h T di i_n hn H1 H2 r e; rw [f_Row_dropFirst_2] at e; cases e
  | succ m ih =>
    intro i h T di i_n hn H1 H2
    rw [f_Row_dropFirst_2]
    refine l_gI (e := n) hn ?_
    refine qi_if (fun c => ?_) (fun c => ?_)
    · have e : i = n := Int32.le_antisymm i_n c
      subst e
      refine l_gI (e := i) hn (l_sIc T k (by decide) rfl ?_)
      intro h1 T1 c1 u1
      have e1 : vI h1 r 1 = i - d := by rw [u1 1, if_pos rfl]
      refine qi_some ⟨T1, fun b b1 _ => c1 b b1, e1, ?_⟩
      unfold x_rw
      rw [e1, x_vA_c (c1 (r + 1) (by omega)), x_sl_s (g := f) (d := d) (Int32.le_refl 0) (by lia) (by lia) (by lia) (by lia) H1, show (0 : Int32) + d = d from by grind, show i - d + d = i from by grind]
    · have cl := Int32.not_le.mp c
      refine l_gR T (d_Row_0 T k) (l_gR T (d_Row_0 T k) (l_aI (e := f i) (fun _ => H2 i (Int32.le_refl _)) (fun i0 => l_uIc T ?_)))
      intro h1 T1 j1 c1 u1
      have kc := x_kc_r (fc i i0 cl)
      rw [x_nar kc.1 (Int32.le_trans kc.2 (by decide))] at u1
      refine qi_bs (qi_mono (ih (i + 1) h1 T1 (by lia) (by lia) (by rw [x_vI_c (c1 r (by omega)), hn]) (fun j j0 jn => ?_) (fun j j0 => ?_)) ?_)
      · rw [u1 j j0]
        by_cases w : j = i - d
        · rw [if_pos w, w, show i - d + d = i from by grind]
        · rw [if_neg w]; exact H1 j j0 (by lia)
      · rw [u1 j (by lia), if_neg (by lia)]; exact H2 j (by lia)
      · rintro h2 ⟨t1, t2, t3, t4⟩
        exact ⟨t1, fun b b1 b2 => (t2 b b1 b2).trans (c1 b b2), t3, t4⟩
theorem y_nl2 (k : qκ L r = 11) : ∀ (m : Nat) (p : Int32) (h : z_H), x_U L π h → 0 ≤ p → p ≤ vI h r 1 → vI h r 1 ≤ 1000 → qi (f_Row_newlineFrom_2 N m r p h) (fun y => y.2 = h ∧ p ≤ y.1 ∧ y.1 ≤ vI h r 1 ∧ (∀ j, p ≤ j → j < y.1 → ¬ vA h (r + 1) j = 10) ∧ (y.1 < vI h r 1 → vA h (r + 1) y.1 = 10)) := by
  intro m
  induction m with
  | zero => intro p h T p0 pn nn r e; rw [f_Row_newlineFrom_2] at e; cases e
  | succ m ih =>
    intro p h T p0 pn nn
    rw [f_Row_newlineFrom_2]
    refine l_gI (e := vI h r 1) rfl ?_
    refine qi_if (fun c => ?_) (fun c => ?_)
    · exact qi_some ⟨rfl, Int32.le_refl _, pn, fun j a b => absurd (Int32.lt_of_le_of_lt a b) Int32.lt_irrefl, fun z => absurd (Int32.lt_of_lt_of_le z c) Int32.lt_irrefl⟩
    · have cl := Int32.not_le.mp c
      refine l_gR T (d_Row_0 T k) (l_aI (e := vA h (r + 1) p) (fun _ => rfl) (fun _ => ?_))
      refine qi_if (fun c1 => ?_) (fun c1 => ?_)
      · exact qi_some ⟨rfl, Int32.le_refl _, pn, fun j a b => absurd (Int32.lt_of_le_of_lt a b) Int32.lt_irrefl, fun _ => c1⟩
      · refine qi_bs (qi_mono (ih (p + 1) h T (by lia) (by lia) nn) ?_)
        rintro y ⟨t1, t2, t3, t4, t5⟩
        refine ⟨t1, by lia, t3, fun j a b => ?_, t5⟩
        by_cases w : j = p
        · rw [w]; exact c1
        · exact t4 j (by lia) b
end ROW
