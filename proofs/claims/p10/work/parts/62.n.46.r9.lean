/-! reference: searches in the space, addresses -/
/-- a pattern of the reference that may be searched -/
def r_PP (h : z_H) (v0 : Nat) (q s1 s2 g : Int32) : Prop := x_sx (r_kd (vA h (v0 + 26))) (vA h (v0 + 29)) (vA h (v0 + 23) q) s1 s2 (vA h (v0 + 24) q) ∧ x_wf (r_kd (vA h (v0 + 26))) (vA h (v0 + 27)) (x_ct (vA h (v0 + 23) q) (vA h (v0 + 24) q)) (vA h (v0 + 23) q) 0 0 ∧ x_oc (r_kd (vA h (v0 + 26))) (x_ct (vA h (v0 + 23) q) (vA h (v0 + 24) q)) (vA h (v0 + 23) q) 0 0 = (g, g) ∧ g ≤ 3
noncomputable def r_fd (h : z_H) (v0 : Nat) (q s1 s2 : Int32) (S : List Int32) (fm : Int32) : Option (Int32 × Int32 × (Int32 → Int32) × (Int32 → Int32)) := x_fd (x_tl S) (x_nl8 S) (r_kd (vA h (v0 + 26))) (vA h (v0 + 27)) (x_tf h v0) (vA h (v0 + 23) q) s1 s2 (vA h (v0 + 24) q) (vA h (v0 + 31) q) (vA h (v0 + 30) q) fm
/-- the space is the subject -/
def r_sb (h : z_H) (v0 : Nat) (S : List Int32) : Prop := vI h v0 54 = x_nl8 S ∧ ∀ j, 0 ≤ j → j < x_nl8 S → vA h (v0 + 36) j = x_tl S j
/-- tables stand -/
def r_X (v0 : Nat) (h h1 : z_H) : Prop := ∀ a, v0 < a → a < v0 + 36 → h1 a = h a
theorem r_X_r {v0 : Nat} {h : z_H} : r_X v0 h h := fun _ _ _ => rfl
theorem r_X_t {v0 : Nat} {h h1 h2 : z_H} (a : r_X v0 h h1) (b : r_X v0 h1 h2) : r_X v0 h h2 := fun x y z => (b x y z).trans (a x y z)
theorem r_X_F {v0 : Nat} {h h1 : z_H} (F : r_F v0 h h1) : r_X v0 h h1 := fun a a1 a2 => F.1 a (by omega) (by omega)
theorem r_kdc {km : Int32 → Int32} {i : Int32} : r_kd km i = 0 ∨ r_kd km i = 1 ∨ r_kd km i = 2 ∨ r_kd km i = 3 := by
  unfold r_kd
  by_cases c1 : km i = 4
  · rw [if_pos c1]; exact Or.inr (Or.inl rfl)
  · rw [if_neg c1]
    by_cases c2 : km i = 5
    · rw [if_pos c2]; exact Or.inr (Or.inr (Or.inl rfl))
    · rw [if_neg c2]
      by_cases c3 : km i = 3
      · rw [if_pos c3]; exact Or.inr (Or.inr (Or.inr rfl))
      · rw [if_neg c3]; exact Or.inl rfl
section R9
variable {L : q_L} {π : Nat → Nat → Option Nat} {N v0 : Nat} {h h1 : z_H} {O S H A : List Int32} {LN : Int32 → List Int32} {lc rd cy rp sm nx : Int32}
theorem r_PP_x {q s1 s2 g : Int32} (F : r_X v0 h h1) (P : r_PP h v0 q s1 s2 g) : r_PP h1 v0 q s1 s2 g := by
  unfold r_PP
  rw [x_vA_c (F (v0 + 26) (by omega) (by omega)), x_vA_c (F (v0 + 29) (by omega) (by omega)), x_vA_c (F (v0 + 23) (by omega) (by omega)), x_vA_c (F (v0 + 24) (by omega) (by omega)), x_vA_c (F (v0 + 27) (by omega) (by omega))]
  exact P
theorem r_fd_x {q s1 s2 fm : Int32} (M : q_M L π v0) (T : x_U L π h) (T1 : x_U L π h1) (F : r_X v0 h h1) : r_fd h1 v0 q s1 s2 S fm = r_fd h v0 q s1 s2 S fm := by
  unfold r_fd
  rw [x_vA_c (F (v0 + 26) (by omega) (by omega)), x_vA_c (F (v0 + 23) (by omega) (by omega)), x_vA_c (F (v0 + 24) (by omega) (by omega)), x_vA_c (F (v0 + 27) (by omega) (by omega)), x_vA_c (F (v0 + 30) (by omega) (by omega)), x_vA_c (F (v0 + 31) (by omega) (by omega)), x_tf_c M T T1 (F (v0 + 26) (by omega) (by omega)) (F (v0 + 27) (by omega) (by omega)) (F (v0 + 32) (by omega) (by omega)) (F (v0 + 33) (by omega) (by omega))]
theorem r_fi {q s1 s2 g fm : Int32} (T : x_U L π h) (M : q_M L π v0) (sb : r_sb h v0 S) (kt : ∀ j, 0 ≤ j → j < x_nl8 S → x_kc (x_tl S j)) (n0 : 0 ≤ x_nl8 S) (n1 : x_nl8 S ≤ 60) (P : r_PP h v0 q s1 s2 g) (f0 : 0 ≤ fm) : qi (f_Mod_find N v0 q fm h) (fun r => (x_U L π r.2 ∧ (∀ a, a ≠ v0 → a ≠ v0 + 37 → a ≠ v0 + 38 → r.2 a = h a) ∧ (∀ k, k ≠ 55 → k ≠ 56 → k ≠ 57 → vI r.2 v0 k = vI h v0 k)) ∧ ((r.1 = 0 ∧ r_fd h v0 q s1 s2 S fm = none) ∨ (r.1 = 1 ∧ ∃ st t gb ge, r_fd h v0 q s1 s2 S fm = some (st, t, gb, ge) ∧ (fm ≤ st ∧ st ≤ t ∧ t ≤ x_nl8 S) ∧ x_gk (x_nl8 S) g g gb ge t ∧ vI r.2 v0 56 = st ∧ vI r.2 v0 57 = t ∧ x_ag g gb (vA r.2 (v0 + 37)) ∧ x_ag g ge (fun j => vA r.2 (v0 + 37) j + vA r.2 (v0 + 38) j)))) := by
  obtain ⟨SX, WF, OC, g3⟩ := P
  have SX' := SX
  obtain ⟨⟨q1, q2, q3, q4, q5⟩, hs, -, k1, k2⟩ := SX'
  have W := x_pw_of q1 q2 q3 q4 q5 hs (fun z => (k1 z).1) (fun z => (k2 z).1) WF OC
  have PE : x_PE (r_kd (vA h (v0 + 26))) (vA h (v0 + 27)) (x_tf h v0) (r_kd (vA h (v0 + 26))) (vA h (v0 + 27)) (x_tf h v0) (vA h (v0 + 23) q) s1 s2 (vA h (v0 + 24) q) 0 :=
    ⟨⟨q1, q2, q3, q4, q5, by decide, by decide⟩, fun z => (k1 z).1, fun z => (k2 z).1, fun i _ _ => ⟨by rw [Int32.add_zero], fun _ => by rw [Int32.add_zero], r_kdc, fun _ c _ => by rw [Int32.add_zero]⟩⟩
  have n1' : x_nl8 S ≤ 1000 := Int32.le_trans n1 (by decide)
  have FE : r_fd h v0 q s1 s2 S fm = x_fd (vA h (v0 + 36)) (x_nl8 S) (r_kd (vA h (v0 + 26))) (vA h (v0 + 27)) (x_tf h v0) (vA h (v0 + 23) q) s1 s2 (vA h (v0 + 24) q) (vA h (v0 + 31) q) (vA h (v0 + 30) q) fm := by
    unfold r_fd
    have z := x_fd_eq (tx := vA h (v0 + 36)) (tx' := x_tl S) (n := x_nl8 S) (ae := vA h (v0 + 31) q) (ab := vA h (v0 + 30) q) (fm := fm) sb.2 kt W n0 n1' f0 PE
    rw [Int32.add_zero, Int32.add_zero, Int32.add_zero, Int32.add_zero] at z
    exact z
  have F := y_fm (N := N) (q := q) (s1 := s1) (s2 := s2) (g := g) (fm := fm) T M (by rw [sb.1]; exact n0) (by rw [sb.1]; exact n1') SX WF OC f0
  rw [sb.1] at F
  refine qi_mono F ?_
  rintro r ⟨fr, R⟩
  refine ⟨fr, ?_⟩
  rw [FE]
  rcases R with ⟨r1, r2⟩ | ⟨r1, st, a, b, t, gb, ge, r2, r3, r4, r5, r6, r7⟩
  · exact Or.inl ⟨r1, x_fd_n r2⟩
  · have gk := x_fye_gk W n0 n1' f0 r2
    exact Or.inr ⟨r1, st, t, gb, ge, x_fd_s r2, ⟨gk.2.1, gk.2.2, gk.1.1.2⟩, gk.1, r5, r4, r6, r7⟩
/-- what a search may touch -/
def r_G (v0 : Nat) (h h1 : z_H) : Prop := (∀ a, ¬ (v0 + 36 ≤ a ∧ a ≤ v0 + 38) → a ≠ v0 → h1 a = h a) ∧ ∀ k, ¬ (54 ≤ k ∧ k ≤ 57) → vI h1 v0 k = vI h v0 k
theorem r_G_r : r_G v0 h h := ⟨fun _ _ _ => rfl, fun _ _ => rfl⟩
theorem r_S_G (s : r_S L π v0 h O S H A) (T : x_U L π h1) (F : ∀ a, ¬ (v0 + 36 ≤ a ∧ a ≤ v0 + 38) → a ≠ v0 → a ≠ v0 + 45 → h1 a = h a) (I : ∀ k, ¬ (54 ≤ k ∧ k ≤ 57) → k ≠ 75 → vI h1 v0 k = vI h v0 k) : r_S L π v0 h1 O S H A := by
  obtain ⟨⟨_, M⟩, a1, a2, a3, a4⟩ := s
  exact ⟨⟨T, M⟩, r_R1_c a1 (I 69 (by omega) (by omega)) (F _ (by omega) (by omega) (by omega)), r_R1_c a2 (I 65 (by omega) (by omega)) (F _ (by omega) (by omega) (by omega)), r_R1_c a3 (I 66 (by omega) (by omega)) (F _ (by omega) (by omega) (by omega)), r_R1_c a4 (I 68 (by omega) (by omega)) (F _ (by omega) (by omega) (by omega))⟩
theorem r_R1_k {k a : Nat} {c : Int32} (r : r_R1 h v0 k a c S) : ∀ j, 0 ≤ j → j < x_nl8 S → x_kc (x_tl S j) := by
  intro j j0 j1
  have tl := r_R1_tl r
  rw [← tl.1] at j1
  rw [← tl.2 j j0 j1]
  have kk := r.2.2
  rw [← r.1] at kk
  exact x_kt_g (Int32.le_refl 0) r.2.1.1 kk j j0 j1
/-- the space becomes the subject -/
theorem r_tk8 (s : r_S L π v0 h O S H A) : qi (f_Mod_takeSpace N v0 h) (fun r => r_S L π v0 r O S H A ∧ (∀ a, a ≠ v0 → a ≠ v0 + 36 → r a = h a) ∧ (∀ k, k ≠ 54 → vI r v0 k = vI h v0 k) ∧ r_sb r v0 S) := by
  have a2 := s.2.2.1
  have tl := r_R1_tl a2
  refine qi_mono (r_tk (N := N) s) ?_
  rintro r ⟨T1, F1, I1, e54, X1⟩
  refine ⟨r_S_G s T1 (fun a a1 a2 _ => F1 a a2 (by omega)) (fun k k1 _ => I1 k (by omega)), F1, I1, by rw [e54, tl.1], fun j j0 j1 => ?_⟩
  rw [← tl.1] at j1
  rw [X1 j j0 j1, tl.2 j j0 j1]
noncomputable def r_ft (h : z_H) (v0 : Nat) (kd v s1 s2 : Int32) (S : List Int32) (rd lc : Int32) : Int32 := if kd = 1 then (if rd = v then 1 else 0) else if kd = 2 then (if rd = lc then 1 else 0) else (match r_fd h v0 v s1 s2 S 0 with | none => 0 | some _ => 1)
theorem r_ft01 {kd v s1 s2 : Int32} : r_ft h v0 kd v s1 s2 S rd lc = 0 ∨ r_ft h v0 kd v s1 s2 S rd lc = 1 := by
  unfold r_ft
  by_cases c : kd = 1
  · rw [if_pos c]
    by_cases c1 : rd = v
    · rw [if_pos c1]; exact Or.inr rfl
    · rw [if_neg c1]; exact Or.inl rfl
  · rw [if_neg c]
    by_cases c1 : kd = 2
    · rw [if_pos c1]
      by_cases c2 : rd = lc
      · rw [if_pos c2]; exact Or.inr rfl
      · rw [if_neg c2]; exact Or.inl rfl
    · rw [if_neg c1]
      cases r_fd h v0 v s1 s2 S 0 with
      | none => exact Or.inl rfl
      | some _ => exact Or.inr rfl
theorem r_ft_x {kd v s1 s2 : Int32} (M : q_M L π v0) (T : x_U L π h) (T1 : x_U L π h1) (F : r_X v0 h h1) : r_ft h1 v0 kd v s1 s2 S rd lc = r_ft h v0 kd v s1 s2 S rd lc := by
  unfold r_ft
  rw [r_fd_x M T T1 F]
theorem r_fA {kd v s1 s2 g : Int32} (s : r_S L π v0 h O S H A) (hr : vI h v0 70 = rd) (hl : vI h v0 4 = lc) (P : ¬ kd = 1 → ¬ kd = 2 → r_PP h v0 v s1 s2 g) : qi (f_Mod_fitsAddress N v0 kd v h) (fun r => r.1 = r_ft h v0 kd v s1 s2 S rd lc ∧ r_S L π v0 r.2 O S H A ∧ r_G v0 h r.2) := by
  obtain ⟨⟨T, M⟩, a1, a2, a3, a4⟩ := id s
  unfold f_Mod_fitsAddress r_ft
  refine qi_if (fun c => ?_) (fun c => ?_)
  · rw [if_pos c]
    refine l_gI (e := rd) hr ?_
    refine qi_if (fun c1 => ?_) (fun c1 => ?_)
    · rw [if_pos c1]; exact qi_some ⟨rfl, s, r_G_r⟩
    · rw [if_neg c1]; exact qi_some ⟨rfl, s, r_G_r⟩
  · rw [if_neg c]
    refine qi_if (fun c1 => ?_) (fun c1 => ?_)
    · rw [if_pos c1]
      refine l_gI (e := rd) hr (l_gI (e := lc) hl ?_)
      refine qi_if (fun c2 => ?_) (fun c2 => ?_)
      · rw [if_pos c2]; exact qi_some ⟨rfl, s, r_G_r⟩
      · rw [if_neg c2]; exact qi_some ⟨rfl, s, r_G_r⟩
    · rw [if_neg c1]
      have tl := r_R1_tl a2
      refine l_gO (qi_b (r_tk8 (N := N) s) ?_)
      rintro h2 ⟨s2, F2, I2, sb⟩
      have X2 : r_X v0 h h2 := fun a a1 a2 => F2 a (by omega) (by omega)
      refine l_gO (qi_b (r_fi (N := N) (g := g) s2.1.1 M sb (r_R1_k a2) (by rw [← tl.1]; exact a2.2.1.1) (by rw [← tl.1]; exact a2.2.1.2) (r_PP_x X2 (P c c1)) (Int32.le_refl 0)) ?_)
      rw [r_fd_x M T s2.1.1 X2]
      rintro ⟨y, h3⟩ ⟨⟨T3, F3, I3⟩, q⟩
      dsimp only at T3 F3 I3 q ⊢
      have s3 : r_S L π v0 h3 O S H A := r_S_G s2 T3 (fun a a1 a2 _ => F3 a a2 (by omega) (by omega)) (fun k k1 _ => I3 k (by omega) (by omega) (by omega))
      have G3 : r_G v0 h h3 := ⟨fun a a1 a2 => (F3 a a2 (by omega) (by omega)).trans (F2 a a2 (by omega)), fun k k1 => (I3 k (by omega) (by omega) (by omega)).trans (I2 k (by omega))⟩
      rcases q with ⟨q1, q2⟩ | ⟨q1, st, t, gb, ge, q2, -⟩
      · rw [q1, q2]
        exact qi_zB (fun _ => qi_some ⟨rfl, s3, G3⟩)
      · rw [q1, q2]
        exact qi_zB (fun _ => qi_some ⟨rfl, s3, G3⟩)
/-- how many addresses -/
def r_na (one two : Int32) : Int32 := if one = 0 then 0 else if two = 0 then 1 else 2
def r_rc (two v rd : Int32) : Int32 := if two = 1 then (if rd < v then 0 else 1) else 0
/-- what isDone leaves -/
def r_DN (L : q_L) (π : Nat → Nat → Option Nat) (v0 : Nat) (q k : Int32) (h : z_H) (O S H A : List Int32) (D : Int32 × Int32 × Int32) (r : Int32 × z_H) : Prop := r.1 = D.1 ∧ r_S L π v0 r.2 O S H A ∧ (∀ a, ¬ (v0 + 36 ≤ a ∧ a ≤ v0 + 38) → a ≠ v0 → a ≠ v0 + 45 → r.2 a = h a) ∧ (∀ k, ¬ (54 ≤ k ∧ k ≤ 57) → k ≠ 75 → vI r.2 v0 k = vI h v0 k) ∧ (∀ j, 0 ≤ j → vA r.2 (v0 + 45) j = if j = k then D.2.1 else vA h (v0 + 45) j) ∧ (¬ D.1 = 0 → (D.2.2 = 0 → ¬ (vA h (v0 + 7) q = 0 ∨ ¬ vA h (v0 + 16) q = 0 ∨ ¬ vI r.2 v0 75 = 0)) ∧ (¬ D.2.2 = 0 → vA h (v0 + 7) q = 0 ∨ ¬ vA h (v0 + 16) q = 0 ∨ ¬ vI r.2 v0 75 = 0))
end R9
