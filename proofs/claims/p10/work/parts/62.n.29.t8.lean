/-! the editor of the class: searches in the space, addresses -/
def x_tl (S : List Int32) (j : Int32) : Int32 := S.getD j.toNatClampNeg 0
def x_nl8 (S : List Int32) : Int32 := Int32.ofNat S.length
theorem x_sl_get {f : Int32 → Int32} {n j : Int32} (n0 : 0 ≤ n) (j0 : 0 ≤ j) (jn : j < n) : (x_sl f 0 n).getD j.toNatClampNeg 0 = f j := by
  have q1 := x_ct_t n0 (Int32.le_refl 0)
  have z : (0 : Int32).toInt = 0 := rfl
  rw [z] at q1
  have e1 := Int32.le_iff_toInt_le.mp j0
  have e2 := Int32.lt_iff_toInt_lt.mp jn
  rw [z] at e1
  have lt : j.toNatClampNeg < x_ct 0 n := by
    show j.toInt.toNat < _
    omega
  unfold x_sl
  rw [List.getD_eq_getElem?_getD, List.getElem?_map, List.getElem?_range lt]
  show f (0 + Int32.ofNat j.toNatClampNeg) = f j
  rw [Int32.ofNat_toNatClampNeg _ j0, Int32.zero_add]
theorem y_R1_tl {h : z_H} {r : Nat} {c : Int32} {X : List Int32} (a : y_R1 h r c X) : vI h r 1 = x_nl8 X ∧ ∀ j, 0 ≤ j → j < vI h r 1 → vA h (r + 1) j = x_tl X j := by
  constructor
  · have e := x_ct_e a.2.1.1 (Int32.le_refl 0)
    rw [← y_R1_len a, Int32.zero_add] at e
    exact e.symm
  · intro j j0 j1
    unfold x_tl
    rw [← a.1]
    exact (x_sl_get a.2.1.1 j0 j1).symm
/-- a pattern of the class that may be searched -/
def y_PP (h : z_H) (it pt : Nat) : Prop := (0 ≤ vI h pt 2 ∧ vI h pt 2 ≤ vI h pt 4 ∧ vI h pt 4 ≤ vI h pt 5 ∧ vI h pt 5 ≤ vI h pt 3 ∧ vI h pt 3 ≤ 240) ∧ vI h pt 6 ≤ 3 ∧ x_pw (vA h (it + 1)) (vA h (it + 2)) (vI h pt 2) (vI h pt 4) (vI h pt 5) (vI h pt 3) (vI h pt 6) ∧ (vI h pt 4 < vI h pt 3 → vA h (it + 1) (vI h pt 4) = 0) ∧ (vI h pt 5 < vI h pt 3 → vA h (it + 1) (vI h pt 5) = 0) ∧ ∀ i, vI h pt 2 ≤ i → i < vI h pt 3 → vA h (it + 1) i = 0 ∨ vA h (it + 1) i = 1 ∨ vA h (it + 1) i = 2 ∨ vA h (it + 1) i = 3
/-- what a search of the pattern finds in a text -/
noncomputable def y_fd (h : z_H) (it pt : Nat) (S : List Int32) (fm : Int32) : Option (Int32 × Int32 × (Int32 → Int32) × (Int32 → Int32)) := x_fd (x_tl S) (x_nl8 S) (vA h (it + 1)) (vA h (it + 2)) (x_tk h it) (vI h pt 2) (vI h pt 4) (vI h pt 5) (vI h pt 3) (vI h pt 1) (vI h pt 0) fm
theorem y_PP_pe {h : z_H} {it pt : Nat} (P : y_PP h it pt) : x_PE (vA h (it + 1)) (vA h (it + 2)) (x_tk h it) (vA h (it + 1)) (vA h (it + 2)) (x_tk h it) (vI h pt 2) (vI h pt 4) (vI h pt 5) (vI h pt 3) 0 := by
  obtain ⟨⟨q1, q2, q3, q4, q5⟩, -, -, z1, z2, K⟩ := P
  exact ⟨⟨q1, q2, q3, q4, Int32.le_trans q5 (by decide), by decide, by decide⟩, z1, z2, fun i i0 i1 => ⟨by rw [Int32.add_zero], fun _ => by rw [Int32.add_zero], K i i0 i1, fun _ c _ => by rw [Int32.add_zero]⟩⟩
section Y8
variable {L : q_L} {e pg sf ln : Nat} {π : Nat → Nat → Option Nat} {N : Nat} {h h1 : z_H} {sp ho dr : Nat} {O S H A : List Int32} {LN : Int32 → List Int32} {lc : Int32} {rd cy rp sm nx : Int32}
theorem y_S_m {π' : Nat → Nat → Option Nat} (s : y_S L e pg ln π h sp ho dr O S H A) (T : x_U L π' h1) (ep : ∀ a k, ¬ (a = e + 9 ∧ (k = 2 ∨ k = 3 ∨ k = 4)) → π' a k = π a k) (c : ∀ a, a < e + 9 ∨ e + 9 + 4 < a → h1 a = h a) : y_S L e pg ln π' h1 sp ho dr O S H A := by
  obtain ⟨⟨_, p1, p2, p3, p4, p5⟩, d, a1, a2, a3, a4, a5⟩ := s
  have d' := d
  obtain ⟨d1, d2, d3, d4, d5, d6⟩ := d'
  refine ⟨⟨T, (ep e 1 (by omega)).trans p1, (ep e 2 (by omega)).trans p2, (ep e 9 (by omega)).trans p3, (ep e 10 (by omega)).trans p4, (ep e 11 (by omega)).trans p5⟩, d, y_R1_c a1 (c _ (by omega)) (c _ (by omega)), y_R1_c a2 (c _ (by omega)) (c _ (by omega)), y_R1_c a3 (c _ (by omega)) (c _ (by omega)), y_R1_c a4 (c _ (by omega)) (c _ (by omega)), ?_⟩
  rw [x_vI_c (c dr (by omega))]; exact a5
/-- what the editor's matcher holds of a match -/
def y_MT (r : z_H) (e : Nat) (g s t : Int32) (gb ge : Int32 → Int32) : Prop := vI r (e + 9) 0 = s ∧ vI r (e + 9) 1 = t ∧ x_ag g gb (vA r (e + 10)) ∧ x_ag g ge (vA r (e + 11))
theorem y_sF {pt : Nat} {fm : Int32} (hpg : e + 16 ≤ pg) (hpt : pg + 9 ≤ pt) (ly : y_L L e) (kp : qκ L pg = 10) (s : y_S L e pg ln π h sp ho dr O S H A) (P : y_PP h (pg + 3) pt) (f0 : 0 ≤ fm) : qi (f_Ma_find N (e + 9) (pg + 3) pt sp fm h) (fun r => ∃ π', y_S L e pg ln π' r.2 sp ho dr O S H A ∧ (∀ a, a < e + 9 ∨ e + 9 + 4 < a → r.2 a = h a) ∧ ((r.1 = 0 ∧ y_fd h (pg + 3) pt S fm = none) ∨ (r.1 = 1 ∧ ∃ st t gb ge, y_fd h (pg + 3) pt S fm = some (st, t, gb, ge) ∧ (fm ≤ st ∧ st ≤ t ∧ t ≤ x_nl8 S) ∧ x_gk (x_nl8 S) (vI h pt 6) (vI h pt 6) gb ge t ∧ y_MT r.2 e (vI h pt 6) st t gb ge))) := by
  obtain ⟨⟨T, p1, p2, p3, p4, p5⟩, d, a1, a2, a3, a4, a5⟩ := id s
  have ks := y_kr ly d.1
  have d1 := d.1
  have PE := y_PP_pe P
  have P' := P
  obtain ⟨⟨q1, q2, q3, q4, q5⟩, g3, W, -, -, -⟩ := P'
  have tl := y_R1_tl a2
  have kk := a2.2.2
  rw [← a2.1] at kk
  have K := x_kt_g (Int32.le_refl 0) a2.2.1.1 kk
  have n0 := a2.2.1.1
  have n1 : vI h sp 1 ≤ 1000 := Int32.le_trans a2.2.1.2 (by decide)
  have FE : y_fd h (pg + 3) pt S fm = x_fd (vA h (sp + 1)) (vI h sp 1) (vA h (pg + 3 + 1)) (vA h (pg + 3 + 2)) (x_tk h (pg + 3)) (vI h pt 2) (vI h pt 4) (vI h pt 5) (vI h pt 3) (vI h pt 1) (vI h pt 0) fm := by
    unfold y_fd
    rw [← tl.1]
    have z := x_fd_eq (tx := vA h (sp + 1)) (tx' := x_tl S) (n := vI h sp 1) (ae := vI h pt 1) (ab := vI h pt 0) (fm := fm) tl.2 (fun j j0 j1 => by rw [← tl.2 j j0 j1]; exact K j j0 j1) W n0 n1 f0 PE
    rw [Int32.add_zero, Int32.add_zero, Int32.add_zero, Int32.add_zero] at z
    exact z
  have F := y_fi (N := N) (v0 := e + 9) (it := pg + 3) (pt := pt) (tr := sp) (fm := fm) (fr := vI h pt 2) (s1 := vI h pt 4) (s2 := vI h pt 5) (to := vI h pt 3) (g := vI h pt 6) (ae := vI h pt 1) (ab := vI h pt 0) T ly.2.2.2.2.2.2 (e_Prog_1 T kp) ks.1 (by omega) (by omega) (by omega) ⟨n0, n1⟩ g3 q1 ⟨by lia, by lia⟩ ⟨by lia, by lia⟩ (by lia) ⟨rfl, rfl, rfl, rfl, rfl, rfl, rfl⟩ W f0
  refine qi_mono F ?_
  rintro r ⟨π', T', ep, fr, R⟩
  refine ⟨π', y_S_m s T' ep fr, fr, ?_⟩
  rw [FE]
  rcases R with ⟨r1, r2⟩ | ⟨r1, st, a, b, t, gb, ge, r2, r3, r4, r5, r6, r7⟩
  · exact Or.inl ⟨r1, x_fd_n r2⟩
  · have gk := x_fye_gk W n0 n1 f0 r2
    rw [tl.1] at gk
    exact Or.inr ⟨r1, st, t, gb, ge, x_fd_s r2, ⟨gk.2.1, gk.2.2, gk.1.1.2⟩, gk.1, r5, r4, r6, r7⟩
/-- whether an address fits -/
noncomputable def y_ft (h : z_H) (it ad : Nat) (S : List Int32) (rd lc : Int32) : Int32 := if vI h ad 1 = 0 then (if rd = vI h ad 2 then 1 else 0) else if vI h ad 1 = 1 then (if rd = lc then 1 else 0) else (match y_fd h it (ad + 1) S 0 with | none => 0 | some _ => 1)
theorem y_ft01 {it ad : Nat} : y_ft h it ad S rd lc = 0 ∨ y_ft h it ad S rd lc = 1 := by
  unfold y_ft
  by_cases c : vI h ad 1 = 0
  · rw [if_pos c]
    by_cases c1 : rd = vI h ad 2
    · rw [if_pos c1]; exact Or.inr rfl
    · rw [if_neg c1]; exact Or.inl rfl
  · rw [if_neg c]
    by_cases c1 : vI h ad 1 = 1
    · rw [if_pos c1]
      by_cases c2 : rd = lc
      · rw [if_pos c2]; exact Or.inr rfl
      · rw [if_neg c2]; exact Or.inl rfl
    · rw [if_neg c1]
      cases y_fd h it (ad + 1) S 0 with
      | none => exact Or.inl rfl
      | some _ => exact Or.inr rfl
theorem y_ftc {ad : Nat} (hpg : e + 16 ≤ pg) (had : pg + 9 ≤ ad) (ly : y_L L e) (kp : qκ L pg = 10) (ka : qκ L ad = 1) (s : y_S L e pg ln π h sp ho dr O S H A) (hr : vI h e 3 = rd) (hl : vI h e 12 = lc) (P : ¬ vI h ad 1 = 0 → ¬ vI h ad 1 = 1 → y_PP h (pg + 3) (ad + 1)) : qi (f_Ed_fits N e ad h) (fun r => r.1 = y_ft h (pg + 3) ad S rd lc ∧ ∃ π', y_S L e pg ln π' r.2 sp ho dr O S H A ∧ ∀ a, a < e + 9 ∨ e + 9 + 4 < a → r.2 a = h a) := by
  obtain ⟨⟨T, p1, p2, p3, p4, p5⟩, d, a1, a2, a3, a4, a5⟩ := id s
  unfold f_Ed_fits y_ft
  refine l_gI (e := vI h ad 1) rfl ?_
  refine qi_if (fun c => ?_) (fun c => ?_)
  · rw [if_pos c]
    refine l_gI (e := rd) hr (l_gI (e := vI h ad 2) rfl ?_)
    refine qi_if (fun c1 => ?_) (fun c1 => ?_)
    · rw [if_pos c1]; exact qi_some ⟨rfl, π, s, fun _ _ => rfl⟩
    · rw [if_neg c1]; exact qi_some ⟨rfl, π, s, fun _ _ => rfl⟩
  · rw [if_neg c]
    refine qi_if (fun c1 => ?_) (fun c1 => ?_)
    · rw [if_pos c1]
      refine l_gI (e := rd) hr (l_gI (e := lc) hl ?_)
      refine qi_if (fun c2 => ?_) (fun c2 => ?_)
      · rw [if_pos c2]; exact qi_some ⟨rfl, π, s, fun _ _ => rfl⟩
      · rw [if_neg c2]; exact qi_some ⟨rfl, π, s, fun _ _ => rfl⟩
    · rw [if_neg c1]
      refine l_gR T (d_Ed_8 T ly.1) (l_gR T p4 (l_gR T (d_Prog_1 T kp) (l_gR T (d_Addr_0 T ka) (l_gR T p1 (l_gO (qi_b (y_sF (N := N) hpg (by omega) ly kp s (P c c1) (by decide)) ?_))))))
      rintro ⟨y, h2⟩ ⟨π', s2, fr, ⟨q1, q2⟩ | ⟨q1, st, t, gb, ge, q2, -⟩⟩
      · dsimp only at s2 fr q1 ⊢
        rw [q1, q2]
        exact qi_zB (fun _ => qi_some ⟨rfl, π', s2, fr⟩)
      · dsimp only at s2 fr q1 ⊢
        rw [q1, q2]
        exact qi_zB (fun _ => qi_some ⟨rfl, π', s2, fr⟩)
end Y8
