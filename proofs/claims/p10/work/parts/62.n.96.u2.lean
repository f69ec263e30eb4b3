/-! class and reference: one pattern, found alike -/
theorem x_wf_sh {kd gp kd' gp' : Int32 → Int32} {b : Int32} : ∀ (c : Nat) (i o l : Int32), (∀ k : Nat, k < c → kd' (b + (i + Int32.ofNat k)) = kd (i + Int32.ofNat k) ∧ (¬ kd (i + Int32.ofNat k) = 0 → gp' (b + (i + Int32.ofNat k)) = gp (i + Int32.ofNat k))) → (x_wf kd' gp' c (b + i) o l ↔ x_wf kd gp c i o l) ∧ x_oc kd' c (b + i) o l = x_oc kd c i o l := by
  intro c
  induction c with
  | zero => intro i o l _; exact ⟨Iff.rfl, rfl⟩
  | succ c ih =>
    intro i o l H
    have h0 := H 0 (by omega)
    rw [show i + Int32.ofNat 0 = i from Int32.add_zero i] at h0
    have ih' := fun o l => ih (i + 1) o l (fun k hk => by have q := H (k + 1) (by omega); rw [x_io1] at q; exact q)
    rw [x_wf, x_wf, x_oc, x_oc, h0.1, Int32.add_assoc, (ih' (o + 1) l).1, (ih' o o).1, (ih' o l).1, (ih' (o + 1) l).2, (ih' o o).2, (ih' o l).2]
    refine ⟨?_, rfl⟩
    by_cases k1 : kd i = 1
    · rw [h0.2 (by rw [k1]; decide)]
    · by_cases k2 : kd i = 2
      · rw [h0.2 (by rw [k2]; decide)]
      · by_cases k3 : kd i = 3
        · rw [h0.2 (by rw [k3]; decide)]
        · constructor
          · rintro ⟨w0, -, -, -, w4⟩
            exact ⟨w0, fun z => absurd z k1, fun z => absurd z k2, fun z => absurd z k3, w4⟩
          · rintro ⟨w0, -, -, -, w4⟩
            exact ⟨w0, fun z => absurd z k1, fun z => absurd z k2, fun z => absurd z k3, w4⟩
theorem x_wfs {kd gp kd' gp' : Int32 → Int32} {b m : Int32} (m0 : 0 ≤ m) (H : ∀ j, 0 ≤ j → j < m → kd' (b + j) = kd j ∧ (¬ kd j = 0 → gp' (b + j) = gp j)) : (x_wf kd' gp' (x_ct b (b + m)) b 0 0 ↔ x_wf kd gp (x_ct 0 m) 0 0 0) ∧ x_oc kd' (x_ct b (b + m)) b 0 0 = x_oc kd (x_ct 0 m) 0 0 0 := by
  have e : x_ct b (b + m) = x_ct 0 m := by
    unfold x_ct
    rw [show b + m - b = m - 0 from by grind]
  have q := x_wf_sh (kd := kd) (gp := gp) (kd' := kd') (gp' := gp') (b := b) (x_ct 0 m) 0 0 0 (fun k hk => by
    have z := x_ct_i m0 (Int32.le_refl 0) hk
    exact H _ z.1 z.2)
  rw [Int32.add_zero] at q
  rw [e]
  exact q
section U2
variable {h h0 : z_H} {it pt v0 : Nat} {b b' q rp : Int32} {A : x_PS}
theorem x_zz (W : c_WF A 0 rp) : (0 ≤ x_z1 A ∧ x_z1 A ≤ x_z2 A ∧ x_z2 A ≤ xi A) ∧ (x_z1 A < x_z2 A ∨ x_z1 A = xi A) ∧ (x_z1 A < xi A → xk A (x_z1 A) = 0) ∧ (x_z2 A < xi A → xk A (x_z2 A) = 0) ∧ (∀ j, 0 ≤ j → j < xi A → (x_str A j ↔ j = x_z1 A ∨ j = x_z2 A)) := by
  obtain ⟨-, -, ⟨n0, n2⟩, ⟨i0, i1⟩, sa, sb, -, -⟩ := W
  unfold x_z1 x_z2 x_str
  by_cases e0 : xn A = 0
  · have e2 : ¬ xn A = 2 := by rw [e0]; decide
    rw [if_pos e0, if_neg e2]
    refine ⟨⟨i0, Int32.le_refl _, Int32.le_refl _⟩, Or.inr rfl, fun z => absurd z Int32.lt_irrefl, fun z => absurd z Int32.lt_irrefl, fun j j0 j1 => ⟨?_, ?_⟩⟩
    · rintro (⟨z, -⟩ | ⟨z, -⟩)
      · exact absurd e0 z
      · exact absurd z e2
    · rintro (z | z) <;> exact absurd (z ▸ j1) Int32.lt_irrefl
  · obtain ⟨a0, a1, a2⟩ := sa e0
    rw [if_neg e0]
    by_cases e2 : xn A = 2
    · obtain ⟨b0, b1, b2⟩ := sb e2
      rw [if_pos e2]
      refine ⟨⟨a0, Int32.le_of_lt b0, Int32.le_of_lt b1⟩, Or.inl b0, fun _ => a2, fun _ => b2, fun j j0 j1 => ⟨?_, ?_⟩⟩
      · rintro (⟨-, z⟩ | ⟨-, z⟩)
        · exact Or.inl z
        · exact Or.inr z
      · rintro (z | z)
        · exact Or.inl ⟨e0, z⟩
        · exact Or.inr ⟨e2, z⟩
    · rw [if_neg e2]
      refine ⟨⟨a0, Int32.le_of_lt a1, Int32.le_refl _⟩, Or.inl a1, fun _ => a2, fun z => absurd z Int32.lt_irrefl, fun j j0 j1 => ⟨?_, ?_⟩⟩
      · rintro (⟨-, z⟩ | ⟨z, -⟩)
        · exact Or.inl z
        · exact absurd z e2
      · rintro (z | z)
        · exact Or.inl ⟨e0, z⟩
        · exact absurd (z ▸ j1) Int32.lt_irrefl
theorem x_sh {i b m : Int32} (b0 : 0 ≤ b) (b1 : b ≤ 1000) (m0 : 0 ≤ m) (m1 : m ≤ 1000) (h1 : b ≤ i) (h2 : i < b + m) : ∃ j, 0 ≤ j ∧ j < m ∧ i = b + j := ⟨i - b, by lia, by lia, by lia⟩
theorem y_PP_of (C : c_PF h it pt b A) (W : c_WF A 0 rp) (s : b + xi A ≤ 240) : y_PP h it pt := by
  obtain ⟨⟨z1, z2, z3⟩, z4, z5, z6, -⟩ := x_zz W
  obtain ⟨⟨g6, e1, e2, e3, e4, e5⟩, ⟨b0, i0, i1, b1⟩, I⟩ := C
  obtain ⟨⟨w, oc⟩, ⟨g0, g3, -⟩, -, -, -, -, -, kk⟩ := W
  have ws := x_wfs (b := b) i0 (fun j j0 j1 => ⟨(I j j0 j1).1, (I j j0 j1).2.1⟩)
  have k1 : b + x_z1 A < b + xi A → vA h (it + 1) (b + x_z1 A) = 0 := fun z => by
    have l : x_z1 A < xi A := by lia
    rw [(I _ z1 l).1]; exact z5 l
  have k2 : b + x_z2 A < b + xi A → vA h (it + 1) (b + x_z2 A) = 0 := fun z => by
    have l : x_z2 A < xi A := by lia
    rw [(I _ (Int32.le_trans z1 z2) l).1]; exact z6 l
  unfold y_PP
  rw [g6, e2, e3, e4, e5]
  refine ⟨⟨b0, by lia, by lia, by lia, s⟩, g3, x_pw_of b0 (by lia) (by lia) (by lia) (by lia) ?_ k1 k2 (ws.1.mpr w) ?_, k1, k2, fun i h1 h2 => ?_⟩
  · rcases z4 with z | z
    · exact Or.inl (by lia)
    · exact Or.inr (by rw [z])
  · rw [ws.2, oc, if_pos rfl]
  · obtain ⟨j, j0, j1, e⟩ := x_sh b0 b1 i0 i1 h1 h2
    rw [e, (I j j0 j1).1]
    exact kk j j0 j1
theorem r_PP_of (R : r_PF h v0 q b A) (W : c_WF A 0 rp) (s : b + xi A ≤ 1000) : r_PP h v0 q (b + x_z1 A) (b + x_z2 A) (xg A) := by
  obtain ⟨⟨z1, z2, z3⟩, z4, z5, z6, z7⟩ := x_zz W
  obtain ⟨⟨g6, e1, e2, e3⟩, ⟨b0, i0, i1, b1⟩, I⟩ := R
  obtain ⟨⟨w, oc⟩, ⟨g0, g3, -⟩, -, -, -, -, -, kk⟩ := W
  have ws := x_wfs (kd' := r_kd (vA h (v0 + 26))) (gp' := vA h (v0 + 27)) (b := b) i0 (fun j j0 j1 => ⟨(I j j0 j1).1, (I j j0 j1).2.1⟩)
  have y1 : 0 ≤ x_z2 A := Int32.le_trans z1 z2
  unfold r_PP
  rw [e2, e3]
  refine ⟨⟨⟨b0, by lia, by lia, by lia, s⟩, ?_, fun i h1 h2 n1 n2 => ?_, fun z => ?_, fun z => ?_⟩, ws.1.mpr w, ?_, g3⟩
  · rcases z4 with z | z
    · exact Or.inl (by lia)
    · exact Or.inr (by rw [z])
  · obtain ⟨j, j0, j1, e⟩ := x_sh b0 b1 i0 i1 h1 h2
    by_cases c : vA h (v0 + 29) i = 0
    · exact c
    · exfalso
      rw [e] at c
      rcases (z7 j j0 j1).mp ((I j j0 j1).2.2.2.mp c) with y | y
      · exact n1 (by rw [e, y])
      · exact n2 (by rw [e, y])
  · have l : x_z1 A < xi A := by lia
    exact ⟨by rw [(I _ z1 l).1]; exact z5 l, (I _ z1 l).2.2.2.mpr ((z7 _ z1 l).mpr (Or.inl rfl))⟩
  · have l : x_z2 A < xi A := by lia
    exact ⟨by rw [(I _ y1 l).1]; exact z6 l, (I _ y1 l).2.2.2.mpr ((z7 _ y1 l).mpr (Or.inr rfl))⟩
  · rw [ws.2, oc, if_pos rfl]
theorem x_n8b {S : List Int32} (l : S.length ≤ 60) : 0 ≤ x_nl8 S ∧ x_nl8 S ≤ 60 := by
  have e : (Int32.ofNat S.length).toInt = S.length := Int32.toInt_ofNat_of_lt (by omega)
  have z0 : (0 : Int32).toInt = 0 := rfl
  have z6 : (60 : Int32).toInt = 60 := rfl
  unfold x_nl8
  exact ⟨Int32.le_iff_toInt_le.mpr (by omega), Int32.le_iff_toInt_le.mpr (by omega)⟩
theorem x_n8k {S : List Int32} (l : S.length ≤ 60) (kt : x_kt S) : ∀ j, 0 ≤ j → j < x_nl8 S → x_kc (x_tl S j) := by
  intro j j0 j1
  have e : (Int32.ofNat S.length).toInt = S.length := Int32.toInt_ofNat_of_lt (by omega)
  have z0 : (0 : Int32).toInt = 0 := rfl
  have a0 := Int32.le_iff_toInt_le.mp j0
  have a1 := Int32.lt_iff_toInt_lt.mp j1
  unfold x_nl8 at a1
  have lt : j.toNatClampNeg < S.length := by
    show j.toInt.toNat < _
    omega
  unfold x_tl
  rw [List.getD_eq_getElem?_getD, List.getElem?_eq_getElem lt]
  exact kt _ (List.getElem_mem lt)
end U2
section U2b
variable {L : q_L} {π : Nat → Nat → Option Nat} {W : Nat → Prop} {h h0 : z_H} {it pt v0 : Nat} {b b' q rp ab fm : Int32} {A : x_PS} {S : List Int32}
/-- both find the same -/
theorem x_fdl (T : q_U L W h0 π h) (k : qκ L it = 5) (M : q_M L π v0) (C : c_PF h it pt b A) (cab : vI h pt 0 = ab) (R : r_PF h v0 q b' A) (rab : vA h (v0 + 30) q = ab) (WF : c_WF A 0 rp) (s : b + xi A ≤ 240) (s' : b' + xi A ≤ 520) (kt : x_kt S) (l60 : S.length ≤ 60) (f0 : 0 ≤ fm) : y_fd h it pt S fm = r_fd h v0 q (b' + x_z1 A) (b' + x_z2 A) S fm := by
  have Y := y_PP_of C WF s
  obtain ⟨⟨z1, z2, z3⟩, z4, z5, z6, z7⟩ := x_zz WF
  have C' := C
  have R' := R
  obtain ⟨⟨g6, e1, e2, e3, e4, e5⟩, ⟨b0, i0, i1, b1⟩, I⟩ := C'
  obtain ⟨⟨r6, r1, r2, r3⟩, ⟨d0, -, -, d1⟩, J⟩ := R'
  unfold y_PP at Y
  rw [g6, e2, e3, e4, e5] at Y
  obtain ⟨Y1, Y2, Y3, Y4, Y5, Y6⟩ := Y
  have n8 := x_n8b l60
  have PE : x_PE (vA h (it + 1)) (vA h (it + 2)) (x_tk h it) (r_kd (vA h (v0 + 26))) (vA h (v0 + 27)) (x_tf h v0) b (b + x_z1 A) (b + x_z2 A) (b + xi A) (b' - b) := by
    refine ⟨⟨b0, Y1.2.1, Y1.2.2.1, Y1.2.2.2.1, by lia, by lia, by lia⟩, Y4, Y5, fun i h1 h2 => ?_⟩
    obtain ⟨j, j0, j1, e⟩ := x_sh b0 b1 i0 i1 h1 h2
    have e' : i + (b' - b) = b' + j := by rw [e]; lia
    rw [e', e]
    obtain ⟨I1, I2, I3⟩ := I j j0 j1
    obtain ⟨J1, J2, J3, -⟩ := J j j0 j1
    rw [J1, I1]
    refine ⟨rfl, fun z => (J2 z).trans (I2 z).symm, ?_, fun z c kc => ?_⟩
    · have w := Y6 i h1 h2
      rw [e, I1] at w
      exact w
    · rw [x_tf_v T M (by lia) (by lia) kc, x_tk_v T k (by lia) (by lia) kc, J3 z c kc, I3 z c kc]
  have E := x_fd_eq (tx := x_tl S) (tx' := x_tl S) (n := x_nl8 S) (ae := xe A) (ab := ab) (fm := fm) (fun _ _ _ => rfl) (x_n8k l60 kt) Y3 n8.1 (Int32.le_trans n8.2 (by decide)) f0 PE
  unfold y_fd r_fd
  rw [e1, e2, e3, e4, e5, cab, r1, r2, r3, rab]
  rw [show b + (b' - b) = b' by lia, show b + x_z1 A + (b' - b) = b' + x_z1 A by lia, show b + x_z2 A + (b' - b) = b' + x_z2 A by lia, show b + xi A + (b' - b) = b' + xi A by lia] at E
  exact E.symm
end U2b
