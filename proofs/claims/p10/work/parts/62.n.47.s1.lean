/-! reference: whether a command is done -/
section S1
variable {L : q_L} {π : Nat → Nat → Option Nat} {N v0 : Nat} {h h1 : z_H} {O S H A : List Int32} {LN : Int32 → List Int32} {lc rd cy rp sm nx : Int32}
theorem x_dne0 {inv ir f1 f2 rc : Int32} (i01 : inv = 0 ∨ inv = 1) : x_dne 0 inv ir f1 f2 rc = (if inv = 0 then 1 else 0, ir, 1) := by
  unfold x_dne
  rw [if_neg (by decide), if_neg (by decide)]
  rcases i01 with z | z
  · rw [z]; rfl
  · rw [z]; rfl
theorem x_dne1 {inv ir f1 f2 rc : Int32} : x_dne 1 inv ir f1 f2 rc = (if f1 = inv then 0 else 1, ir, 1) := by
  unfold x_dne
  rw [if_pos rfl]
theorem x_dne2 {inv ir f1 f2 rc : Int32} (c : ir = 0) : x_dne 2 inv ir f1 f2 rc = (if f1 = inv then 0 else 1, if f1 = 0 then 0 else if rc = 0 then 1 else 0, if inv = 0 then rc else 1) := by
  unfold x_dne
  rw [if_neg (by decide), if_pos rfl, if_pos c]
theorem x_dne3 {inv ir f1 f2 rc : Int32} (c : ¬ ir = 0) (i01 : inv = 0 ∨ inv = 1) : x_dne 2 inv ir f1 f2 rc = (if inv = 0 then 1 else 0, if rc = 0 then (if f2 = 0 then 1 else 0) else 0, if inv = 0 then (if rc = 0 then f2 else 1) else 1) := by
  unfold x_dne
  rw [if_neg (by decide), if_pos rfl, if_neg c]
  rcases i01 with z | z
  · rw [z]; rfl
  · rw [z]; rfl
/-- a command in range -/
theorem r_d135 {q k v : Int32} (s : r_S L π v0 h1 O S H A) (i01 : vA h (v0 + 16) q = 0 ∨ vA h (v0 + 16) q = 1) (n2 : ¬ vA h (v0 + 7) q = 0) (F : ∀ a, ¬ (v0 + 36 ≤ a ∧ a ≤ v0 + 38) → a ≠ v0 → h1 a = h a) (I : ∀ k, ¬ (54 ≤ k ∧ k ≤ 57) → k ≠ 75 → vI h1 v0 k = vI h v0 k) (v01 : v = 0 ∨ v = 1) : qi (f_Mod_isDone_135 N v0 q k v h1) (r_DN L π v0 q k h O S H A (if vA h (v0 + 16) q = 0 then 1 else 0, if v = 0 then 1 else 0, if vA h (v0 + 16) q = 0 then v else 1)) := by
  obtain ⟨⟨T, M⟩, -⟩ := id s
  have W : ∀ w : Int32, (w = if v = 0 then 1 else 0) → qi (f_Mod_isDone_150 N v0 q v (v0 + 45) k w h1) (r_DN L π v0 q k h O S H A (if vA h (v0 + 16) q = 0 then 1 else 0, if v = 0 then 1 else 0, if vA h (v0 + 16) q = 0 then v else 1)) := by
    intro w ew
    unfold f_Mod_isDone_150
    refine l_uIc T ?_
    intro h2 T2 j2 c2 u2
    refine qi_zB (fun _ => l_sIc T2 M.1 (by decide) rfl ?_)
    intro h3 T3 c3 u3
    have F3 : ∀ a, ¬ (v0 + 36 ≤ a ∧ a ≤ v0 + 38) → a ≠ v0 → a ≠ v0 + 45 → h3 a = h a := fun a a1 a2 a3 => (c3 a a2).trans ((c2 a a3).trans (F a a1 a2))
    have I3 : ∀ k, ¬ (54 ≤ k ∧ k ≤ 57) → k ≠ 75 → vI h3 v0 k = vI h v0 k := fun k k1 k2 => by rw [u3 k, if_neg k2, x_vI_c (c2 v0 (by omega)), I k k1 k2]
    have s3 : r_S L π v0 h3 O S H A := r_S_G s T3 (fun a a1 a2 a3 => (c3 a a2).trans (c2 a a3)) (fun k k1 k2 => by rw [u3 k, if_neg k2, x_vI_c (c2 v0 (by omega))])
    have e75 : vI h3 v0 75 = v := by rw [u3 75, if_pos rfl]
    have nw : vp_nar .boolean w = w := by
      rcases v01 with z | z
      · rw [if_pos z] at ew; rw [ew]; rfl
      · rw [if_neg (by rw [z]; decide)] at ew; rw [ew]; rfl
    have AC : ∀ j, 0 ≤ j → vA h3 (v0 + 45) j = if j = k then (if v = 0 then 1 else 0) else vA h (v0 + 45) j := fun j j0 => by
      rw [x_vA_c (c3 (v0 + 45) (by omega)), u2 j j0, nw, ew, x_vA_c (F (v0 + 45) (by omega) (by omega))]
    refine l_gR T3 (d_Mo_21 M) (l_aI (e := vA h (v0 + 16) q) (fun _ => by rw [x_vA_c (F3 (v0 + 16) (by omega) (by omega) (by omega))]) (fun _ => ?_))
    refine qi_if (fun c => ?_) (fun c => ?_)
    · rw [if_pos c, if_pos c]
      refine qi_some ⟨rfl, s3, F3, I3, AC, fun _ => ⟨fun z w => ?_, fun z => ?_⟩⟩
      · rcases w with w | w | w
        · exact n2 w
        · exact w c
        · exact w (e75.trans z)
      · exact Or.inr (Or.inr (fun w => z (e75.symm.trans w)))
    · rw [if_neg c, if_neg c]
      exact qi_some ⟨rfl, s3, F3, I3, AC, fun z => absurd rfl z⟩
  unfold f_Mod_isDone_135
  refine l_gR T (d_Mo_64 M) ?_
  refine qi_if (fun c => W 1 (by rw [if_pos c])) (fun c => W 0 (by rw [if_neg c]))
/-- a command out of range -/
theorem r_d221 {q k f rc : Int32} (s : r_S L π v0 h1 O S H A) (i01 : vA h (v0 + 16) q = 0 ∨ vA h (v0 + 16) q = 1) (n2 : ¬ vA h (v0 + 7) q = 0) (F : ∀ a, ¬ (v0 + 36 ≤ a ∧ a ≤ v0 + 38) → a ≠ v0 → h1 a = h a) (I : ∀ k, ¬ (54 ≤ k ∧ k ≤ 57) → k ≠ 75 → vI h1 v0 k = vI h v0 k) (f01 : f = 0 ∨ f = 1) (r01 : rc = 0 ∨ rc = 1) {w : Int32} (ew : w = if f = 0 then 0 else rc) : qi (f_Mod_isDone_221 N v0 q k f v0 w h1) (r_DN L π v0 q k h O S H A (if f = vA h (v0 + 16) q then 0 else 1, if f = 0 then 0 else if rc = 0 then 1 else 0, if vA h (v0 + 16) q = 0 then rc else 1)) := by
  obtain ⟨⟨T, M⟩, -⟩ := id s
  unfold f_Mod_isDone_221
  refine qi_zB (fun _ => l_sIc T M.1 (by decide) rfl ?_)
  intro h2 T2 c2 u2
  have s2 : r_S L π v0 h2 O S H A := r_S_G s T2 (fun a a1 a2 a3 => c2 a a2) (fun k k1 k2 => by rw [u2 k, if_neg k2])
  have e75 : vI h2 v0 75 = w := by rw [u2 75, if_pos rfl]
  have W : ∀ x : Int32, (x = if f = 0 then 0 else if rc = 0 then 1 else 0) → qi (f_Mod_isDone_245 N v0 q f (v0 + 45) k x h2) (r_DN L π v0 q k h O S H A (if f = vA h (v0 + 16) q then 0 else 1, if f = 0 then 0 else if rc = 0 then 1 else 0, if vA h (v0 + 16) q = 0 then rc else 1)) := by
    intro x ex
    unfold f_Mod_isDone_245
    refine l_uIc T2 ?_
    intro h3 T3 j3 c3 u3
    have F3 : ∀ a, ¬ (v0 + 36 ≤ a ∧ a ≤ v0 + 38) → a ≠ v0 → a ≠ v0 + 45 → h3 a = h a := fun a a1 a2 a3 => (c3 a a3).trans ((c2 a a2).trans (F a a1 a2))
    have I3 : ∀ k, ¬ (54 ≤ k ∧ k ≤ 57) → k ≠ 75 → vI h3 v0 k = vI h v0 k := fun k k1 k2 => by rw [x_vI_c (c3 v0 (by omega)), u2 k, if_neg k2, I k k1 k2]
    have s3 : r_S L π v0 h3 O S H A := r_S_G s2 T3 (fun a a1 a2 a3 => c3 a a3) (fun k k1 k2 => x_vI_c (c3 v0 (by omega)))
    have e75' : vI h3 v0 75 = w := by rw [x_vI_c (c3 v0 (by omega)), e75]
    have nx : vp_nar .boolean x = x := by
      have x01 : x = 0 ∨ x = 1 := by
        rw [ex]
        by_cases z : f = 0
        · rw [if_pos z]; exact Or.inl rfl
        · rw [if_neg z]
          by_cases z' : rc = 0
          · rw [if_pos z']; exact Or.inr rfl
          · rw [if_neg z']; exact Or.inl rfl
      rcases x01 with z | z
      · rw [z]; rfl
      · rw [z]; rfl
    have AC : ∀ j, 0 ≤ j → vA h3 (v0 + 45) j = if j = k then (if f = 0 then 0 else if rc = 0 then 1 else 0) else vA h (v0 + 45) j := fun j j0 => by
      rw [u3 j j0, nx, ex, x_vA_c (c2 (v0 + 45) (by omega)), x_vA_c (F (v0 + 45) (by omega) (by omega))]
    refine l_gR T3 (d_Mo_21 M) (l_aI (e := vA h (v0 + 16) q) (fun _ => by rw [x_vA_c (F3 (v0 + 16) (by omega) (by omega) (by omega))]) (fun _ => ?_))
    refine qi_if (fun c => ?_) (fun c => ?_)
    · rw [if_pos c]
      exact qi_some ⟨rfl, s3, F3, I3, AC, fun z => absurd rfl z⟩
    · rw [if_neg c]
      refine qi_some ⟨rfl, s3, F3, I3, AC, fun _ => ⟨fun z y => ?_, fun z => ?_⟩⟩
      · by_cases i0 : vA h (v0 + 16) q = 0
        · have z' : rc = 0 := by
            have t : (if vA h (v0 + 16) q = 0 then rc else 1) = 0 := z
            rw [if_pos i0] at t; exact t
          rcases y with y | y | y
          · exact n2 y
          · exact y i0
          · refine y (e75'.trans ?_)
            rw [ew, z']
            by_cases t : f = 0
            · rw [if_pos t]
            · rw [if_neg t]
        · have t : (if vA h (v0 + 16) q = 0 then rc else 1) = 0 := z
          rw [if_neg i0] at t
          exact absurd t (by decide)
      · by_cases i0 : vA h (v0 + 16) q = 0
        · have z' : ¬ rc = 0 := by
            have t : ¬ (if vA h (v0 + 16) q = 0 then rc else 1) = 0 := z
            rw [if_pos i0] at t; exact t
          refine Or.inr (Or.inr (fun y => z' ?_))
          have e := e75'.symm.trans y
          rw [ew, if_neg (fun t => c (t.trans i0.symm))] at e
          exact e
        · exact Or.inr (Or.inl i0)
  refine l_gR T2 (d_Mo_64 M) ?_
  refine qi_if (fun c => W 0 (by rw [if_pos c])) (fun c => l_gI (e := w) e75 (qi_if (fun c1 => W 1 ?_) (fun c1 => W 0 ?_)))
  · rw [ew, if_neg c] at c1
    rw [if_neg c, if_pos c1]
  · rw [ew, if_neg c] at c1
    rw [if_neg c, if_neg c1]
theorem r_rc01 {two v : Int32} : r_rc two v rd = 0 ∨ r_rc two v rd = 1 := by
  unfold r_rc
  by_cases c : two = 1
  · rw [if_pos c]
    by_cases c1 : rd < v
    · rw [if_pos c1]; exact Or.inl rfl
    · rw [if_neg c1]; exact Or.inr rfl
  · rw [if_neg c]; exact Or.inl rfl
set_option maxHeartbeats 4000000 in
theorem r_iD {q k s1 s2 g t1 t2 g' : Int32} (s : r_S L π v0 h O S H A) (ek : q - 40 * vI h v0 7 = k) (k0 : 0 ≤ k) (hr : vI h v0 70 = rd) (hl : vI h v0 4 = lc) (i01 : vA h (v0 + 16) q = 0 ∨ vA h (v0 + 16) q = 1) (P1 : ¬ vA h (v0 + 5) q = 0 → ¬ vA h (v0 + 5) q = 1 → ¬ vA h (v0 + 5) q = 2 → r_PP h v0 (vA h (v0 + 6) q) s1 s2 g) (P2 : ¬ vA h (v0 + 5) q = 0 → ¬ vA h (v0 + 7) q = 0 → ¬ vA h (v0 + 7) q = 1 → ¬ vA h (v0 + 7) q = 2 → r_PP h v0 (vA h (v0 + 8) q) t1 t2 g') : qi (f_Mod_isDone N v0 q h) (r_DN L π v0 q k h O S H A (x_dne (r_na (vA h (v0 + 5) q) (vA h (v0 + 7) q)) (vA h (v0 + 16) q) (vA h (v0 + 45) k) (r_ft h v0 (vA h (v0 + 5) q) (vA h (v0 + 6) q) s1 s2 S rd lc) (r_ft h v0 (vA h (v0 + 7) q) (vA h (v0 + 8) q) t1 t2 S rd lc) (r_rc (vA h (v0 + 7) q) (vA h (v0 + 8) q) rd))) := by
  obtain ⟨⟨T, M⟩, -⟩ := id s
  unfold f_Mod_isDone
  refine l_gI (e := vI h v0 7) rfl (qi_bs ?_)
  rw [ek]
  refine l_sIc T M.1 (by decide) rfl ?_
  intro h3 T3 c3 u3
  have s3 : r_S L π v0 h3 O S H A := r_S_G s T3 (fun a a1 a2 a3 => c3 a a2) (fun k k1 k2 => by rw [u3 k, if_neg k2])
  have X3 : r_X v0 h h3 := fun a a1 a2 => c3 a (by omega)
  have VA : ∀ a, v0 < a → vA h3 a = vA h a := fun a ha => x_vA_c (c3 a (by omega))
  have I3 : ∀ k, ¬ (54 ≤ k ∧ k ≤ 57) → k ≠ 75 → vI h3 v0 k = vI h v0 k := fun k k1 k2 => by rw [u3 k, if_neg k2]
  have e75 : vI h3 v0 75 = 1 := by rw [u3 75, if_pos rfl]
  have AJ : ∀ (h4 : z_H) (ir : Int32), h4 (v0 + 45) = h (v0 + 45) → ir = vA h (v0 + 45) k → ∀ j, 0 ≤ j → vA h4 (v0 + 45) j = if j = k then ir else vA h (v0 + 45) j := fun h4 ir e4 er j j0 => by
    rw [x_vA_c e4]
    by_cases z : j = k
    · rw [if_pos z, er, z]
    · rw [if_neg z]
  refine l_gR T3 (d_Mo_10 M) (l_aI (e := vA h (v0 + 5) q) (fun _ => by rw [VA _ (by omega)]) (fun _ => ?_))
  refine qi_if (fun c1 => ?_) (fun c1 => ?_)
  · have en : r_na (vA h (v0 + 5) q) (vA h (v0 + 7) q) = 0 := by unfold r_na; rw [if_pos c1]
    rw [en, x_dne0 i01]
    have B : ∀ z : Int32, (¬ z = 0 → ((1 : Int32) = 0 → ¬ (vA h (v0 + 7) q = 0 ∨ ¬ vA h (v0 + 16) q = 0 ∨ ¬ vI h3 v0 75 = 0)) ∧ (¬ (1 : Int32) = 0 → vA h (v0 + 7) q = 0 ∨ ¬ vA h (v0 + 16) q = 0 ∨ ¬ vI h3 v0 75 = 0)) := fun z _ => ⟨fun w => absurd w (by decide), fun _ => Or.inr (Or.inr (by rw [e75]; decide))⟩
    refine l_gR T3 (d_Mo_21 M) (l_aI (e := vA h (v0 + 16) q) (fun _ => by rw [VA _ (by omega)]) (fun _ => ?_))
    refine qi_if (fun c => ?_) (fun c => ?_)
    · rw [if_pos c]
      exact qi_some ⟨rfl, s3, fun a _ a2 _ => c3 a a2, I3, AJ h3 _ (c3 _ (by omega)) rfl, B 1⟩
    · rw [if_neg c]
      exact qi_some ⟨rfl, s3, fun a _ a2 _ => c3 a a2, I3, AJ h3 _ (c3 _ (by omega)) rfl, B 0⟩
  · refine l_gR T3 (d_Mo_12 M) (l_aI (e := vA h (v0 + 7) q) (fun _ => by rw [VA _ (by omega)]) (fun _ => ?_))
    have FA : qi (f_Mod_fitsAddress N v0 (vA h (v0 + 5) q) (vA h (v0 + 6) q) h3) (fun r => r.1 = r_ft h v0 (vA h (v0 + 5) q) (vA h (v0 + 6) q) s1 s2 S rd lc ∧ r_S L π v0 r.2 O S H A ∧ r_G v0 h3 r.2) := by
      have t := r_fA (N := N) (kd := vA h (v0 + 5) q) (v := vA h (v0 + 6) q) (s1 := s1) (s2 := s2) (g := g) (rd := rd) (lc := lc) s3 (by rw [I3 70 (by omega) (by omega), hr]) (by rw [I3 4 (by omega) (by omega), hl]) (fun z1 z2 => r_PP_x X3 (P1 c1 z1 z2))
      rw [r_ft_x M T T3 X3] at t
      exact t
    refine qi_if (fun c2 => ?_) (fun c2 => ?_)
    · have en : r_na (vA h (v0 + 5) q) (vA h (v0 + 7) q) = 1 := by unfold r_na; rw [if_neg c1, if_pos c2]
      rw [en, x_dne1]
      refine l_gR T3 (d_Mo_10 M) (l_aI (e := vA h (v0 + 5) q) (fun _ => by rw [VA _ (by omega)]) (fun _ => l_gR T3 (d_Mo_11 M) (l_aI (e := vA h (v0 + 6) q) (fun _ => by rw [VA _ (by omega)]) (fun _ => l_gO (qi_b FA ?_)))))
      rintro ⟨y, h4⟩ ⟨ey, s4, G4⟩
      dsimp only at ey s4 G4 ⊢
      have F4 : ∀ a, ¬ (v0 + 36 ≤ a ∧ a ≤ v0 + 38) → a ≠ v0 → a ≠ v0 + 45 → h4 a = h a := fun a a1 a2 _ => (G4.1 a a1 a2).trans (c3 a a2)
      have I4 : ∀ k, ¬ (54 ≤ k ∧ k ≤ 57) → k ≠ 75 → vI h4 v0 k = vI h v0 k := fun k k1 k2 => (G4.2 k k1).trans (I3 k k1 k2)
      have e45 : h4 (v0 + 45) = h (v0 + 45) := (G4.1 _ (by omega) (by omega)).trans (c3 _ (by omega))
      refine l_gR s4.1.1 (d_Mo_21 M) (l_aI (e := vA h (v0 + 16) q) (fun _ => by rw [x_vA_c (F4 _ (by omega) (by omega) (by omega))]) (fun _ => ?_))
      rw [ey]
      refine qi_if (fun c => ?_) (fun c => ?_)
      · rw [if_pos c]
        exact qi_some ⟨rfl, s4, F4, I4, AJ h4 _ e45 rfl, fun z => absurd rfl z⟩
      · rw [if_neg c]
        exact qi_some ⟨rfl, s4, F4, I4, AJ h4 _ e45 rfl, fun _ => ⟨fun w => absurd (show (1 : Int32) = 0 from w) (by decide), fun _ => Or.inl c2⟩⟩
    · have en : r_na (vA h (v0 + 5) q) (vA h (v0 + 7) q) = 2 := by unfold r_na; rw [if_neg c1, if_neg c2]
      rw [en]
      refine l_gR T3 (d_Mo_64 M) (l_aI (e := vA h (v0 + 45) k) (fun _ => by rw [VA _ (by omega)]) (fun _ => ?_))
      refine qi_if (fun c3' => ?_) (fun c3' => ?_)
      · rw [x_dne2 c3']
        refine l_gR T3 (d_Mo_10 M) (l_aI (e := vA h (v0 + 5) q) (fun _ => by rw [VA _ (by omega)]) (fun _ => l_gR T3 (d_Mo_11 M) (l_aI (e := vA h (v0 + 6) q) (fun _ => by rw [VA _ (by omega)]) (fun _ => l_gO (qi_b FA ?_)))))
        rintro ⟨y, h4⟩ ⟨ey, s4, G4⟩
        dsimp only at ey s4 G4 ⊢
        have F4 : ∀ a, ¬ (v0 + 36 ≤ a ∧ a ≤ v0 + 38) → a ≠ v0 → h4 a = h a := fun a a1 a2 => (G4.1 a a1 a2).trans (c3 a a2)
        have I4 : ∀ k, ¬ (54 ≤ k ∧ k ≤ 57) → k ≠ 75 → vI h4 v0 k = vI h v0 k := fun k k1 k2 => (G4.2 k k1).trans (I3 k k1 k2)
        have f01 : y = 0 ∨ y = 1 := by rw [ey]; exact r_ft01
        have V4 : ∀ a, v0 < a → a < v0 + 36 → vA h4 a = vA h a := fun a a1 a2 => x_vA_c (F4 a (by omega) (by omega))
        refine qi_bs ?_
        rw [← ey]
        refine qi_if (fun c4 => r_d221 (N := N) s4 i01 c2 F4 I4 f01 r_rc01 (by rw [if_pos c4])) (fun c4 => ?_)
        refine l_gR s4.1.1 (d_Mo_12 M) (l_aI (e := vA h (v0 + 7) q) (fun _ => by rw [V4 _ (by omega) (by omega)]) (fun _ => ?_))
        refine qi_if (fun c5 => ?_) (fun c5 => ?_)
        · refine l_gR s4.1.1 (d_Mo_13 M) (l_aI (e := vA h (v0 + 8) q) (fun _ => by rw [V4 _ (by omega) (by omega)]) (fun _ => l_gI (e := rd) (by rw [I4 70 (by omega) (by omega), hr]) ?_))
          refine qi_if (fun c6 => ?_) (fun c6 => ?_)
          · exact r_d221 (N := N) s4 i01 c2 F4 I4 f01 r_rc01 (by unfold r_rc; rw [if_neg c4, if_pos c5, if_pos c6])
          · exact r_d221 (N := N) s4 i01 c2 F4 I4 f01 r_rc01 (by unfold r_rc; rw [if_neg c4, if_pos c5, if_neg c6])
        · exact r_d221 (N := N) s4 i01 c2 F4 I4 f01 r_rc01 (by unfold r_rc; rw [if_neg c4, if_neg c5])
      · rw [x_dne3 c3' i01]
        have V3 : ∀ v f : Int32, (v = 0 ∨ v = 1) → (v = if r_rc (vA h (v0 + 7) q) (vA h (v0 + 8) q) rd = 0 then f else 1) → f = 0 ∨ f = 1 → ((if r_rc (vA h (v0 + 7) q) (vA h (v0 + 8) q) rd = 0 then (if f = 0 then 1 else 0) else 0) = if v = 0 then (1 : Int32) else 0) ∧ (if r_rc (vA h (v0 + 7) q) (vA h (v0 + 8) q) rd = 0 then f else 1) = v := by
          intro v f v01 ev f01
          refine ⟨?_, ev.symm⟩
          by_cases z : r_rc (vA h (v0 + 7) q) (vA h (v0 + 8) q) rd = 0
          · rw [if_pos z] at ev ⊢
            rw [ev]
          · rw [if_neg z] at ev ⊢
            rw [ev]; rfl
        have F3 : ∀ a, ¬ (v0 + 36 ≤ a ∧ a ≤ v0 + 38) → a ≠ v0 → h3 a = h a := fun a _ a2 => c3 a a2
        refine l_gR T3 (d_Mo_12 M) (l_aI (e := vA h (v0 + 7) q) (fun _ => by rw [VA _ (by omega)]) (fun _ => ?_))
        refine qi_if (fun c4 => ?_) (fun c4 => ?_)
        · refine l_gI (e := rd) (by rw [I3 70 (by omega) (by omega), hr]) (l_gR T3 (d_Mo_13 M) (l_aI (e := vA h (v0 + 8) q) (fun _ => by rw [VA _ (by omega)]) (fun _ => ?_)))
          refine qi_if (fun c5 => ?_) (fun c5 => ?_)
          · have er : r_rc (vA h (v0 + 7) q) (vA h (v0 + 8) q) rd = 0 := by unfold r_rc; rw [if_pos c4, if_pos c5]
            have ef : r_ft h v0 (vA h (v0 + 7) q) (vA h (v0 + 8) q) t1 t2 S rd lc = 0 := by
              unfold r_ft
              rw [if_pos c4, if_neg (fun z => by rw [z] at c5; exact absurd c5 Int32.lt_irrefl)]
            obtain ⟨w1, w2⟩ := V3 0 _ (Or.inl rfl) (by rw [if_pos er, ef]) r_ft01
            rw [w1, w2]
            exact r_d135 (N := N) s3 i01 c2 F3 I3 (Or.inl rfl)
          · have er : ¬ r_rc (vA h (v0 + 7) q) (vA h (v0 + 8) q) rd = 0 := by unfold r_rc; rw [if_pos c4, if_neg c5]; decide
            obtain ⟨w1, w2⟩ := V3 1 (r_ft h v0 (vA h (v0 + 7) q) (vA h (v0 + 8) q) t1 t2 S rd lc) (Or.inr rfl) (by rw [if_neg er]) r_ft01
            rw [w1, w2]
            exact r_d135 (N := N) s3 i01 c2 F3 I3 (Or.inr rfl)
        · refine l_gR T3 (d_Mo_12 M) (l_aI (e := vA h (v0 + 7) q) (fun _ => by rw [VA _ (by omega)]) (fun _ => l_gR T3 (d_Mo_13 M) (l_aI (e := vA h (v0 + 8) q) (fun _ => by rw [VA _ (by omega)]) (fun _ => l_gO (qi_b (P := fun r => r.1 = r_ft h v0 (vA h (v0 + 7) q) (vA h (v0 + 8) q) t1 t2 S rd lc ∧ r_S L π v0 r.2 O S H A ∧ r_G v0 h3 r.2) ?_ ?_)))))
          · have t := r_fA (N := N) (kd := vA h (v0 + 7) q) (v := vA h (v0 + 8) q) (s1 := t1) (s2 := t2) (g := g') (rd := rd) (lc := lc) s3 (by rw [I3 70 (by omega) (by omega), hr]) (by rw [I3 4 (by omega) (by omega), hl]) (fun z1 z2 => r_PP_x X3 (P2 c1 c2 z1 z2))
            rw [r_ft_x M T T3 X3] at t
            exact t
          · rintro ⟨y, h4⟩ ⟨ey, s4, G4⟩
            dsimp only at ey s4 G4 ⊢
            have er : r_rc (vA h (v0 + 7) q) (vA h (v0 + 8) q) rd = 0 := by unfold r_rc; rw [if_neg c4]
            have y01 : y = 0 ∨ y = 1 := by rw [ey]; exact r_ft01
            obtain ⟨w1, w2⟩ := V3 y _ y01 (by rw [if_pos er]; exact ey) r_ft01
            rw [w1, w2]
            exact r_d135 (N := N) s4 i01 c2 (fun a a1 a2 => (G4.1 a a1 a2).trans (c3 a a2)) (fun k k1 k2 => (G4.2 k k1).trans (I3 k k1 k2)) y01
end S1
