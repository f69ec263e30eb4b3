/-! the editor of the class: a run -/
section Y15
variable {L : q_L} {e pg sf c : Nat} {π : Nat → Nat → Option Nat} {N i : Nat} {h h0 : z_H} {S TX : List Int32} {LN : Int32 → List Int32} {lc rd fm : Int32}
theorem y_fd_k {it pt : Nat} (T0 : x_U L π h0) (k5 : qκ L it = 5) (f : ∀ a, it ≤ a → a ≤ it + 4 → h a = h0 a) (fp : h pt = h0 pt) : y_fd h it pt S fm = y_fd h0 it pt S fm := by
  unfold y_fd
  rw [x_vA_c (f (it + 1) (by omega) (by omega)), x_vA_c (f (it + 2) (by omega) (by omega)), x_tk_c T0 k5 (f it (by omega) (by omega)) (f (it + 3) (by omega) (by omega)) (f (it + 4) (by omega) (by omega)), x_vI_c fp, x_vI_c fp, x_vI_c fp, x_vI_c fp, x_vI_c fp, x_vI_c fp]
theorem y_PP_k {it pt : Nat} (f : ∀ a, it ≤ a → a ≤ it + 4 → h a = h0 a) (fp : h pt = h0 pt) (P : y_PP h0 it pt) : y_PP h it pt := by
  unfold y_PP
  rw [x_vA_c (f (it + 1) (by omega) (by omega)), x_vA_c (f (it + 2) (by omega) (by omega)), x_vI_c fp, x_vI_c fp, x_vI_c fp, x_vI_c fp, x_vI_c fp]
  exact P
theorem y_ft_k {it ad : Nat} (T0 : x_U L π h0) (k5 : qκ L it = 5) (f : ∀ a, it ≤ a → a ≤ it + 4 → h a = h0 a) (fa : h ad = h0 ad) (fp : h (ad + 1) = h0 (ad + 1)) : y_ft h it ad S rd lc = y_ft h0 it ad S rd lc := by
  unfold y_ft
  rw [x_vI_c fa, x_vI_c fa, y_fd_k T0 k5 f fp]
/-- what a command reads -/
theorem y_K0_c (hpg : e + 16 ≤ pg) (K : y_K0 e pg h0 h) (hi : i < 40) (ec : c = pg + (9 + 6 * i)) : (∀ a, pg ≤ a → a < pg + 9 → h a = h0 a) ∧ (∀ j, 1 ≤ j → j ≤ 5 → h (c + j) = h0 (c + j)) ∧ ∀ k, k ≠ 15 → vI h c k = vI h0 c k := by
  subst ec
  exact ⟨fun a a1 a2 => K.1 a (by omega) (by omega), fun j j1 j2 => K.1 _ (by omega) (by omega), K.2 i hi⟩
theorem y_cS_k (hpg : e + 16 ≤ pg) (T0 : x_U L π h0) (k5 : qκ L (pg + 3) = 5) (K : y_K0 e pg h0 h) (hi : i < 40) (ec : c = pg + (9 + 6 * i)) : y_cX h pg c = y_cX h0 pg c ∧ y_cY h pg c = y_cY h0 pg c ∧ y_cS h pg c = y_cS h0 pg c := by
  obtain ⟨f, g, v⟩ := y_K0_c hpg K hi ec
  refine ⟨?_, ?_, ?_⟩
  · unfold y_cX
    rw [x_vA_c (f (pg + 2) (by omega) (by omega)), v 9 (by decide), v 10 (by decide)]
  · unfold y_cY
    rw [x_vA_c (f (pg + 2) (by omega) (by omega)), v 9 (by decide), v 10 (by decide), v 11 (by decide)]
  · funext S
    unfold y_cS
    have FD : y_fd h (pg + 3) (c + 5) S = y_fd h0 (pg + 3) (c + 5) S := funext fun fm => y_fd_k T0 k5 (fun a a1 a2 => f a (by omega) (by omega)) (g 5 (by omega) (by omega))
    rw [FD, x_vA_c (f (pg + 2) (by omega) (by omega)), v 9 (by decide), v 10 (by decide), v 12 (by decide), v 14 (by decide), x_vI_c (g 5 (by omega) (by omega))]
theorem y_CK_k (hpg : e + 16 ≤ pg) (K : y_K0 e pg h0 h) (hi : i < 40) (ec : c = pg + (9 + 6 * i)) (C : y_CK h0 pg c) : y_CK h pg c := by
  obtain ⟨f, g, v⟩ := y_K0_c hpg K hi ec
  unfold y_CK
  rw [v 3 (by decide), v 9 (by decide), v 10 (by decide), v 11 (by decide), x_vA_c (f (pg + 2) (by omega) (by omega)), x_vI_c (f (pg + 1) (by omega) (by omega)), x_vI_c (g 5 (by omega) (by omega))]
  refine ⟨fun z => ?_, C.2.1, C.2.2⟩
  obtain ⟨P, q⟩ := C.1 z
  exact ⟨y_PP_k (fun a a1 a2 => f a (by omega) (by omega)) (g 5 (by omega) (by omega)) P, q⟩
theorem y_LN_k (es : e = sf + 9) (hpe : pg + 249 ≤ sf + 528) (K : y_K0 e pg h0 h) (l : y_LN h0 sf lc LN) : y_LN h sf lc LN := ⟨l.1, l.2.1, fun j j0 j1 => y_R1_c (l.2.2 j j0 j1) (K.1 _ (by omega) (by omega)) (K.1 _ (by omega) (by omega))⟩
end Y15
/-- a run of the program at pg -/
noncomputable def y_run (h0 : z_H) (pg : Nat) (lc : Int32) (LN : Int32 → List Int32) : Nat → x_TT → Int32 → (Int32 → Int32) → Option (Int32 × x_TT × Int32) := x_run (vI h0 pg 3) lc LN (fun k => vI h0 (y_cm pg k) 3) (fun k => vI h0 (y_cm pg k) 7) (fun k => vI h0 (y_cm pg k) 13) (fun k => vI h0 (y_cm pg k) 5) (fun k => vI h0 (y_cm pg k) 6) (fun k => y_cX h0 pg (y_cm pg k)) (fun k => y_cY h0 pg (y_cm pg k)) (fun k => y_cS h0 pg (y_cm pg k)) (fun k S rd => y_ft h0 (pg + 3) (y_cm pg k + 1) S rd lc) (fun k S rd => y_ft h0 (pg + 3) (y_cm pg k + 3) S rd lc) (fun k rd => x_rc (vI h0 (y_cm pg k + 3) 1) (vI h0 (y_cm pg k + 3) 2) rd)
/-- what a run of the class leaves -/
def y_RES (L : q_L) (e pg ln : Nat) (h0 : z_H) (st : Int32) (E : x_TT) (bg : Int32) (r : (Unit ⊕ String) × z_H) : Prop := (∃ π sp ho dr A', y_S L e pg ln π r.2 sp ho dr (x_O E) (x_S8 E) (x_H8 E) A') ∧ (vI r.2 e 3 = x_rd E ∧ vI r.2 e 5 = x_cy E ∧ vI r.2 e 6 = x_rp E ∧ vI r.2 e 4 = bg) ∧ y_K0 e pg h0 r.2 ∧ ((st = 0 ∧ r.1 = .inl ()) ∨ (st = 2 ∧ r.1 = .inr xE3) ∨ (st = 3 ∧ r.1 = .inr xE4))
/-- a program of the class that may be run -/
def y_PRG (h0 : z_H) (pg : Nat) : Prop := ∀ k : Int32, 0 ≤ k → k < vI h0 pg 3 → y_CK h0 pg (y_cm pg k) ∧ vI h0 (y_cm pg k) 5 ≤ 2 ∧ (1 ≤ vI h0 (y_cm pg k) 5 → ¬ vI h0 (y_cm pg k + 1) 1 = 0 → ¬ vI h0 (y_cm pg k + 1) 1 = 1 → y_PP h0 (pg + 3) (y_cm pg k + 2)) ∧ (vI h0 (y_cm pg k) 5 = 2 → ¬ vI h0 (y_cm pg k + 3) 1 = 0 → ¬ vI h0 (y_cm pg k + 3) 1 = 1 → y_PP h0 (pg + 3) (y_cm pg k + 4))
theorem x_cl40 {k : Int32} (k0 : 0 ≤ k) (k1 : k < 40) : k.toNatClampNeg < 40 := q_clp k0 k1
theorem x_cli {a b : Int32} (a0 : 0 ≤ a) (b0 : 0 ≤ b) (e : a.toNatClampNeg = b.toNatClampNeg) : a = b := by
  rw [← Int32.ofNat_toNatClampNeg a a0, ← Int32.ofNat_toNatClampNeg b b0, e]
set_option maxHeartbeats 8000000 in
theorem y_e22 {L : q_L} {e pg sf : Nat} {N : Nat} {h0 : z_H} {π0 : Nat → Nat → Option Nat} {TX : List Int32} {LN : Int32 → List Int32} {lc : Int32} (es : e = sf + 9) (kf : qκ L sf = 12) (hpg : e + 16 ≤ pg) (hpe : pg + 249 ≤ sf + 528) (ly : y_L L e) (kp : qκ L pg = 10) (T0 : x_U L π0 h0) (rt : y_R1 h0 (pg + 1) 240 TX) (ll : y_LN h0 sf lc LN) (PG : y_PRG h0 pg) (s40 : vI h0 pg 3 ≤ 40) : ∀ (m : Nat) (step : Int32) (π : Nat → Nat → Option Nat) (sp ho dr : Nat) (A' : List Int32) (E : x_TT) (bg : Int32) (act : Int32 → Int32) (h : z_H), E.1 = 1 → y_S L e pg (sf + 3) π h sp ho dr (x_O E) (x_S8 E) (x_H8 E) A' → (vI h e 3 = x_rd E ∧ vI h e 5 = x_cy E ∧ vI h e 6 = x_rp E ∧ vI h e 14 = x_ov E ∧ (x_ov E = 0 → A' = x_A8 E ∧ vI h e 15 = x_sm E ∧ vI h e 13 = x_nx E)) → vI h e 4 = bg → vI h e 12 = lc → (∀ k, 0 ≤ k → k < vI h0 pg 3 → vI h (y_cm pg k) 15 = act k) → y_K0 e pg h0 h → 0 ≤ x_rd E → x_rd E ≤ lc → 0 ≤ bg → bg ≤ 200 → 0 ≤ step → (x_ov E = 0 → step ≤ bg + x_rd E) → qi (f_Ed_edit_22 N m e step h) (fun r => ∃ M st E' bg', y_run h0 pg lc LN M E bg act = some (st, E', bg') ∧ y_RES L e pg (sf + 3) h0 st E' bg' r) := by
  have lc12 := ll.2.1
  intro m
  induction m with
  | zero => intro step π sp ho dr A' E bg act h _ _ _ _ _ _ _ _ _ _ _ _ _ r e; rw [f_Ed_edit_22] at e; cases e
  | succ m ih =>
    intro step π sp ho dr A' E bg act h E1 s n b4 l12 ac K r0 rl g0 g2 t0 tb
    obtain ⟨⟨T, p1, p2, p3, p4, p5⟩, -⟩ := id s
    have nE1 : ¬ E.1 = 0 := by rw [E1]; decide
    have OV : ¬ x_ov E = 0 → ∃ M st E' bg', y_run h0 pg lc LN M E bg act = some (st, E', bg') ∧ y_RES L e pg (sf + 3) h0 st E' bg' (.inl (), h) := by
      intro z
      refine ⟨1, 0, E, bg, ?_, ⟨π, sp, ho, dr, A', s⟩, ⟨n.1, n.2.1, n.2.2.1, b4⟩, K, Or.inl ⟨rfl, rfl⟩⟩
      unfold y_run
      rw [x_run, if_neg nE1, if_pos z]
    rw [f_Ed_edit_22]
    refine qi_if (fun c1 => ?_) (fun c1 => ?_)
    · refine qi_some (OV (fun z => ?_))
      have := tb z
      lia
    · refine l_gI (e := x_ov E) n.2.2.2.1 ?_
      refine qi_if (fun c2 => ?_) (fun c2 => qi_some (OV c2))
      obtain ⟨eA, n15, n13⟩ := n.2.2.2.2 c2
      have tb' := tb c2
      subst eA
      have nN : y_N h e (x_rd E) (x_cy E) (x_rp E) (x_sm E) (x_nx E) := ⟨n.1, n.2.1, n.2.2.1, n15, n13, by rw [n.2.2.2.1, c2]⟩
      -- how it goes on behind a command
      have AFTER : ∀ (h9 h2 : z_H) (y : Unit ⊕ String) (E2 : x_TT) (bg2 : Int32) (act2 : Int32 → Int32), y_P L e pg (sf + 3) h9 E2 (y, h2) → vI h9 e 4 = bg2 → vI h9 e 12 = lc → y_K0 e pg h0 h2 → (∀ k, 0 ≤ k → k < vI h0 pg 3 → vI h2 (y_cm pg k) 15 = act2 k) → 0 ≤ bg2 → bg2 ≤ 200 → x_rk (x_rd E) lc E2 → (x_ov E2 = 0 → E2.1 = 1 → step + 1 ≤ bg2 + x_rd E2) → qi (zx_k (y, h2) fun (_ : Unit) h' => z_b (some (step + 1)) fun x => f_Ed_edit_22 N m e x h') (fun r => ∃ M st E' bg', y_run h0 pg lc LN M E2 bg2 act2 = some (st, E', bg') ∧ y_RES L e pg (sf + 3) h0 st E' bg' r) := by
        intro h9 h2 y E2 bg2 act2 P b9 l9 K2 ac2 g02 g22 rk tb2
        obtain ⟨F2, ⟨i4, i12⟩, π2, sp2, ho2, dr2, A2, s2, ⟨i3, i5, i6⟩, q⟩ := P
        dsimp only at F2 i4 i12 s2 i3 i5 i6 q
        rcases q with ⟨q1, q2⟩ | ⟨q1, q2, q3, q4⟩
        · refine qi_zx (fun x ex => by rw [q2] at ex; cases ex) (fun X eX => ?_)
          rw [q2] at eX
          cases eX
          refine ⟨1, 2, E2, bg2, ?_, ⟨π2, sp2, ho2, dr2, A2, s2⟩, ⟨i3, i5, i6, by rw [i4, b9]⟩, K2, Or.inr (Or.inl ⟨rfl, rfl⟩)⟩
          unfold y_run
          rw [x_run, if_pos q1]
        · refine qi_zx (fun x _ => qi_bs ?_) (fun X eX => by rw [q2] at eX; cases eX)
          have rr : 0 ≤ x_rd E2 ∧ x_rd E2 ≤ lc := by
            rcases rk with w | ⟨w, w'⟩
            · rw [w]; exact ⟨r0, rl⟩
            · rw [w]; constructor <;> lia
          exact ih (step + 1) π2 sp2 ho2 dr2 A2 E2 bg2 act2 h2 q1 s2 ⟨i3, i5, i6, q3, q4⟩ (by rw [i4, b9]) (by rw [i12, l9]) ac2 K2 rr.1 rr.2 g02 g22 (by lia) (fun z => tb2 z q1)
      have szE : vI h pg 3 = vI h0 pg 3 := x_vI_c (K.1 pg (by omega) (by omega))
      refine l_gI (e := x_nx E) n13 (l_gR T p4 (l_gI (e := vI h0 pg 3) szE ?_))
      refine qi_if (fun c3 => ?_) (fun c3 => ?_)
      · have n3 := Int32.not_le.mpr c3
        refine l_gI (e := bg) b4 ?_
        refine qi_if (fun c4 => ?_) (fun c4 => ?_)
        · refine qi_some ⟨1, 3, E, bg, ?_, ⟨π, sp, ho, dr, _, s⟩, ⟨n.1, n.2.1, n.2.2.1, b4⟩, K, Or.inr (Or.inr ⟨rfl, rfl⟩)⟩
          unfold y_run
          rw [x_run, if_neg nE1, if_neg (fun z => z c2), if_neg n3, if_pos c4]
        · refine l_gI (e := bg) b4 (l_sIc T ly.1 (by decide) rfl ?_)
          intro h1 T1 f1 u1
          have s1 := y_S_e s T1 f1
          refine l_gR T1 p4 (l_gR T1 (d_Prog_2 T1 kp) (l_gI (e := x_nx E) (by rw [u1 13]; exact n13) (l_Prog_e8 T1 kp (fun k0 k40 kc => ?_))))
          refine l_gI (e := x_nx E) (by rw [u1 13]; exact n13) (l_sIc T1 ly.1 (by decide) rfl ?_)
          intro h2 T2 f2 u2
          have s2 := y_S_e s1 T2 f2
          have F2 : ∀ b, b ≠ e → h2 b = h b := fun b hb => (f2 b hb).trans (f1 b hb)
          have J2 : ∀ k, vI h2 e k = if k = 13 then x_nx E + 1 else if k = 4 then bg + 1 else vI h e k := fun k => by rw [u2 k, u1 k]
          have K2 : y_K0 e pg h0 h2 := y_K0_F hpg K (fun a ha => F2 a (by omega))
          have hi := x_cl40 k0 k40
          have kn := Int32.not_lt.mpr k0
          obtain ⟨CK, na2, P1, P2⟩ := PG (x_nx E) k0 c3
          have ecm : y_cm pg (x_nx E) = pg + (9 + 6 * (x_nx E).toNatClampNeg) := rfl
          obtain ⟨fK, gK, vK⟩ := y_K0_c hpg K2 hi ecm
          have k5 := e_Prog_1 T kp
          have fI : ∀ a, pg + 3 ≤ a → a ≤ pg + 3 + 4 → h2 a = h0 a := fun a a1 a2 => fK a (by omega) (by omega)
          have e15 : vI h2 (y_cm pg (x_nx E)) 15 = act (x_nx E) := by
            rw [x_vI_c (F2 _ (by rw [ecm]; omega))]
            exact ac _ k0 c3
          have DN := y_iD (N := N) (c := y_cm pg (x_nx E)) (rd := x_rd E) (lc := lc) hpg (by rw [ecm]; omega) ly kp kc s2 (by rw [J2 3]; exact n.1) (by rw [J2 12]; exact l12) (by rw [vK 5 (by decide)]; exact na2) (by rw [vK 5 (by decide), x_vI_c (gK 1 (by omega) (by omega))]; exact fun a b c => y_PP_k fI (gK 2 (by omega) (by omega)) (P1 a b c)) (by rw [vK 5 (by decide), x_vI_c (gK 3 (by omega) (by omega))]; exact fun a b c => y_PP_k fI (gK 4 (by omega) (by omega)) (P2 a b c))
          rw [vK 5 (by decide), vK 6 (by decide), e15, y_ft_k T0 k5 fI (gK 1 (by omega) (by omega)) (gK 2 (by omega) (by omega)), y_ft_k T0 k5 fI (gK 3 (by omega) (by omega)) (gK 4 (by omega) (by omega)), x_vI_c (gK 3 (by omega) (by omega)), x_vI_c (gK 3 (by omega) (by omega))] at DN
          refine l_gO (qi_b DN ?_)
          rintro ⟨y, h3⟩ ⟨ey, ⟨π3, s3⟩, F3, I3, C3, e15', B1, B2⟩
          dsimp only at ey s3 F3 I3 C3 e15' B1 B2 ⊢
          have K3 : y_K0 e pg h0 h3 := y_K0_D hpg hi K2 F3 C3
          have ac3 : ∀ k, 0 ≤ k → k < vI h0 pg 3 → vI h3 (y_cm pg k) 15 = x_up act (x_nx E) (x_DD (fun k => vI h0 (y_cm pg k) 5) (fun k => vI h0 (y_cm pg k) 6) (fun k S rd => y_ft h0 (pg + 3) (y_cm pg k + 1) S rd lc) (fun k S rd => y_ft h0 (pg + 3) (y_cm pg k + 3) S rd lc) (fun k rd => x_rc (vI h0 (y_cm pg k + 3) 1) (vI h0 (y_cm pg k + 3) 2) rd) E act).2.1 k := by
            intro k kk0 kk1
            unfold x_up
            by_cases z : k = x_nx E
            · rw [if_pos z, z]; exact e15'
            · rw [if_neg z]
              have hk := x_cl40 kk0 (Int32.lt_of_lt_of_le kk1 s40)
              have ne : k.toNatClampNeg ≠ (x_nx E).toNatClampNeg := fun w => z (x_cli kk0 k0 w)
              have a1 : ¬ (e ≤ y_cm pg k ∧ y_cm pg k < e + 16) := by unfold y_cm; omega
              have a2 : y_cm pg k ≠ y_cm pg (x_nx E) := by unfold y_cm; omega
              rw [x_vI_c (F3 _ a1 a2), x_vI_c (F2 _ (by unfold y_cm; omega))]
              exact ac k kk0 kk1
          have i4 : vI h3 e 4 = bg + 1 := by rw [I3 4 (by decide), J2 4]; rfl
          have i12 : vI h3 e 12 = lc := by rw [I3 12 (by decide), J2 12]; exact l12
          have n3' : y_N h3 e (x_rd E) (x_cy E) (x_rp E) (x_sm E) (x_nx E + 1) := ⟨by rw [I3 3 (by decide), J2 3]; exact n.1, by rw [I3 5 (by decide), J2 5]; exact n.2.1, by rw [I3 6 (by decide), J2 6]; exact n.2.2.1, by rw [I3 15 (by decide), J2 15]; exact n15, by rw [I3 13 (by decide), J2 13]; rfl, by rw [I3 14 (by decide), J2 14]; exact nN.2.2.2.2.2⟩
          obtain ⟨fK3, gK3, vK3⟩ := y_K0_c hpg K3 hi ecm
          have g02 : 0 ≤ bg + 1 := by lia
          have g22 : bg + 1 ≤ 200 := by lia
          -- one more step of the function
          have UP : ∀ (D1 : (x_DD (fun k => vI h0 (y_cm pg k) 5) (fun k => vI h0 (y_cm pg k) 6) (fun k S rd => y_ft h0 (pg + 3) (y_cm pg k + 1) S rd lc) (fun k S rd => y_ft h0 (pg + 3) (y_cm pg k + 3) S rd lc) (fun k rd => x_rc (vI h0 (y_cm pg k + 3) 1) (vI h0 (y_cm pg k + 3) 2) rd) E act).1 = 0) (r : (Unit ⊕ String) × z_H), (∃ M st E' bg', y_run h0 pg lc LN M (x_sk (fun k => vI h0 (y_cm pg k) 3) (fun k => vI h0 (y_cm pg k) 7) E) (bg + 1) (x_up act (x_nx E) (x_DD (fun k => vI h0 (y_cm pg k) 5) (fun k => vI h0 (y_cm pg k) 6) (fun k S rd => y_ft h0 (pg + 3) (y_cm pg k + 1) S rd lc) (fun k S rd => y_ft h0 (pg + 3) (y_cm pg k + 3) S rd lc) (fun k rd => x_rc (vI h0 (y_cm pg k + 3) 1) (vI h0 (y_cm pg k + 3) 2) rd) E act).2.1) = some (st, E', bg') ∧ y_RES L e pg (sf + 3) h0 st E' bg' r) → ∃ M st E' bg', y_run h0 pg lc LN M E bg act = some (st, E', bg') ∧ y_RES L e pg (sf + 3) h0 st E' bg' r := by
            rintro D1 r ⟨M, st, E', bg', e1, e2⟩
            refine ⟨M + 1, st, E', bg', ?_, e2⟩
            unfold y_run at e1 ⊢
            rw [x_run, if_neg nE1, if_neg (fun z => z c2), if_neg n3, if_neg c4, if_neg kn, if_pos D1]
            exact e1
          refine qi_if (fun c5 => ?_) (fun c5 => ?_)
          · have D1 := ey.symm.trans c5
            refine qi_mono ?_ (UP D1)
            have T3 := s3.1.1
            refine l_gI (e := vI h0 (y_cm pg (x_nx E)) 3) (vK3 3 (by decide)) ?_
            have SK : ∀ (h4 : z_H) (v : Int32), y_S L e pg (sf + 3) π3 h4 sp ho dr (x_O E) (x_S8 E) (x_H8 E) (x_A8 E) → y_F e h3 h4 → (∀ k, k ≠ 13 → vI h4 e k = vI h3 e k) → vI h4 e 13 = v → v = (if vI h0 (y_cm pg (x_nx E)) 3 = 123 then vI h0 (y_cm pg (x_nx E)) 7 else x_nx E + 1) → qi (f_Ed_edit_22 N m e (step + 1) h4) (fun r => ∃ M st E' bg', y_run h0 pg lc LN M (x_sk (fun k => vI h0 (y_cm pg k) 3) (fun k => vI h0 (y_cm pg k) 7) E) (bg + 1) (x_up act (x_nx E) (x_DD (fun k => vI h0 (y_cm pg k) 5) (fun k => vI h0 (y_cm pg k) 6) (fun k S rd => y_ft h0 (pg + 3) (y_cm pg k + 1) S rd lc) (fun k S rd => y_ft h0 (pg + 3) (y_cm pg k + 3) S rd lc) (fun k rd => x_rc (vI h0 (y_cm pg k + 3) 1) (vI h0 (y_cm pg k + 3) 2) rd) E act).2.1) = some (st, E', bg') ∧ y_RES L e pg (sf + 3) h0 st E' bg' r) := by
              intro h4 v s4 F4 I4 e13 ev
              refine ih (step + 1) π3 sp ho dr (x_A8 E) (x_sk (fun k => vI h0 (y_cm pg k) 3) (fun k => vI h0 (y_cm pg k) 7) E) (bg + 1) _ h4 rfl s4 ⟨by rw [I4 3 (by decide)]; exact n3'.1, by rw [I4 5 (by decide)]; exact n3'.2.1, by rw [I4 6 (by decide)]; exact n3'.2.2.1, by rw [I4 14 (by decide)]; exact n3'.2.2.2.2.2, fun _ => ⟨rfl, by rw [I4 15 (by decide)]; exact n3'.2.2.2.1, by rw [e13, ev]; rfl⟩⟩ (by rw [I4 4 (by decide), i4]) (by rw [I4 12 (by decide), i12]) (fun k kk0 kk1 => ?_) (y_K0_F hpg K3 F4) r0 rl g02 g22 (by lia) (fun _ => ?_)
              · rw [x_vI_c (F4 _ (by unfold y_cm; omega))]
                exact ac3 k kk0 kk1
              · show step + 1 ≤ bg + 1 + x_rd E
                lia
            refine qi_if (fun c6 => ?_) (fun c6 => ?_)
            · refine l_gI (e := vI h0 (y_cm pg (x_nx E)) 7) (vK3 7 (by decide)) (l_sIc T3 ly.1 (by decide) rfl ?_)
              intro h4 T4 f4 u4
              exact qi_bs (SK h4 (vI h0 (y_cm pg (x_nx E)) 7) (y_S_e s3 T4 f4) (fun a ha => f4 a (by omega)) (fun k hk => by rw [u4 k, if_neg hk]) (by rw [u4 13, if_pos rfl]) (by rw [if_pos c6]))
            · exact qi_bs (SK h3 (x_nx E + 1) s3 y_F_r (fun _ _ => rfl) n3'.2.2.2.2.1 (by rw [if_neg c6]))
          · have D1 : ¬ (x_DD (fun k => vI h0 (y_cm pg k) 5) (fun k => vI h0 (y_cm pg k) 6) (fun k S rd => y_ft h0 (pg + 3) (y_cm pg k + 1) S rd lc) (fun k S rd => y_ft h0 (pg + 3) (y_cm pg k + 3) S rd lc) (fun k rd => x_rc (vI h0 (y_cm pg k + 3) 1) (vI h0 (y_cm pg k + 3) 2) rd) E act).1 = 0 := fun z => c5 (ey.trans z)
            have PF := y_pf (N := N) (c := y_cm pg (x_nx E)) (TX := TX) (lc := lc) (LN := LN) es kf hpg (by rw [ecm]; omega) ly kp kc s3 n3' (y_LN_k es hpe K3 ll) i12 r0 rl (y_R1_c rt (fK3 _ (by omega) (by omega)) (fK3 _ (by omega) (by omega))) (y_CK_k hpg K3 hi ecm CK) B1 B2
            obtain ⟨cx, cyy, cs⟩ := y_cS_k (L := L) hpg T0 k5 K3 hi ecm
            rw [cx, cyy, cs, vK3 3 (by decide), vK3 7 (by decide), vK3 13 (by decide)] at PF
            refine l_gO (qi_b PF ?_)
            rintro ⟨y2, h4⟩ P
            refine qi_mono (AFTER h3 h4 y2 (x_do lc LN (fun k => vI h0 (y_cm pg k) 3) (fun k => vI h0 (y_cm pg k) 7) (fun k => vI h0 (y_cm pg k) 13) (fun k => y_cX h0 pg (y_cm pg k)) (fun k => y_cY h0 pg (y_cm pg k)) (fun k => y_cS h0 pg (y_cm pg k)) (x_DD (fun k => vI h0 (y_cm pg k) 5) (fun k => vI h0 (y_cm pg k) 6) (fun k S rd => y_ft h0 (pg + 3) (y_cm pg k + 1) S rd lc) (fun k S rd => y_ft h0 (pg + 3) (y_cm pg k + 3) S rd lc) (fun k rd => x_rc (vI h0 (y_cm pg k + 3) 1) (vI h0 (y_cm pg k + 3) 2) rd) E act).2.2 E) (bg + 1) (x_up act (x_nx E) (x_DD (fun k => vI h0 (y_cm pg k) 5) (fun k => vI h0 (y_cm pg k) 6) (fun k S rd => y_ft h0 (pg + 3) (y_cm pg k + 1) S rd lc) (fun k S rd => y_ft h0 (pg + 3) (y_cm pg k + 3) S rd lc) (fun k rd => x_rc (vI h0 (y_cm pg k + 3) 1) (vI h0 (y_cm pg k + 3) 2) rd) E act).2.1) P i4 i12 (y_K0_F hpg K3 P.1) (fun k kk0 kk1 => ?_) g02 g22 x_rk_p (fun _ _ => ?_)) ?_
            · rw [x_vI_c (P.1 _ (by unfold y_cm; omega))]
              exact ac3 k kk0 kk1
            · have rk : x_rk (x_rd E) lc (x_do lc LN (fun k => vI h0 (y_cm pg k) 3) (fun k => vI h0 (y_cm pg k) 7) (fun k => vI h0 (y_cm pg k) 13) (fun k => y_cX h0 pg (y_cm pg k)) (fun k => y_cY h0 pg (y_cm pg k)) (fun k => y_cS h0 pg (y_cm pg k)) (x_DD (fun k => vI h0 (y_cm pg k) 5) (fun k => vI h0 (y_cm pg k) 6) (fun k S rd => y_ft h0 (pg + 3) (y_cm pg k + 1) S rd lc) (fun k S rd => y_ft h0 (pg + 3) (y_cm pg k + 3) S rd lc) (fun k rd => x_rc (vI h0 (y_cm pg k + 3) 1) (vI h0 (y_cm pg k + 3) 2) rd) E act).2.2 E) := x_rk_p
              rcases rk with w | ⟨w, _⟩
              · rw [w]; lia
              · rw [w]; lia
            · rintro r ⟨M, st, E', bg', e1, e2⟩
              refine ⟨M + 1, st, E', bg', ?_, e2⟩
              unfold y_run at e1 ⊢
              rw [x_run, if_neg nE1, if_neg (fun z => z c2), if_neg n3, if_neg c4, if_neg kn, if_neg D1]
              exact e1
      · have n3 := Int32.not_lt.mp c3
        have t := y_eC (N := N) (sh := 1) es kf ly s (y_LN_k es hpe K ll) l12 (by rw [n.1]; exact r0) (by rw [n.1]; exact rl)
        rw [n.1] at t
        refine l_gO (qi_b t ?_)
        rintro ⟨y, h2⟩ P
        have P' := y_EC_P (A := x_A8 E) nN P
        refine qi_mono (AFTER h h2 y (x_en lc LN E) bg act P' b4 l12 (y_K0_F hpg K P'.1) (fun k kk0 kk1 => by rw [x_vI_c (P'.1 _ (by unfold y_cm; omega))]; exact ac k kk0 kk1) g0 g2 x_rk_e (fun o1 o2 => ?_)) ?_
        · unfold x_en x_rE at o1 o2 ⊢
          by_cases z1 : (x_ec 1 lc LN (x_O E) (x_S8 E) (x_A8 E) (x_rd E)).1 = 0
          · rw [if_pos z1] at o2; exact absurd (show (0 : Int32) = 1 from o2) (by decide)
          · rw [if_neg z1] at o1 ⊢
            by_cases z2 : (x_ec 1 lc LN (x_O E) (x_S8 E) (x_A8 E) (x_rd E)).1 = 2
            · rw [if_pos z2] at o1; exact absurd (show (1 : Int32) = 0 from o1) (by decide)
            · rw [if_neg z2]
              show step + 1 ≤ bg + (x_rd E + 1)
              lia
        · rintro r ⟨M, st, E', bg', e1, e2⟩
          refine ⟨M + 1, st, E', bg', ?_, e2⟩
          unfold y_run at e1 ⊢
          rw [x_run, if_neg nE1, if_neg (fun z => z c2), if_pos n3]
          exact e1
