/-! one turn of the law's loop: what both keep -/
def q_Wc (sf ou : Nat) (a : Nat) : Prop := (sf ≤ a ∧ a < sf + 552) ∨ a = ou
theorem uL_c {h h' : z_H} {a : Nat} {i : Int32} {x : Int64} (e : uL h a i x = some h') : ∀ b, b ≠ a → h' b = h b := by
  intro b nb
  unfold uL at e
  split at e
  · split at e
    · cases e
      unfold z_up
      rw [if_neg nb]
    · cases e
  · cases e
theorem x_ih {c : Prop} [Decidable c] {h4 h5 : z_H} {a y5 : Int32} {o : Option (Int32 × z_H)} (z : (if c then some (a, h4) else o) = some (y5, h5)) (k : o = some (y5, h5) → h5 = h4) : h5 = h4 := by
  by_cases q : c
  · rw [if_pos q] at z
    cases z
    rfl
  · rw [if_neg q] at z
    exact k z
theorem x_wrp {o : Option ((Int32 ⊕ String) × z_H)} {X : String → z_H → Option (Int32 × z_H)} {h h1 : z_H} {sf ou : Nat} {y : Int32} (c1 : z_b (gO h sf 11) (fun _ => z_b o (fun r2 => zw_k r2 (fun x3 h4 => z_b (uL h4 ou 0 (Int32.toInt64 x3)) fun h5 => some (0, h5)) X)) = some (y, h1)) (hX : ∀ E h4 y' h', X E h4 = some (y', h') → h' = h4) : ∃ r, o = some r ∧ (∀ a, a ≠ ou → h1 a = r.2 a) ∧ (∀ v, r.1 = .inl v → y = 0 ∧ uL r.2 ou 0 (Int32.toInt64 v) = some h1) ∧ (∀ E, r.1 = .inr E → X E r.2 = some (y, h1)) := by
  obtain ⟨_, _, c1⟩ := z_bs c1
  obtain ⟨⟨r1, r2⟩, er, c1⟩ := z_bs c1
  refine ⟨(r1, r2), er, ?_⟩
  cases r1 with
  | inl v =>
    have c2 := zw_kl c1
    obtain ⟨h5, e5, c3⟩ := z_bs c2
    cases c3
    exact ⟨fun a na => uL_c e5 a na, fun v' z => by cases z; exact ⟨rfl, e5⟩, fun E z => by cases z⟩
  | inr E =>
    have c2 := zw_kr c1
    have z := hX _ _ _ _ c2
    subst z
    exact ⟨fun _ _ => rfl, fun v' z => (by cases z), fun E' z => by cases z; exact c2⟩
section W9
variable {L : q_L} {W : Nat → Prop} {h h0 h' h1 h2 : z_H} {π π1 π2 : Nat → Nat → Option Nat} {sf mo ou N : Nat}
theorem y_R1_f {r : Nat} {c : Int32} {X : List Int32} (a : y_R1 h r c X) (i : vI h' r 1 = vI h r 1) (A : ∀ j, 0 ≤ j → vA h' (r + 1) j = vA h (r + 1) j) : y_R1 h' r c X :=
  ⟨by unfold x_rw; rw [i]; exact (x_sl_e (Int32.le_refl 0) a.2.1.1 (fun j j0 _ => A j j0)).trans a.1, by rw [i]; exact a.2.1, a.2.2⟩
theorem r_R1_f {k a : Nat} {c : Int32} {X : List Int32} (r : r_R1 h mo k a c X) (i : vI h' mo k = vI h mo k) (A : ∀ j, 0 ≤ j → vA h' (mo + a) j = vA h (mo + a) j) : r_R1 h' mo k a c X :=
  ⟨by unfold r_l; rw [i]; exact (x_sl_e (Int32.le_refl 0) r.2.1.1 (fun j j0 _ => A j j0)).trans r.1, by rw [i]; exact r.2.1, r.2.2⟩
theorem y_S0_f {e sp ho dr : Nat} {O S H X : List Int32} (s : y_S0 L e π h sp ho dr O S H X) (U : x_U L π1 h') (p : ∀ k, vR h' e k = vR h e k) (i : ∀ a, e ≤ a → a < e + 16 → vI h' a 1 = vI h a 1) (A : ∀ a, e ≤ a → a < e + 16 → ∀ j, 0 ≤ j → vA h' a j = vA h a j) : y_S0 L e π1 h' sp ho dr O S H X := by
  obtain ⟨⟨U0, p1, p2, p3⟩, d, a1, a2, a3, a4, a5⟩ := s
  have q : ∀ k, π1 e k = π e k := fun k => by rw [← U.2.2.2.1, ← U0.2.2.2.1]; exact p k
  obtain ⟨d1, d2, d3, -⟩ := id d
  refine ⟨⟨U, by rw [q]; exact p1, by rw [q]; exact p2, by rw [q]; exact p3⟩, d, y_R1_f a1 (i _ (by omega) (by omega)) (A _ (by omega) (by omega)), y_R1_f a2 (i _ (by omega) (by omega)) (A _ (by omega) (by omega)), y_R1_f a3 (i _ (by omega) (by omega)) (A _ (by omega) (by omega)), y_R1_f a4 (i _ (by omega) (by omega)) (A _ (by omega) (by omega)), ?_⟩
  rw [i _ (by omega) (by omega)]
  exact a5
theorem x_K4_f (K : x_K4 L sf mo h) (U : x_U L π1 h') (p : ∀ k, vR h' (sf + 9) k = vR h (sf + 9) k) (i : ∀ a k, sf + 9 ≤ a → a < sf + 25 → vI h' a k = vI h a k) (A : ∀ a, sf + 9 ≤ a → a < sf + 25 → ∀ j, 0 ≤ j → vA h' a j = vA h a j) (m : ∀ k, 65 ≤ k → k ≤ 73 → vI h' mo k = vI h mo k) (mB : ∀ a, mo + 39 ≤ a → a ≤ mo + 43 → ∀ j, 0 ≤ j → vA h' a j = vA h a j) : x_K4 L sf mo h' := by
  obtain ⟨π, sp, ho, dr, O, S, H, X, s, ⟨q1, q2, q3⟩, nb⟩ := K
  refine ⟨π1, sp, ho, dr, O, S, H, X, y_S0_f s U p (fun a p q => i a 1 (by omega) (by omega)) (fun a p q => A a (by omega) (by omega)), ⟨r_R1_f q1 (m _ (by decide) (by decide)) (mB _ (by omega) (by omega)), r_R1_f q2 (m _ (by decide) (by decide)) (mB _ (by omega) (by omega)), r_R1_f q3 (m _ (by decide) (by decide)) (mB _ (by omega) (by omega))⟩, ?_⟩
  unfold x_NB
  rw [i _ 3 (by omega) (by omega), i _ 4 (by omega) (by omega), i _ 5 (by omega) (by omega), i _ 6 (by omega) (by omega), m 70 (by decide) (by decide), m 71 (by decide) (by decide), m 72 (by decide) (by decide), m 73 (by decide) (by decide)]
  exact nb
/-- neither touches what is kept -/
theorem x_K_all (K : x_K8 sf mo h) (K4 : x_K4 L sf mo h) (T : q_U L W h0 π h) (M : q_M L π mo) (U2 : x_U L π2 h2) (c : ∀ a, sf ≤ a → a < sf + 552 → ¬ (sf + 25 ≤ a ∧ a < sf + 30) → h2 a = h a) (m3 : vI h2 mo 3 = vI h mo 3) (m4 : vI h2 mo 4 = vI h mo 4) (m7 : vI h2 mo 7 = vI h mo 7) (m8 : vI h2 mo 8 = vI h mo 8) (mA : ∀ a, mo + 1 ≤ a → a ≤ mo + 31 → ∀ j, 0 ≤ j → vA h2 a j = vA h a j) (l1 : vL h2 (mo + 32) = vL h (mo + 32)) (l2 : vL h2 (mo + 33) = vL h (mo + 33)) (m9 : ∀ k, 65 ≤ k → k ≤ 73 → vI h2 mo k = vI h mo k) (mB : ∀ a, mo + 39 ≤ a → a ≤ mo + 43 → ∀ j, 0 ≤ j → vA h2 a j = vA h a j) : x_K8 sf mo h2 ∧ x_K4 L sf mo h2 := by
  obtain ⟨K1, K2, K3⟩ := K
  refine ⟨⟨x_K1_f K1 m3 (fun j j0 => mA _ (by omega) (by omega) j j0), x_K2_f K2 T M m4 (fun j j0 => mA _ (by omega) (by omega) j j0) (fun j j0 => mA _ (by omega) (by omega) j j0) (fun i hi j _ => by rw [x_vA_c (c _ (by omega) (by omega) (by omega))]), x_K3_f K3 (x_vI_c (c _ (by omega) (by omega) (by omega))) (x_vR_c (c _ (by omega) (by omega) (by omega))) (fun a k p q _ => x_vI_c (c a (by omega) (by omega) (by omega))) (fun a p => x_vA_c (c a (by omega) (by omega) (by omega))) (fun a p => x_vL_c (c a (by omega) (by omega) (by omega))) m7 m8 (fun a p q j j0 => mA a (by omega) q j j0) l1 l2⟩, x_K4_f K4 U2 (fun k => x_vR_c (c _ (by omega) (by omega) (by omega))) (fun a k p q => x_vI_c (c a (by omega) (by omega) (by omega))) (fun a p q j _ => by rw [x_vA_c (c a (by omega) (by omega) (by omega))]) m9 mB⟩
theorem x_tl12 {v1 : Int32} (M : q_M L π mo) : ∀ (m : Nat) (v2 : Int32) (h : z_H), x_U L π h → qi (f_Mod_takeLine_12 N m mo v1 v2 h) (fun r => x_U L π r ∧ ∀ a, a ≠ mo + 36 → r a = h a) := by
  intro m
  induction m with
  | zero => intro v2 h U r e; rw [f_Mod_takeLine_12] at e; cases e
  | succ m ih =>
    intro v2 h U
    rw [f_Mod_takeLine_12]
    refine l_gI (e := vI h mo 54) rfl ?_
    refine qi_if (fun c => qi_some ⟨U, fun _ _ => rfl⟩) (fun c => ?_)
    refine l_gR U (d_Mo_51 M) ?_
    refine l_gR U (d_Mo_2 M) ?_
    refine l_aI (e := vA h (mo + 3) (24 * v1 + v2)) (fun _ => rfl) (fun _ => ?_)
    refine l_uIc U ?_
    intro h6 U6 _ c6 _
    refine qi_bs ?_
    exact qi_mono (ih (v2 + 1) h6 U6) (fun r p => ⟨p.1, fun a na => (p.2 a na).trans (c6 a na)⟩)

theorem q_WR_r (T : q_U L (fun _ => True) h π h) (I : q_IC L π h sf) : q_WR0 L (fun _ => True) h π sf h h := ⟨π, T, I, fun _ _ _ _ => rfl, fun _ _ _ _ => rfl, fun _ _ _ => rfl⟩

theorem l8_where (hN : 100000 ≤ N) (ks : qκ L sf = 12) (ko : qκ L ou = 1 * 1000 + 200) (d1 : sf + 552 ≤ mo) (d2 : mo + 46 ≤ ou) (V : q_INV L sf mo h) (K : x_K8 sf mo h) (K4 : x_K4 L sf mo h) : ∃ y h1 b h2, gO h sf 11 = some () ∧ f_SF_where N sf h = some (y, h1) ∧ gO h1 mo 12 = some () ∧ f_Mod_where N mo h1 = some (b, h2) ∧ q_INV L sf mo h2 ∧ x_K8 sf mo h2 ∧ x_K4 L sf mo h2 := by
  obtain ⟨y, h1, b, h2, g0, c1, g1, c3, V2⟩ := l_where  hN ks ko d1 d2 V
  refine ⟨y, h1, b, h2, g0, c1, g1, c3, V2, ?_⟩
  obtain ⟨π, T, M, I, L0, e1, e2, e3, e4⟩ := V
  obtain ⟨⟨y9, h9⟩, c9, z9⟩ := p_SF_where (N := N) T ks
  dsimp only at z9
  subst h9
  have ee := Option.some.inj (c9.symm.trans c1)
  cases ee
  obtain ⟨π1, D⟩ := q_mid T M L0 d1 (q_WR_r T I)
  have cm : ∀ a, mo ≤ a → a < mo + 46 → h a = h a := fun _ _ _ => rfl
  have cs : ∀ a, sf ≤ a → a < sf + 552 → ¬ (sf + 25 ≤ a ∧ a < sf + 30) → h a = h a := fun _ _ _ _ => rfl
  obtain ⟨T1, M1, -⟩ := id D
  obtain ⟨⟨b6, h6⟩, c6, T2, -⟩ := p_Mod_where (N := N)  T1 M1 q_Wmw
  have ee := Option.some.inj (c3.symm.trans c6)
  cases ee
  obtain ⟨U2, fI, fA, fL⟩ := ii_Mod_where (x_U_of T1) M1 _ c3
  dsimp only at U2 fI fA fL T2
  have co : ∀ a, sf ≤ a → a < sf + 552 → h2 a = h a := fun a p q => q_ce T2 (fun z => by have := z.1; omega)
  refine x_K_all K K4 T M U2 (fun a p q nz => (co a p q).trans (cs a p q nz)) ?_ ?_ ?_ ?_ (fun a p q j j0 => ?_) ?_ ?_ (fun k p q => by rw [fI mo k (by omega)]; first | done | exact x_vI_c (cm _ (by omega) (by omega))) (fun a p q j j0 => by rw [fA a (by omega), x_vA_c (cm a (by omega) (by omega))])
  · rw [fI mo 3 (by omega)]; first | done | exact x_vI_c (cm _ (by omega) (by omega))
  · rw [fI mo 4 (by omega)]; first | done | exact x_vI_c (cm _ (by omega) (by omega))
  · rw [fI mo 7 (by omega)]; first | done | exact x_vI_c (cm _ (by omega) (by omega))
  · rw [fI mo 8 (by omega)]; first | done | exact x_vI_c (cm _ (by omega) (by omega))
  · rw [fA a (by omega), x_vA_c (cm a (by omega) (by omega))]
  · rw [fL _ (by omega)]; first | done | exact x_vL_c (cm _ (by omega) (by omega))
  · rw [fL _ (by omega)]; first | done | exact x_vL_c (cm _ (by omega) (by omega))
theorem l8_out {w : Int32} (hN : 100000 ≤ N) (ks : qκ L sf = 12) (ko : qκ L ou = 1 * 1000 + 200) (d1 : sf + 552 ≤ mo) (d2 : mo + 46 ≤ ou) (V : q_INV L sf mo h) (K : x_K8 sf mo h) (K4 : x_K4 L sf mo h) : ∃ y h1 b h2, f_Law_out N sf w ou h = some (y, h1) ∧ gO h1 mo 12 = some () ∧ f_Mod_out N mo w h1 = some (b, h2) ∧ q_INV L sf mo h2 ∧ x_K8 sf mo h2 ∧ x_K4 L sf mo h2 := by
  obtain ⟨y, h1, b, h2, c1, g1, c3, V2⟩ := l_out (w := w) hN ks ko d1 d2 V
  refine ⟨y, h1, b, h2, c1, g1, c3, V2, ?_⟩
  obtain ⟨π, T, M, I, L0, e1, e2, e3, e4⟩ := V
  obtain ⟨⟨y9, h9⟩, c9, W1, -⟩ := i_out (N := N) (w := w) T ks (fun _ _ _ => trivial) ko trivial I hN
  obtain ⟨π8, T8, -⟩ := id W1
  have ee := Option.some.inj (c1.symm.trans c9)
  cases ee
  obtain ⟨π1, D⟩ := q_mid T M L0 d1 (q_WR_0 W1)
  obtain ⟨⟨y7, h7⟩, c7, ⟨π7, T7, -⟩, -⟩ := i_out (N := N) (w := w) (W := q_Wc sf ou) (q_rr T) ks (fun a p q => Or.inl ⟨p, q⟩) ko (Or.inr rfl) I hN
  have ee := Option.some.inj (c1.symm.trans c7)
  cases ee
  have cm : ∀ a, mo ≤ a → a < mo + 46 → h1 a = h a := fun a p q => q_ce T7 (fun z => by rcases z with z | z <;> omega)
  unfold f_Law_out at c1
  obtain ⟨r, er, ec, -⟩ := x_wrp c1 (fun E h4 y5 h5 z => by first | exact x_ih z (fun z => by cases z) | exact x_ih z (fun z => x_ih z (fun z => by cases z)) | exact x_ih z (fun z => x_ih z (fun z => x_ih z (fun z => by cases z))) | exact x_ih z (fun z => x_ih z (fun z => x_ih z (fun z => x_ih z (fun z => by cases z)))) | exact x_ih z (fun z => x_ih z (fun z => x_ih z (fun z => x_ih z (fun z => x_ih z (fun z => by cases z))))) | cases z)
  obtain ⟨p, q, s, t', d, i1, i2, i3, i4, i5, i6, i7, i8⟩ := id I
  obtain ⟨r9, er9, Tr9, -⟩ := p9_SF_out (N := N) (W := fun _ => False) (v1 := w) (q_rr T) ks (fun a z => z.elim)
  have ee := Option.some.inj (er9.symm.trans er)
  subst ee
  have cr : ∀ a, sf ≤ a → a < sf + 552 → ¬ (sf + 25 ≤ a ∧ a < sf + 30) → r9.2 a = h a := fun a _ _ _ => q_ce Tr9 (fun z => z)
  have cs : ∀ a, sf ≤ a → a < sf + 552 → ¬ (sf + 25 ≤ a ∧ a < sf + 30) → h1 a = h a := fun a p q nz => (ec a (by omega)).trans (cr a p q nz)
  obtain ⟨T1, M1, -⟩ := id D
  obtain ⟨⟨b6, h6⟩, c6, T2, -⟩ := p_Mod_out (N := N) (v1 := w) T1 M1 q_Wmw
  have ee := Option.some.inj (c3.symm.trans c6)
  cases ee
  obtain ⟨U2, fI, fA, fL⟩ := ii_Mod_out (x_U_of T1) M1 _ c3
  dsimp only at U2 fI fA fL T2
  have co : ∀ a, sf ≤ a → a < sf + 552 → h2 a = h1 a := fun a p q => q_ce T2 (fun z => by have := z.1; omega)
  refine x_K_all K K4 T M U2 (fun a p q nz => (co a p q).trans (cs a p q nz)) ?_ ?_ ?_ ?_ (fun a p q j j0 => ?_) ?_ ?_ (fun k p q => by rw [fI mo k (by omega)]; first | done | exact x_vI_c (cm _ (by omega) (by omega))) (fun a p q j j0 => by rw [fA a (by omega), x_vA_c (cm a (by omega) (by omega))])
  · rw [fI mo 3 (by omega)]; first | done | exact x_vI_c (cm _ (by omega) (by omega))
  · rw [fI mo 4 (by omega)]; first | done | exact x_vI_c (cm _ (by omega) (by omega))
  · rw [fI mo 7 (by omega)]; first | done | exact x_vI_c (cm _ (by omega) (by omega))
  · rw [fI mo 8 (by omega)]; first | done | exact x_vI_c (cm _ (by omega) (by omega))
  · rw [fA a (by omega), x_vA_c (cm a (by omega) (by omega))]
  · rw [fL _ (by omega)]; first | done | exact x_vL_c (cm _ (by omega) (by omega))
  · rw [fL _ (by omega)]; first | done | exact x_vL_c (cm _ (by omega) (by omega))
theorem l8_count {w : Int32} (hN : 100000 ≤ N) (ks : qκ L sf = 12) (ko : qκ L ou = 1 * 1000 + 200) (d1 : sf + 552 ≤ mo) (d2 : mo + 46 ≤ ou) (V : q_INV L sf mo h) (K : x_K8 sf mo h) (K4 : x_K4 L sf mo h) : ∃ y h1 b h2, f_Law_count N sf w ou h = some (y, h1) ∧ gO h1 mo 12 = some () ∧ f_Mod_count N mo w h1 = some (b, h2) ∧ q_INV L sf mo h2 ∧ x_K8 sf mo h2 ∧ x_K4 L sf mo h2 := by
  obtain ⟨y, h1, b, h2, c1, g1, c3, V2⟩ := l_count (w := w) hN ks ko d1 d2 V
  refine ⟨y, h1, b, h2, c1, g1, c3, V2, ?_⟩
  obtain ⟨π, T, M, I, L0, e1, e2, e3, e4⟩ := V
  obtain ⟨⟨y9, h9⟩, c9, W1, -⟩ := i_count (N := N) (w := w) T ks (fun _ _ _ => trivial) ko trivial I hN
  obtain ⟨π8, T8, -⟩ := id W1
  have ee := Option.some.inj (c1.symm.trans c9)
  cases ee
  obtain ⟨π1, D⟩ := q_mid T M L0 d1 (q_WR_0 W1)
  obtain ⟨⟨y7, h7⟩, c7, ⟨π7, T7, -⟩, -⟩ := i_count (N := N) (w := w) (W := q_Wc sf ou) (q_rr T) ks (fun a p q => Or.inl ⟨p, q⟩) ko (Or.inr rfl) I hN
  have ee := Option.some.inj (c1.symm.trans c7)
  cases ee
  have cm : ∀ a, mo ≤ a → a < mo + 46 → h1 a = h a := fun a p q => q_ce T7 (fun z => by rcases z with z | z <;> omega)
  unfold f_Law_count at c1
  obtain ⟨r, er, ec, -⟩ := x_wrp c1 (fun E h4 y5 h5 z => by first | exact x_ih z (fun z => by cases z) | exact x_ih z (fun z => x_ih z (fun z => by cases z)) | exact x_ih z (fun z => x_ih z (fun z => x_ih z (fun z => by cases z))) | exact x_ih z (fun z => x_ih z (fun z => x_ih z (fun z => x_ih z (fun z => by cases z)))) | exact x_ih z (fun z => x_ih z (fun z => x_ih z (fun z => x_ih z (fun z => x_ih z (fun z => by cases z))))) | cases z)
  obtain ⟨p, q, s, t', d, i1, i2, i3, i4, i5, i6, i7, i8⟩ := id I
  obtain ⟨r9, er9, Tr9, -⟩ := p9_SF_count (N := N) (W := fun _ => False) (v1 := w) (q_rr T) ks i3 i1 (fun a z => z.elim)
  have ee := Option.some.inj (er9.symm.trans er)
  subst ee
  have cr : ∀ a, sf ≤ a → a < sf + 552 → ¬ (sf + 25 ≤ a ∧ a < sf + 30) → r9.2 a = h a := fun a _ _ _ => q_ce Tr9 (fun z => z)
  have cs : ∀ a, sf ≤ a → a < sf + 552 → ¬ (sf + 25 ≤ a ∧ a < sf + 30) → h1 a = h a := fun a p q nz => (ec a (by omega)).trans (cr a p q nz)
  obtain ⟨T1, M1, -⟩ := id D
  obtain ⟨⟨b6, h6⟩, c6, T2, -⟩ := p_Mod_count (N := N) (v1 := w) T1 M1 q_Wmw
  have ee := Option.some.inj (c3.symm.trans c6)
  cases ee
  obtain ⟨U2, fI, fA, fL⟩ := ii_Mod_count (x_U_of T1) M1 _ c3
  dsimp only at U2 fI fA fL T2
  have co : ∀ a, sf ≤ a → a < sf + 552 → h2 a = h1 a := fun a p q => q_ce T2 (fun z => by have := z.1; omega)
  refine x_K_all K K4 T M U2 (fun a p q nz => (co a p q).trans (cs a p q nz)) ?_ ?_ ?_ ?_ (fun a p q j j0 => ?_) ?_ ?_ (fun k p q => by rw [fI mo k (by omega)]; first | done | exact x_vI_c (cm _ (by omega) (by omega))) (fun a p q j j0 => by rw [fA a (by omega), x_vA_c (cm a (by omega) (by omega))])
  · rw [fI mo 3 (by omega)]; first | done | exact x_vI_c (cm _ (by omega) (by omega))
  · rw [fI mo 4 (by omega)]; first | done | exact x_vI_c (cm _ (by omega) (by omega))
  · rw [fI mo 7 (by omega)]; first | done | exact x_vI_c (cm _ (by omega) (by omega))
  · rw [fI mo 8 (by omega)]; first | done | exact x_vI_c (cm _ (by omega) (by omega))
  · rw [fA a (by omega), x_vA_c (cm a (by omega) (by omega))]
  · rw [fL _ (by omega)]; first | done | exact x_vL_c (cm _ (by omega) (by omega))
  · rw [fL _ (by omega)]; first | done | exact x_vL_c (cm _ (by omega) (by omega))
theorem l8_ran {w : Int32} (hN : 100000 ≤ N) (ks : qκ L sf = 12) (ko : qκ L ou = 1 * 1000 + 200) (d1 : sf + 552 ≤ mo) (d2 : mo + 46 ≤ ou) (V : q_INV L sf mo h) (K : x_K8 sf mo h) (K4 : x_K4 L sf mo h) : ∃ y h1 b h2, f_Law_ran N sf w ou h = some (y, h1) ∧ gO h1 mo 12 = some () ∧ f_Mod_ran N mo w h1 = some (b, h2) ∧ q_INV L sf mo h2 ∧ x_K8 sf mo h2 ∧ x_K4 L sf mo h2 := by
  obtain ⟨y, h1, b, h2, c1, g1, c3, V2⟩ := l_ran (w := w) hN ks ko d1 d2 V
  refine ⟨y, h1, b, h2, c1, g1, c3, V2, ?_⟩
  obtain ⟨π, T, M, I, L0, e1, e2, e3, e4⟩ := V
  obtain ⟨⟨y9, h9⟩, c9, W1, -⟩ := i_ran (N := N) (w := w) T ks (fun _ _ _ => trivial) ko trivial I hN
  obtain ⟨π8, T8, -⟩ := id W1
  have ee := Option.some.inj (c1.symm.trans c9)
  cases ee
  obtain ⟨π1, D⟩ := q_mid T M L0 d1 (q_WR_0 W1)
  obtain ⟨⟨y7, h7⟩, c7, ⟨π7, T7, -⟩, -⟩ := i_ran (N := N) (w := w) (W := q_Wc sf ou) (q_rr T) ks (fun a p q => Or.inl ⟨p, q⟩) ko (Or.inr rfl) I hN
  have ee := Option.some.inj (c1.symm.trans c7)
  cases ee
  have cm : ∀ a, mo ≤ a → a < mo + 46 → h1 a = h a := fun a p q => q_ce T7 (fun z => by rcases z with z | z <;> omega)
  unfold f_Law_ran at c1
  obtain ⟨r, er, ec, -⟩ := x_wrp c1 (fun E h4 y5 h5 z => by first | exact x_ih z (fun z => by cases z) | exact x_ih z (fun z => x_ih z (fun z => by cases z)) | exact x_ih z (fun z => x_ih z (fun z => x_ih z (fun z => by cases z))) | exact x_ih z (fun z => x_ih z (fun z => x_ih z (fun z => x_ih z (fun z => by cases z)))) | exact x_ih z (fun z => x_ih z (fun z => x_ih z (fun z => x_ih z (fun z => x_ih z (fun z => by cases z))))) | cases z)
  obtain ⟨p, q, s, t', d, i1, i2, i3, i4, i5, i6, i7, i8⟩ := id I
  obtain ⟨r9, er9, Tr9, -⟩ := p9_SF_ran (N := N) (W := fun _ => False) (v1 := w) (q_rr T) ks i6.2.2.2.1 i6.1 i6.2.2.2.2.1 i6.2.1 (fun a z => z.elim)
  have ee := Option.some.inj (er9.symm.trans er)
  subst ee
  have cr : ∀ a, sf ≤ a → a < sf + 552 → ¬ (sf + 25 ≤ a ∧ a < sf + 30) → r9.2 a = h a := fun a _ _ _ => q_ce Tr9 (fun z => z)
  have cs : ∀ a, sf ≤ a → a < sf + 552 → ¬ (sf + 25 ≤ a ∧ a < sf + 30) → h1 a = h a := fun a p q nz => (ec a (by omega)).trans (cr a p q nz)
  obtain ⟨T1, M1, -⟩ := id D
  obtain ⟨⟨b6, h6⟩, c6, T2, -⟩ := p_Mod_ran (N := N) (v1 := w) T1 M1 q_Wmw
  have ee := Option.some.inj (c3.symm.trans c6)
  cases ee
  obtain ⟨U2, fI, fA, fL⟩ := ii_Mod_ran (x_U_of T1) M1 _ c3
  dsimp only at U2 fI fA fL T2
  have co : ∀ a, sf ≤ a → a < sf + 552 → h2 a = h1 a := fun a p q => q_ce T2 (fun z => by have := z.1; omega)
  refine x_K_all K K4 T M U2 (fun a p q nz => (co a p q).trans (cs a p q nz)) ?_ ?_ ?_ ?_ (fun a p q j j0 => ?_) ?_ ?_ (fun k p q => by rw [fI mo k (by omega)]; first | done | exact x_vI_c (cm _ (by omega) (by omega))) (fun a p q j j0 => by rw [fA a (by omega), x_vA_c (cm a (by omega) (by omega))])
  · rw [fI mo 3 (by omega)]; first | done | exact x_vI_c (cm _ (by omega) (by omega))
  · rw [fI mo 4 (by omega)]; first | done | exact x_vI_c (cm _ (by omega) (by omega))
  · rw [fI mo 7 (by omega)]; first | done | exact x_vI_c (cm _ (by omega) (by omega))
  · rw [fI mo 8 (by omega)]; first | done | exact x_vI_c (cm _ (by omega) (by omega))
  · rw [fA a (by omega), x_vA_c (cm a (by omega) (by omega))]
  · rw [fL _ (by omega)]; first | done | exact x_vL_c (cm _ (by omega) (by omega))
  · rw [fL _ (by omega)]; first | done | exact x_vL_c (cm _ (by omega) (by omega))
theorem x_szl {w s : Int32} (s0 : 0 ≤ s) (h : w ≤ s - 1) : w < s := by lia
theorem x_Mod_match8 {w u v : Int32} (U : x_U L π h) (M : q_M L π mo) (sz0 : ∀ i, 0 ≤ vA h (mo + 19) i) (ln : ∀ i, 0 ≤ vA h (mo + 2) i ∧ vA h (mo + 2) i ≤ 24) (PP : ¬ vI h mo 8 = 0 → 0 ≤ w → w < vA h (mo + 19) (vI h mo 7) → vA h (mo + 4) (40 * vI h mo 7 + w) = 115 → ∃ s1 s2 g, r_PP h mo (vA h (mo + 9) (40 * vI h mo 7 + w)) s1 s2 g) : qi (f_Mod_match N mo w u v h) (fun r => x_U L π r.2 ∧ ∀ a, a ≠ mo → a ≠ mo + 36 → a ≠ mo + 37 → a ≠ mo + 38 → r.2 a = h a) := by
  have fl : ∀ (x : Int32), qi (z_b (f_Mod_fail N mo x h) fun r => some (r.1, r.2)) (fun r => x_U L π r.2 ∧ ∀ a, a ≠ mo → a ≠ mo + 36 → a ≠ mo + 37 → a ≠ mo + 38 → r.2 a = h a) := by
    intro x
    unfold f_Mod_fail
    refine qi_b (P := fun r => x_U L π r.2 ∧ ∀ b, b ≠ mo → r.2 b = h b) ?_ ?_
    · refine l_sIc U (q_Mk M) (by decide) rfl ?_
      intro h1 U1 c _
      exact qi_some ⟨U1, c⟩
    · intro r c
      exact qi_some ⟨c.1, fun a n1 _ _ _ => c.2 a n1⟩
  unfold f_Mod_match
  refine jj_Mod_in (v0 := v) (v1 := 0) (v2 := 7) U (fun _ _ => ?_) (fun _ _ => ?_)
  rotate_left
  · try dsimp only
    rw [if_pos rfl]
    refine l_gO ?_
    exact fl 1
  try dsimp only
  rw [if_neg (by decide)]
  refine l_gI (e := vI h mo 8) rfl ?_
  refine qi_if (fun c => ?_) (fun np => ?_)
  · refine l_gO ?_
    exact fl 3
  refine l_gR U (d_Mo_24 M) ?_
  refine l_gI (e := vI h mo 7) rfl ?_
  refine l_aI (e := vA h (mo + 19) (vI h mo 7)) (fun _ => rfl) (fun _ => ?_)
  refine jj_Mod_in (v0 := w) (v1 := 0) (v2 := vA h (mo + 19) (vI h mo 7) - 1) U (fun _ gw => ?_) (fun _ _ => ?_)
  rotate_left
  · try dsimp only
    rw [if_pos rfl]
    unfold f_Mod_match_62
    refine l_gO ?_
    exact fl 2
  try dsimp only
  rw [if_neg (by decide)]
  refine l_gI (e := vI h mo 4) rfl ?_
  refine jj_Mod_in (v0 := u) (v1 := 0) (v2 := vI h mo 4 - 1) U (fun _ gu => ?_) (fun _ _ => ?_)
  rotate_left
  · try dsimp only
    rw [if_pos rfl]
    unfold f_Mod_match_62
    refine l_gO ?_
    exact fl 2
  try dsimp only
  rw [if_neg (by decide)]
  refine l_gI (e := vI h mo 7) rfl ?_
  refine qi_bs ?_
  refine l_gR U (d_Mo_9 M) ?_
  refine l_aI (e := vA h (mo + 4) (40 * vI h mo 7 + w)) (fun _ => rfl) (fun _ => ?_)
  refine qi_if (fun c115 => ?_) (fun c115 => ?_)
  rotate_left
  · refine l_gO ?_
    exact fl 1
  obtain ⟨s1, s2, g, SX, WF, OC, -⟩ := PP np gw.1 (x_szl (sz0 _) gw.2) c115
  refine l_sIc U (q_Mk M) (by decide) rfl ?_
  intro h18 U18 c18 i18
  refine l_gO ?_
  have e2 : vA h18 (mo + 2) = vA h (mo + 2) := x_vA_c (c18 _ (by omega))
  refine qi_b (P := fun r => x_U L π r ∧ (∀ a, a ≠ mo → a ≠ mo + 36 → r a = h a) ∧ vI r mo 54 = vA h (mo + 2) u) ?_ ?_
  · unfold f_Mod_takeLine
    refine l_gR U18 (d_Mo_1 M) ?_
    refine l_aI (e := vA h (mo + 2) u) (fun _ => by rw [e2]) (fun _ => ?_)
    refine l_sIc U18 (q_Mk M) (by decide) rfl ?_
    intro h3 U3 c3 i3
    refine qi_mono (x_tl12 M N 0 h3 U3) ?_
    rintro r ⟨Ur, cr⟩
    refine ⟨Ur, fun a n1 n2 => (cr a n2).trans ((c3 a n1).trans (c18 a n1)), ?_⟩
    rw [x_vI_c (cr mo (by omega)), i3, if_pos rfl]
  rintro h20 ⟨U20, c20, i20⟩
  have eA : ∀ a, mo < a → a < mo + 36 → vA h20 a = vA h a := fun a p q => x_vA_c (c20 a (by omega) (by omega))
  refine l_gR U20 (d_Mo_14 M) ?_
  refine l_aI (e := vA h (mo + 9) (40 * vI h mo 7 + w)) (fun _ => by rw [eA _ (by omega) (by omega)]) (fun _ => ?_)
  refine l_gO ?_
  have lu := ln u
  have F := y_fm (N := N) (q := vA h (mo + 9) (40 * vI h mo 7 + w)) (s1 := s1) (s2 := s2) (g := g) (fm := 0) U20 M (by rw [i20]; exact lu.1) (by rw [i20]; exact Int32.le_trans lu.2 (by decide)) (by rw [eA (mo + 26) (by omega) (by omega), eA (mo + 29) (by omega) (by omega), eA (mo + 23) (by omega) (by omega), eA (mo + 24) (by omega) (by omega)]; exact SX) (by rw [eA (mo + 26) (by omega) (by omega), eA (mo + 27) (by omega) (by omega), eA (mo + 23) (by omega) (by omega), eA (mo + 24) (by omega) (by omega)]; exact WF) (by rw [eA (mo + 26) (by omega) (by omega), eA (mo + 23) (by omega) (by omega), eA (mo + 24) (by omega) (by omega)]; exact OC) (by decide)
  refine qi_b F ?_
  rintro ⟨y24, h24⟩ ⟨⟨U24, c24, i24⟩, -⟩
  dsimp only at U24 c24 i24 ⊢
  have fin : ∀ z : Int32, x_U L π (z, h24).2 ∧ ∀ a, a ≠ mo → a ≠ mo + 36 → a ≠ mo + 37 → a ≠ mo + 38 → (z, h24).2 a = h a := fun z => ⟨U24, fun a n1 n2 n3 n4 => (c24 a n1 n3 n4).trans (c20 a n1 n2)⟩
  refine qi_bs ?_
  refine qi_if (fun _ => qi_some (fin _)) (fun _ => ?_)
  refine qi_if (fun _ => ?_) (fun _ => ?_)
  · refine qi_if (fun _ => ?_) (fun _ => ?_)
    · refine l_gR U24 (d_Mo_52 M) ?_
      refine l_aI (e := _) (fun _ => rfl) (fun _ => ?_)
      exact qi_some (fin _)
    · refine l_gR U24 (d_Mo_53 M) ?_
      refine l_aI (e := _) (fun _ => rfl) (fun _ => ?_)
      exact qi_some (fin _)
  · refine qi_if (fun _ => ?_) (fun _ => ?_)
    · refine l_gI (e := _) rfl ?_
      exact qi_some (fin _)
    · refine l_gI (e := _) rfl ?_
      refine l_gI (e := _) rfl ?_
      exact qi_some (fin _)

theorem x_both8 (K3 : x_K3 sf mo h) (np : ¬ vI h mo 8 = 0) (T : q_U L W h0 π h) (M : q_M L π mo) (I : q_IC L π h sf) (lc : Int32) : ∃ pg TX, π sf 6 = some pg ∧ qκ L pg = 10 ∧ (pg = sf + 30 ∨ pg = sf + 279) ∧ ¬ vI h sf 8 = 0 ∧ y_R1 h (pg + 1) 240 TX ∧ y_PRG h pg ∧ vI h pg 3 = vA h (mo + 19) (vI h mo 7) ∧ vI h pg 3 ≤ 40 ∧ ∀ k, 0 ≤ k → k < vI h pg 3 → r_CM h mo lc (vI h pg 3) (40 * vI h mo 7 + k) (vI h (y_cm pg k) 3) (vI h (y_cm pg k) 7) (vI h (y_cm pg k) 13) (vI h (y_cm pg k) 5) (vI h (y_cm pg k) 6) (y_cX h pg (y_cm pg k)) (y_cY h pg (y_cm pg k)) (y_cS h pg (y_cm pg k)) (fun S rd => y_ft h (pg + 3) (y_cm pg k + 1) S rd lc) (fun S rd => y_ft h (pg + 3) (y_cm pg k + 3) S rd lc) (fun rd => x_rc (vI h (y_cm pg k + 3) 1) (vI h (y_cm pg k + 3) 2) rd) := by
  rcases K3 with ⟨-, z⟩ | ⟨k1, k2, pg, t, n, B, p6, pp, kt, ⟨n0, n1⟩, X, C, R⟩
  · exact absurd z np
  obtain ⟨p, q, s, t', d, i1, i2, i3, i4, i5, i6, i7, i8⟩ := id I
  have U := x_U_of T
  have p6' : π sf 6 = some pg := by rw [← U.2.2.2.1]; exact p6
  have ep : p = pg := Option.some.inj (i1.symm.trans p6')
  subst ep
  have kI := e_Prog_1 U i3
  have cI := q_CIt T kI
  unfold q_C_It at cI
  have sz := T.2.2.2.1 (p + 3) 4
  rw [cI.1.1, cI.1.2] at sz
  obtain ⟨YP, s1, s2, s3, CM⟩ := x_BOTH T kI M sz.2 n1 kt X C R lc
  refine ⟨p, x_rw h (p + 1), i1, i3, pp, k1, ⟨rfl, ?_, ?_⟩, YP, s1.trans s2.symm, by rw [s1]; exact s3, fun k k0 k9 => ?_⟩
  · rw [X.2]; exact ⟨n0, n1⟩
  · intro c hc
    unfold x_rw x_sl at hc
    obtain ⟨j, hj, rfl⟩ := List.mem_map.mp hc
    rw [X.2] at hj
    have z := x_ct_i n0 (Int32.le_refl 0) (List.mem_range.mp hj)
    rw [X.1 _ z.1 z.2]
    exact kt _
  · rw [s1] at k9 ⊢
    exact CM k k0 k9
theorem x_PP8 {w : Int32} (K3 : x_K3 sf mo h) (T : q_U L W h0 π h) (M : q_M L π mo) (I : q_IC L π h sf) (np : ¬ vI h mo 8 = 0) (w0 : 0 ≤ w) (w1 : w < vA h (mo + 19) (vI h mo 7)) (e4 : vA h (mo + 4) (40 * vI h mo 7 + w) = 115) : ∃ s1 s2 g, r_PP h mo (vA h (mo + 9) (40 * vI h mo 7 + w)) s1 s2 g := by
  obtain ⟨pg, TX, -, -, -, -, -, -, s1, -, CM⟩ := x_both8 K3 np T M I 0
  obtain ⟨⟨kd, -⟩, -, -, S, -⟩ := CM w w0 (by rw [s1]; exact w1)
  obtain ⟨-, -, t1, t2, g, P, -⟩ := S (kd.trans e4)
  exact ⟨t1, t2, g, P⟩

theorem l8_match {w u v : Int32} (hN : 100000 ≤ N) (ks : qκ L sf = 12) (ko : qκ L ou = 1 * 1000 + 200) (d1 : sf + 552 ≤ mo) (d2 : mo + 46 ≤ ou) (V : q_INV L sf mo h) (K : x_K8 sf mo h) (K4 : x_K4 L sf mo h) : ∃ y h1 b h2, f_Law_match N sf w u v ou h = some (y, h1) ∧ gO h1 mo 12 = some () ∧ f_Mod_match N mo w u v h1 = some (b, h2) ∧ q_INV L sf mo h2 ∧ x_K8 sf mo h2 ∧ x_K4 L sf mo h2 := by
  obtain ⟨y, h1, b, h2, c1, g1, c3, V2⟩ := l_match (w := w) (u := u) (v := v) hN ks ko d1 d2 V
  refine ⟨y, h1, b, h2, c1, g1, c3, V2, ?_⟩
  obtain ⟨π, T, M, I, L0, e1, e2, e3, e4⟩ := V
  obtain ⟨⟨y9, h9⟩, c9, W1, -⟩ := i_match (N := N) (w := w) (u := u) (v := v) T ks (fun _ _ _ => trivial) ko trivial I hN
  obtain ⟨π8, T8, -⟩ := id W1
  have ee := Option.some.inj (c1.symm.trans c9)
  cases ee
  obtain ⟨π1, D⟩ := q_mid T M L0 d1 (q_WR_0 W1)
  obtain ⟨⟨y7, h7⟩, c7, ⟨π7, T7, -⟩, -⟩ := i_match (N := N) (w := w) (u := u) (v := v) (W := q_Wc sf ou) (q_rr T) ks (fun a p q => Or.inl ⟨p, q⟩) ko (Or.inr rfl) I hN
  have ee := Option.some.inj (c1.symm.trans c7)
  cases ee
  have cm : ∀ a, mo ≤ a → a < mo + 46 → h1 a = h a := fun a p q => q_ce T7 (fun z => by rcases z with z | z <;> omega)
  unfold f_Law_match at c1
  obtain ⟨r, er, ec, -⟩ := x_wrp c1 (fun E h4 y5 h5 z => by first | exact x_ih z (fun z => by cases z) | exact x_ih z (fun z => x_ih z (fun z => by cases z)) | exact x_ih z (fun z => x_ih z (fun z => x_ih z (fun z => by cases z))) | exact x_ih z (fun z => x_ih z (fun z => x_ih z (fun z => x_ih z (fun z => by cases z)))) | exact x_ih z (fun z => x_ih z (fun z => x_ih z (fun z => x_ih z (fun z => x_ih z (fun z => by cases z))))) | cases z)
  obtain ⟨p, q, s, t', d, i1, i2, i3, i4, i5, i6, i7, i8⟩ := id I
  obtain ⟨r9, er9, πr, Tr9, -⟩ := p9_SF_match (N := N) (W := fun a => sf + 25 ≤ a ∧ a < sf + 30) (v1 := w) (v2 := u) (v3 := v) (q_rr T) ks i3 i1 (fun a z => z) i8 (by omega) (by omega) hN
  have ee := Option.some.inj (er9.symm.trans er)
  subst ee
  have cr : ∀ a, sf ≤ a → a < sf + 552 → ¬ (sf + 25 ≤ a ∧ a < sf + 30) → r9.2 a = h a := fun a _ _ nz => q_ce Tr9 nz
  have cs : ∀ a, sf ≤ a → a < sf + 552 → ¬ (sf + 25 ≤ a ∧ a < sf + 30) → h1 a = h a := fun a p q nz => (ec a (by omega)).trans (cr a p q nz)
  obtain ⟨T1, M1, -⟩ := id D
  obtain ⟨-, -, -, L1, -⟩ := id D
  obtain ⟨⟨b6, h6⟩, c6, T2, fI, fA⟩ := p_Mod_match (N := N) (v1 := w) (v2 := u) (v3 := v) T1 M1 q_Wmw L1 hN
  have ee := Option.some.inj (c3.symm.trans c6)
  cases ee
  have F : r_X mo h h1 := fun a p q => cm a (by omega) (by omega)
  have eI : ∀ k, vI h1 mo k = vI h mo k := fun k => x_vI_c (cm mo (by omega) (by omega))
  have eA : ∀ a, mo < a → a < mo + 36 → vA h1 a = vA h a := fun a p q => x_vA_c (cm a (by omega) (by omega))
  obtain ⟨U2, cc⟩ := x_Mod_match8 (N := N) (w := w) (u := u) (v := v) (x_U_of T1) M1 (fun i => by rw [eA _ (by omega) (by omega)]; exact (g_Mo_e19 T M i).1) (fun i => by rw [eA _ (by omega) (by omega)]; exact g_Mo_e2 T M i) (fun n8 w0 w1 e4 => by
    rw [eI] at n8
    rw [eI, eA _ (by omega) (by omega)] at w1
    rw [eI, eA _ (by omega) (by omega)] at e4
    obtain ⟨s1, s2, g, P⟩ := x_PP8 K.2.2 T M I n8 w0 w1 e4
    refine ⟨s1, s2, g, ?_⟩
    rw [eI, eA _ (by omega) (by omega), r_PP_e F]
    exact P) _ c3
  dsimp only at U2 fI fA cc T2
  have co : ∀ a, sf ≤ a → a < sf + 552 → h2 a = h1 a := fun a p q => q_ce T2 (fun z => by have := z.1; omega)
  refine x_K_all K K4 T M U2 (fun a p q nz => (co a p q).trans (cs a p q nz)) ?_ ?_ ?_ ?_ (fun a p q j j0 => ?_) ?_ ?_ (fun k p q => by rw [fI mo k (by omega)]; exact eI k) (fun a p q j j0 => by rw [fA a j j0 (by omega)]; rw [x_vA_c (cm a (by omega) (by omega))])
  · rw [fI mo 3 (by omega)]; exact eI 3
  · rw [fI mo 4 (by omega)]; exact eI 4
  · rw [fI mo 7 (by omega)]; exact eI 7
  · rw [fI mo 8 (by omega)]; exact eI 8
  · rw [fA a j j0 (by omega), eA a (by omega) (by omega)]
  · rw [x_vL_c (cc (mo + 32) (by omega) (by omega) (by omega) (by omega))]; first | done | exact x_vL_c (cm _ (by omega) (by omega))
  · rw [x_vL_c (cc (mo + 33) (by omega) (by omega) (by omega) (by omega))]; first | done | exact x_vL_c (cm _ (by omega) (by omega))
theorem uL_a {h h' : z_H} {a : Nat} {x : Int64} (e : uL h a 0 x = some h') : aL h' a 0 = some x := by
  unfold uL at e
  split at e
  · next t' n f he =>
    split at e
    · next c =>
      cases e
      unfold aL z_up
      rw [if_pos rfl]
      dsimp only
      rw [if_pos ⟨rfl, c.2⟩]
      exact congrArg some (by unfold vp_updL; exact if_pos rfl)
    · cases e
  · cases e
theorem r_LN_c {lc : Int32} {LN : Int32 → List Int32} (P : r_LN h mo lc LN) (e4 : vI h1 mo 4 = vI h mo 4) (a2 : vA h1 (mo + 2) = vA h (mo + 2)) (a3 : vA h1 (mo + 3) = vA h (mo + 3)) : r_LN h1 mo lc LN := by
  unfold r_LN
  rw [e4, a2, a3]
  exact P
theorem l8_run (hN : 100000 ≤ N) (ks : qκ L sf = 12) (ko : qκ L ou = 1 * 1000 + 200) (d1 : sf + 552 ≤ mo) (d2 : mo + 46 ≤ ou) (ly : y_L L (sf + 9)) (V : q_INV L sf mo h) (K : x_K8 sf mo h) (K4 : x_K4 L sf mo h) : ∃ y h1 b h2, f_Law_run N sf ou h = some (y, h1) ∧ gO h1 mo 12 = some () ∧ f_Mod_run N mo h1 = some (b, h2) ∧ q_INV L sf mo h2 ∧ x_K8 sf mo h2 ∧ x_K4 L sf mo h2 ∧ gO h2 mo 12 = some () ∧ f_Mod_thrown N mo h2 = some (y, h2) ∧ (y = 0 → aL h2 ou 0 = some (Int32.toInt64 b)) := by
  obtain ⟨y, h1, b, h2, c1, g1, c3, V2⟩ := l_run hN ks ko d1 d2 V
  refine ⟨y, h1, b, h2, c1, g1, c3, V2, ?_⟩
  obtain ⟨π, T, M, I, L0, e1, e2, e3, e4⟩ := V
  obtain ⟨⟨y9, h9⟩, c9, W1, -⟩ := i_run (N := N) T ks (fun _ _ _ => trivial) ko trivial I hN
  have ee := Option.some.inj (c1.symm.trans c9)
  cases ee
  obtain ⟨π1, D⟩ := q_mid T M L0 d1 (q_WR_0 W1)
  obtain ⟨⟨y7, h7⟩, c7, ⟨π7, T7, -⟩, -⟩ := i_run (N := N) (W := q_Wc sf ou) (q_rr T) ks (fun a p q => Or.inl ⟨p, q⟩) ko (Or.inr rfl) I hN
  have ee := Option.some.inj (c1.symm.trans c7)
  cases ee
  have cm : ∀ a, mo ≤ a → a < mo + 46 → h1 a = h a := fun a p q => q_ce T7 (fun z => by rcases z with z | z <;> omega)
  unfold f_Law_run at c1
  obtain ⟨r, er, ec, ev, eE⟩ := x_wrp c1 (fun E h4 y5 h5 z => by first | exact x_ih z (fun z => by cases z) | exact x_ih z (fun z => x_ih z (fun z => by cases z)) | exact x_ih z (fun z => x_ih z (fun z => x_ih z (fun z => by cases z))) | exact x_ih z (fun z => x_ih z (fun z => x_ih z (fun z => x_ih z (fun z => by cases z)))) | exact x_ih z (fun z => x_ih z (fun z => x_ih z (fun z => x_ih z (fun z => x_ih z (fun z => by cases z))))) | cases z)
  obtain ⟨T1, M1, I1, L1, -⟩ := id D
  obtain ⟨⟨b6, h6⟩, c6, T2, fI, fA⟩ := p_Mod_run (N := N) T1 M1 q_Wmw L1 hN
  have ee := Option.some.inj (c3.symm.trans c6)
  cases ee
  dsimp only at T2 fI fA
  have U := x_U_of T
  have U1 := x_U_of T1
  have co : ∀ a, sf ≤ a → a < sf + 552 → h2 a = h1 a := fun a p q => q_ce T2 (fun z => by have := z.1; omega)
  have eI : ∀ k, vI h1 mo k = vI h mo k := fun k => x_vI_c (cm mo (by omega) (by omega))
  have eA : ∀ a, mo < a → a < mo + 46 → vA h1 a = vA h a := fun a p q => x_vA_c (cm a (by omega) (by omega))
  rw [q_thr T2 M1]
  by_cases np : vI h mo 8 = 0
  · have n8 : vI h sf 8 = 0 := by
      rcases K.2.2 with z | z
      · exact z.1
      · exact absurd np z.2.1
    have R0 : qi (f_SF_run N sf h) (fun r => r = (.inr xE2, h)) := by
      unfold f_SF_run
      refine l_gI (e := 0) n8 ?_
      rw [if_pos rfl]
      exact qi_some rfl
    have er0 := R0 r er
    subst er0
    have x1 := eE _ rfl
    rw [if_pos rfl] at x1
    have xx := Option.some.inj x1
    cases xx
    obtain ⟨U2, c2, i2⟩ := r_run0 (N := N) U1 M1 (by rw [eI]; exact np) _ c3
    dsimp only at U2 c2 i2
    obtain ⟨Ka, Kb⟩ := x_K_all (h2 := h2) K K4 T M U2 (fun a p q _ => co a p q) (by rw [i2, if_neg (by decide)]) (by rw [i2, if_neg (by decide)]) (by rw [i2, if_neg (by decide)]) (by rw [i2, if_neg (by decide)]) (fun a p q j j0 => by rw [x_vA_c (c2 a (by omega))]) (x_vL_c (c2 _ (by omega))) (x_vL_c (c2 _ (by omega))) (fun k p q => by rw [i2, if_neg (by omega)]) (fun a p q j _ => by rw [x_vA_c (c2 a (by omega))])
    exact ⟨Ka, Kb, q_gOm T2 M1, by rw [i2, if_pos rfl], fun z => absurd z (by decide)⟩
  obtain ⟨pg, TX, p6, kp, pp, s8, rt, YP, s19, s40, CM⟩ := x_both8 K.2.2 np T M I (vI h sf 5)
  have yl := y_LN_of K.2.1 T M e3
  have rl := r_LN_of K.2.1 T M
  rw [← e2] at yl rl
  obtain ⟨Mf, st, E', bg', RUN, K0, K4', RR⟩ := x_SF_run8 (N := N) T ks s8 p6 kp (by omega) (by omega) ly rt yl YP s40 K4 r er
  have F : r_X mo h h1 := fun a p q => cm a (by omega) (by omega)
  have RES := r_run (N := N) (sz := vI h pg 3) (lc := vI h sf 5) (LN := x_LN mo h) U1 M1 (by rw [eI]; exact np) (r_LN_c rl (eI 4) (eA _ (by omega) (by omega)) (eA _ (by omega) (by omega))) (by rw [eI, eA _ (by omega) (by omega)]; exact s19.symm) s40 (by rw [eI]; exact x_01 (g_Mo_7 T M).1 (g_Mo_7 T M).2) (fun k k0 k1 => by rw [eI]; exact r_CM_x9 M M1 U U1 F (CM k k0 k1)) RUN _ c3
  obtain ⟨⟨A', ⟨⟨U2, -⟩, o69, o65, o66, -⟩⟩, ⟨w70, w72, w73, w71⟩, ry, RB⟩ := RES
  dsimp only at U2 o69 o65 o66 w70 w71 w72 w73 ry RB
  have cR : ∀ a, mo < a → a < mo + 36 → h2 a = h a := fun a p q => (ry.1 a (by omega) (by omega)).trans (cm a (by omega) (by omega))
  have iR : ∀ k, k < 51 → k ≠ 6 → vI h2 mo k = vI h mo k := fun k p q => (ry.2 k p q).trans (eI k)
  obtain ⟨k01, k02⟩ := K0
  have cs : ∀ a, sf ≤ a → a < sf + 552 → ¬ (sf + 9 ≤ a ∧ a < sf + 25) → (∀ i : Nat, i < 40 → a ≠ pg + (9 + 6 * i)) → h2 a = h a := fun a p q n1 n2 => (co a p q).trans ((ec a (by omega)).trans (k01 a (by omega) n2))
  have ci : ∀ a k, sf + 30 ≤ a → a < sf + 528 → ¬ k = 15 → vI h2 a k = vI h a k := by
    intro a k p q n15
    by_cases z : ∃ i : Nat, i < 40 ∧ a = pg + (9 + 6 * i)
    · obtain ⟨i, hi, ea⟩ := z
      subst ea
      rw [x_vI_c (co _ (by omega) (by omega)), x_vI_c (ec _ (by omega))]
      exact k02 i hi k n15
    · exact x_vI_c (cs a (by omega) (by omega) (by omega) (fun i hi w => z ⟨i, hi, w⟩))
  have K8' : x_K8 sf mo h2 := by
    obtain ⟨Ka, Kb, Kc⟩ := K
    refine ⟨x_K1_f Ka (iR 3 (by decide) (by decide)) (fun j _ => by rw [x_vA_c (cR _ (by omega) (by omega))]), x_K2_f Kb T M (iR 4 (by decide) (by decide)) (fun j _ => by rw [x_vA_c (cR _ (by omega) (by omega))]) (fun j _ => by rw [x_vA_c (cR _ (by omega) (by omega))]) (fun i hi j _ => by rw [x_vA_c (cs _ (by omega) (by omega) (by omega) (fun i hi => by omega))]), x_K3_f Kc (x_vI_c (cs _ (by omega) (by omega) (by omega) (fun i hi => by omega))) (x_vR_c (cs _ (by omega) (by omega) (by omega) (fun i hi => by omega))) ci (fun a p => x_vA_c (cs _ (by omega) (by omega) (by omega) (fun i hi => by omega))) (fun a p => x_vL_c (cs _ (by omega) (by omega) (by omega) (fun i hi => by omega))) (iR 7 (by decide) (by decide)) (iR 8 (by decide) (by decide)) (fun a p q j _ => by rw [x_vA_c (cR _ (by omega) (by omega))]) (x_vL_c (cR _ (by omega) (by omega))) (x_vL_c (cR _ (by omega) (by omega)))⟩
  have U2' := x_U_of T2
  obtain ⟨⟨π9, sp9, ho9, dr9, A9, s9⟩, n3, n5, n6, n4⟩ := K4'
  have ch : ∀ a, sf ≤ a → a < sf + 552 → h2 a = r.2 a := fun a p q => (co a p q).trans (ec a (by omega))
  have K4'' : x_K4 L sf mo h2 := by
    refine ⟨_, sp9, ho9, dr9, _, _, _, A9, y_S0_f s9 U2' (fun k => x_vR_c (ch _ (by omega) (by omega))) (fun a p q => x_vI_c (ch a (by omega) (by omega))) (fun a p q j _ => by rw [x_vA_c (ch a (by omega) (by omega))]), ⟨o69, o65, o66⟩, ?_⟩
    unfold x_NB
    rw [x_vI_c (ch (sf + 9) (by omega) (by omega)), x_vI_c (ch (sf + 9) (by omega) (by omega)), x_vI_c (ch (sf + 9) (by omega) (by omega)), x_vI_c (ch (sf + 9) (by omega) (by omega)), n3, n4, n5, n6, w70, w71, w72, w73]
    exact ⟨rfl, rfl, rfl, rfl⟩
  refine ⟨K8', K4'', q_gOm T2 M1, ?_⟩
  have n32 : ¬ xE3 = xE2 := by decide
  have n42 : ¬ xE4 = xE2 := by decide
  have n43 : ¬ xE4 = xE3 := by decide
  rcases RR with ⟨z0, rv⟩ | ⟨z0, rv⟩ | ⟨z0, rv⟩
  · obtain ⟨y0, eu⟩ := ev _ rv
    rcases RB with ⟨w0, w1, w2⟩ | ⟨w0, -⟩ | ⟨w0, -⟩
    · refine ⟨by rw [w1, y0], fun _ => ?_⟩
      rw [q_aLk T2 d2, uL_a eu, w2, x_len8 o69.2.1.1 o69.1]
    · rw [z0] at w0; exact absurd w0 (by decide)
    · rw [z0] at w0; exact absurd w0 (by decide)
  · have x1 := eE _ rv
    rw [if_neg n32, if_pos rfl] at x1
    have y2 : y = 2 := (congrArg Prod.fst (Option.some.inj x1)).symm
    rcases RB with ⟨w0, -⟩ | ⟨w0, w1⟩ | ⟨w0, -⟩
    · rw [z0] at w0; exact absurd w0 (by decide)
    · exact ⟨by rw [w1, y2], fun z => absurd (y2.symm.trans z) (by decide)⟩
    · rw [z0] at w0; exact absurd w0 (by decide)
  · have x1 := eE _ rv
    rw [if_neg n42, if_neg n43, if_pos rfl] at x1
    have y3 : y = 3 := (congrArg Prod.fst (Option.some.inj x1)).symm
    rcases RB with ⟨w0, -⟩ | ⟨w0, -⟩ | ⟨w0, w1⟩
    · rw [z0] at w0; exact absurd w0 (by decide)
    · rw [z0] at w0; exact absurd w0 (by decide)
    · exact ⟨by rw [w1, y3], fun z => absurd (y3.symm.trans z) (by decide)⟩

theorem l8_script {w : Int64} (hN : 100000 ≤ N) (ks : qκ L sf = 12) (ko : qκ L ou = 1 * 1000 + 200) (d1 : sf + 552 ≤ mo) (d2 : mo + 46 ≤ ou) (V : q_INV L sf mo h) (K : x_K8 sf mo h) (K4 : x_K4 L sf mo h) : ∃ y h1 b h2, f_Law_script N sf w ou h = some (y, h1) ∧ gO h1 mo 12 = some () ∧ f_Mod_script N mo w h1 = some (b, h2) ∧ q_INV L sf mo h2 ∧ x_K8 sf mo h2 ∧ x_K4 L sf mo h2 := by
  obtain ⟨y, h1, b, h2, c1, g1, c3, V2, -⟩ := l_script (w := w) hN ks ko d1 d2 V
  refine ⟨y, h1, b, h2, c1, g1, c3, V2, ?_⟩
  obtain ⟨π, T, M, I, L0, e1, e2, e3, e4⟩ := V
  obtain ⟨⟨y9, h9⟩, c9, W1, -⟩ := i_script (N := N) (w := w) T ks (fun _ _ _ => trivial) ko trivial I hN
  have ee := Option.some.inj (c1.symm.trans c9)
  cases ee
  obtain ⟨π1, D⟩ := q_mid T M L0 d1 W1
  obtain ⟨⟨y7, h7⟩, c7, ⟨π7, T7, -⟩, -⟩ := i_script (N := N) (w := w) (W := q_Wc sf ou) (q_rr T) ks (fun a p q => Or.inl ⟨p, q⟩) ko (Or.inr rfl) I hN
  have ee := Option.some.inj (c1.symm.trans c7)
  cases ee
  have cm : ∀ a, mo ≤ a → a < mo + 46 → h1 a = h a := fun a p q => q_ce T7 (fun z => by rcases z with z | z <;> omega)
  unfold f_Law_script at c1
  obtain ⟨r, er, ec, ev, eE⟩ := x_wrp c1 (fun E h4 y5 h5 z => by first | exact x_ih z (fun z => by cases z) | exact x_ih z (fun z => x_ih z (fun z => by cases z)) | exact x_ih z (fun z => x_ih z (fun z => x_ih z (fun z => by cases z))) | exact x_ih z (fun z => x_ih z (fun z => x_ih z (fun z => x_ih z (fun z => by cases z)))) | exact x_ih z (fun z => x_ih z (fun z => x_ih z (fun z => x_ih z (fun z => x_ih z (fun z => by cases z))))) | cases z)
  obtain ⟨T1, M1, I1, L1, -⟩ := id D
  have U := x_U_of T
  have U1 := x_U_of T1
  have eI : ∀ k, vI h1 mo k = vI h mo k := fun k => x_vI_c (cm mo (by omega) (by omega))
  have eA : ∀ a, mo < a → a < mo + 46 → vA h1 a = vA h a := fun a p q => x_vA_c (cm a (by omega) (by omega))
  have eL : ∀ a, mo < a → a < mo + 46 → vL h1 a = vL h a := fun a p q => x_vL_c (cm a (by omega) (by omega))
  obtain ⟨Ka, Kb, Kc⟩ := K
  obtain ⟨⟨b6, h6⟩, c6, T2, g0, g2, g3, g4, g5⟩ := p_Mod_script (N := N) (v1 := w) T1 M1 q_Wmw hN
  have ee := Option.some.inj (c3.symm.trans c6)
  cases ee
  dsimp only at *
  have co : ∀ a, sf ≤ a → a < sf + 552 → h2 a = h1 a := fun a p q => q_ce T2 (fun z => by have := z.1; omega)
  have U2 := x_U_of T2
  obtain ⟨r9, er9, Tr9, sG⟩ := p9_SF_script (N := N) (v1 := w) (W := fun a => a = sf + 1 ∨ a = sf + 2) (q_rr T) ks (fun a z => z) hN
  have ee := Option.some.inj (er9.symm.trans er)
  subst ee
  have cs : ∀ a, sf ≤ a → a < sf + 552 → ¬ (a = sf + 1 ∨ a = sf + 2) → h2 a = h a := fun a p q nz => (co a p q).trans ((ec a (by omega)).trans (q_ce Tr9 nz))
  obtain ⟨-, fI, fA, fL⟩ := ii_Mod_script (N := N) (v1 := w) U1 M1 hN _ c3
  obtain ⟨o0, o1, o2⟩ := x_Mod_script (w := w) T1 M1 q_Wmw hN _ c3
  dsimp only at *
  refine ⟨⟨?_, x_K2_f Kb T M ((fI mo 4 (by omega)).trans (eI 4)) (fun j _ => by rw [fA _ (by omega), eA _ (by omega) (by omega)]) (fun j _ => by rw [fA _ (by omega), eA _ (by omega) (by omega)]) (fun i hi j _ => by rw [x_vA_c (cs _ (by omega) (by omega) (by omega))]), x_K3_f Kc (x_vI_c (cs _ (by omega) (by omega) (by omega))) (x_vR_c (cs _ (by omega) (by omega) (by omega))) (fun a k p q _ => x_vI_c (cs _ (by omega) (by omega) (by omega))) (fun a p => x_vA_c (cs _ (by omega) (by omega) (by omega))) (fun a p => x_vL_c (cs _ (by omega) (by omega) (by omega))) ((fI mo 7 (by omega)).trans (eI 7)) ((fI mo 8 (by omega)).trans (eI 8)) (fun a p q j j0 => by rw [fA a (by omega), eA a (by omega) (by omega)]) ((fL _ (by omega)).trans (eL _ (by omega) (by omega))) ((fL _ (by omega)).trans (eL _ (by omega) (by omega)))⟩, x_K4_f K4 U2 (fun k => x_vR_c (cs _ (by omega) (by omega) (by omega))) (fun a k p q => x_vI_c (cs a (by omega) (by omega) (by omega))) (fun a p q j _ => by rw [x_vA_c (cs a (by omega) (by omega) (by omega))]) (fun k p q => by rw [fI mo k (by omega)]; exact eI k) (fun a p q j j0 => by rw [fA a (by omega), eA a (by omega) (by omega)])⟩
  have k1 : x_K1 mo h1 := x_K1_f Ka (eI 3) (fun j _ => by rw [eA _ (by omega) (by omega)])
  by_cases z : q_okc w 1 8 = 0
  · exact x_K1_f k1 (g0 z).2 (fun j _ => o0 z j)
  · by_cases z2 : vI h1 mo 3 + q_cn w 8 ≤ 240
    · intro j j0 j1
      rw [(g3 z z2).2.2] at j1
      rw [o2 z z2 j j0]
      exact x_ak_8 w 1 _ _ (g_Mo_3 T1 M1).1 ⟨z2, x_rm5 (g_Mo_3 T1 M1).1 (g_Mo_3 T1 M1).2 (q_cnr_8 w)⟩ z k1 j j0 j1
    · exact x_K1_f k1 (g2 z (Int32.not_le.mp z2)).2 (fun j _ => o1 z (Int32.not_le.mp z2) j)
theorem l8_clear {w : Int32} (hN : 100000 ≤ N) (ks : qκ L sf = 12) (ko : qκ L ou = 1 * 1000 + 200) (d1 : sf + 552 ≤ mo) (d2 : mo + 46 ≤ ou) (V : q_INV L sf mo h) (K : x_K8 sf mo h) (K4 : x_K4 L sf mo h) : ∃ y h1 b h2, f_Law_clear N sf w ou h = some (y, h1) ∧ gO h1 mo 12 = some () ∧ f_Mod_clear N mo w h1 = some (b, h2) ∧ q_INV L sf mo h2 ∧ x_K8 sf mo h2 ∧ x_K4 L sf mo h2 := by
  obtain ⟨y, h1, b, h2, c1, g1, c3, V2, -⟩ := l_clear (w := w) hN ks ko d1 d2 V
  refine ⟨y, h1, b, h2, c1, g1, c3, V2, ?_⟩
  obtain ⟨π, T, M, I, L0, e1, e2, e3, e4⟩ := V
  obtain ⟨⟨y9, h9⟩, c9, W1, -⟩ := i_clear (N := N) (w := w) T ks (fun _ _ _ => trivial) ko trivial I hN
  have ee := Option.some.inj (c1.symm.trans c9)
  cases ee
  obtain ⟨π1, D⟩ := q_mid T M L0 d1 (q_WR_0 W1)
  obtain ⟨⟨y7, h7⟩, c7, ⟨π7, T7, -⟩, -⟩ := i_clear (N := N) (w := w) (W := q_Wc sf ou) (q_rr T) ks (fun a p q => Or.inl ⟨p, q⟩) ko (Or.inr rfl) I hN
  have ee := Option.some.inj (c1.symm.trans c7)
  cases ee
  have cm : ∀ a, mo ≤ a → a < mo + 46 → h1 a = h a := fun a p q => q_ce T7 (fun z => by rcases z with z | z <;> omega)
  unfold f_Law_clear at c1
  obtain ⟨r, er, ec, ev, eE⟩ := x_wrp c1 (fun E h4 y5 h5 z => by first | exact x_ih z (fun z => by cases z) | exact x_ih z (fun z => x_ih z (fun z => by cases z)) | exact x_ih z (fun z => x_ih z (fun z => x_ih z (fun z => by cases z))) | exact x_ih z (fun z => x_ih z (fun z => x_ih z (fun z => x_ih z (fun z => by cases z)))) | exact x_ih z (fun z => x_ih z (fun z => x_ih z (fun z => x_ih z (fun z => x_ih z (fun z => by cases z))))) | cases z)
  obtain ⟨T1, M1, I1, L1, -⟩ := id D
  have U := x_U_of T
  have U1 := x_U_of T1
  have eI : ∀ k, vI h1 mo k = vI h mo k := fun k => x_vI_c (cm mo (by omega) (by omega))
  have eA : ∀ a, mo < a → a < mo + 46 → vA h1 a = vA h a := fun a p q => x_vA_c (cm a (by omega) (by omega))
  have eL : ∀ a, mo < a → a < mo + 46 → vL h1 a = vL h a := fun a p q => x_vL_c (cm a (by omega) (by omega))
  obtain ⟨Ka, Kb, Kc⟩ := K
  obtain ⟨⟨b6, h6⟩, c6, T2, g0, g2, g3, g4, g5⟩ := p_Mod_clear (N := N) (v1 := w) T1 M1 q_Wmw
  have ee := Option.some.inj (c3.symm.trans c6)
  cases ee
  dsimp only at *
  have co : ∀ a, sf ≤ a → a < sf + 552 → h2 a = h1 a := fun a p q => q_ce T2 (fun z => by have := z.1; omega)
  have U2 := x_U_of T2
  obtain ⟨r9, er9, Tr9, sG⟩ := p9_SF_clear (N := N) (v1 := w) (W := fun a => a = sf ∨ a = sf + 1) (q_rr T) ks (fun a z => z)
  have ee := Option.some.inj (er9.symm.trans er)
  subst ee
  have cs : ∀ a, sf ≤ a → a < sf + 552 → ¬ (a = sf ∨ a = sf + 1) → h2 a = h a := fun a p q nz => (co a p q).trans ((ec a (by omega)).trans (q_ce Tr9 nz))
  obtain ⟨-, -, -, sI, -⟩ := sG
  obtain ⟨-, fI, fA, fL⟩ := ii_Mod_clear (N := N) (v1 := w) U1 M1 _ c3
  dsimp only at *
  have s8 : vI h2 sf 8 = vI h sf 8 := by rw [x_vI_c (co sf (by omega) (by omega)), x_vI_c (ec sf (by omega))]; exact sI sf 8 (by omega) (by omega)
  have s6 : vR h2 sf 6 = vR h sf 6 := by rw [x_vR_c (co sf (by omega) (by omega)), x_vR_c (ec sf (by omega)), (x_U_of Tr9).2.2.2.1, U.2.2.2.1]
  refine ⟨⟨?_, ?_, x_K3_f Kc s8 s6 (fun a k p q _ => x_vI_c (cs _ (by omega) (by omega) (by omega))) (fun a p => x_vA_c (cs _ (by omega) (by omega) (by omega))) (fun a p => x_vL_c (cs _ (by omega) (by omega) (by omega))) ((fI mo 7 (by omega)).trans (eI 7)) ((fI mo 8 (by omega)).trans (eI 8)) (fun a p q j j0 => by rw [fA a (by omega), eA a (by omega) (by omega)]) ((fL _ (by omega)).trans (eL _ (by omega) (by omega))) ((fL _ (by omega)).trans (eL _ (by omega) (by omega)))⟩, x_K4_f K4 U2 (fun k => x_vR_c (cs _ (by omega) (by omega) (by omega))) (fun a k p q => x_vI_c (cs a (by omega) (by omega) (by omega))) (fun a p q j _ => by rw [x_vA_c (cs a (by omega) (by omega) (by omega))]) (fun k p q => by rw [fI mo k (by omega)]; exact eI k) (fun a p q j j0 => by rw [fA a (by omega), eA a (by omega) (by omega)])⟩
  · have same : vI h2 mo 3 = vI h1 mo 3 → x_K1 mo h2 := fun q => x_K1_f Ka (q.trans (eI 3)) (fun j _ => by rw [fA _ (by omega), eA _ (by omega) (by omega)])
    by_cases z : w = 0
    · intro j j0 j1
      rw [(g0 z).2.2.1] at j1
      exact absurd (Int32.lt_of_le_of_lt j0 j1) (by decide)
    · by_cases z1 : w = 1
      · exact same (g2 z1).2.2.2
      · exact same (g3 z z1).2.1
  · have same : vI h2 mo 4 = vI h1 mo 4 → x_K2 sf mo h2 := fun q => x_K2_f Kb T M (q.trans (eI 4)) (fun j _ => by rw [fA _ (by omega), eA _ (by omega) (by omega)]) (fun j _ => by rw [fA _ (by omega), eA _ (by omega) (by omega)]) (fun i hi j _ => by rw [x_vA_c (cs _ (by omega) (by omega) (by omega))])
    by_cases z : w = 0
    · exact same (g0 z).2.2.2
    · by_cases z1 : w = 1
      · intro i hi il
        rw [(g2 z1).2.2.1] at il
        exact absurd (Int32.lt_of_le_of_lt (x_on0 hi).1 il) (by decide)
      · exact same (g3 z z1).2.2
theorem l8_line {w u : Int64} (hN : 100000 ≤ N) (ks : qκ L sf = 12) (ko : qκ L ou = 1 * 1000 + 200) (d1 : sf + 552 ≤ mo) (d2 : mo + 46 ≤ ou) (V : q_INV L sf mo h) (K : x_K8 sf mo h) (K4 : x_K4 L sf mo h) : ∃ y h1 b h2, f_Law_line N sf w u ou h = some (y, h1) ∧ gO h1 mo 12 = some () ∧ f_Mod_line N mo w u h1 = some (b, h2) ∧ q_INV L sf mo h2 ∧ x_K8 sf mo h2 ∧ x_K4 L sf mo h2 := by
  obtain ⟨y, h1, b, h2, c1, g1, c3, V2, -⟩ := l_line (w := w) (u := u) hN ks ko d1 d2 V
  refine ⟨y, h1, b, h2, c1, g1, c3, V2, ?_⟩
  obtain ⟨π, T, M, I, L0, e1, e2, e3, e4⟩ := V
  obtain ⟨⟨y9, h9⟩, c9, W1, -⟩ := i_line (N := N) (w := w) (u := u) T ks (fun _ _ _ => trivial) ko trivial I hN
  have ee := Option.some.inj (c1.symm.trans c9)
  cases ee
  obtain ⟨π1, D⟩ := q_mid T M L0 d1 (q_WR_0 W1)
  obtain ⟨⟨y7, h7⟩, c7, ⟨π7, T7, -⟩, -⟩ := i_line (N := N) (w := w) (u := u) (W := q_Wc sf ou) (q_rr T) ks (fun a p q => Or.inl ⟨p, q⟩) ko (Or.inr rfl) I hN
  have ee := Option.some.inj (c1.symm.trans c7)
  cases ee
  have cm : ∀ a, mo ≤ a → a < mo + 46 → h1 a = h a := fun a p q => q_ce T7 (fun z => by rcases z with z | z <;> omega)
  unfold f_Law_line at c1
  obtain ⟨r, er, ec, ev, eE⟩ := x_wrp c1 (fun E h4 y5 h5 z => by first | exact x_ih z (fun z => by cases z) | exact x_ih z (fun z => x_ih z (fun z => by cases z)) | exact x_ih z (fun z => x_ih z (fun z => x_ih z (fun z => by cases z))) | exact x_ih z (fun z => x_ih z (fun z => x_ih z (fun z => x_ih z (fun z => by cases z)))) | exact x_ih z (fun z => x_ih z (fun z => x_ih z (fun z => x_ih z (fun z => x_ih z (fun z => by cases z))))) | cases z)
  obtain ⟨T1, M1, I1, L1, -⟩ := id D
  have U := x_U_of T
  have U1 := x_U_of T1
  have eI : ∀ k, vI h1 mo k = vI h mo k := fun k => x_vI_c (cm mo (by omega) (by omega))
  have eA : ∀ a, mo < a → a < mo + 46 → vA h1 a = vA h a := fun a p q => x_vA_c (cm a (by omega) (by omega))
  have eL : ∀ a, mo < a → a < mo + 46 → vL h1 a = vL h a := fun a p q => x_vL_c (cm a (by omega) (by omega))
  obtain ⟨Ka, Kb, Kc⟩ := K
  obtain ⟨⟨b6, h6⟩, c6, T2, g0, g2, g3, g4, g5, g6⟩ := p_Mod_line (N := N) (v1 := w) (v3 := u) T1 M1 q_Wmw hN
  have ee := Option.some.inj (c3.symm.trans c6)
  cases ee
  dsimp only at *
  have co : ∀ a, sf ≤ a → a < sf + 552 → h2 a = h1 a := fun a p q => q_ce T2 (fun z => by have := z.1; omega)
  have U2 := x_U_of T2
  obtain ⟨r9, er9, Tr9, sG⟩ := p9_SF_line (N := N) (v1 := w) (v3 := u) (W := fun a => a = sf ∨ (sf + 528 ≤ a ∧ a < sf + 552)) (q_rr T) ks (fun a z => z) hN
  have ee := Option.some.inj (er9.symm.trans er)
  subst ee
  have cs : ∀ a, sf ≤ a → a < sf + 552 → ¬ (a = sf ∨ (sf + 528 ≤ a ∧ a < sf + 552)) → h2 a = h a := fun a p q nz => (co a p q).trans ((ec a (by omega)).trans (q_ce Tr9 nz))
  obtain ⟨s0, s1, s2, sE, sI, sA⟩ := sG
  obtain ⟨cc, ct⟩ := x_Mod_line (w1 := w) (w2 := u) T1 M1 hN _ c3
  have cn := x_SF_line (w1 := w) (w2 := u) T ks hN _ er9
  dsimp only at *
  have m4 := g_Mo_4 T M
  have s8 : vI h2 sf 8 = vI h sf 8 := by rw [x_vI_c (co sf (by omega) (by omega)), x_vI_c (ec sf (by omega))]; exact sI sf 8 (by omega) (by omega)
  have s6 : vR h2 sf 6 = vR h sf 6 := by rw [x_vR_c (co sf (by omega) (by omega)), x_vR_c (ec sf (by omega)), (x_U_of Tr9).2.2.2.1, U.2.2.2.1]
  have hA : ∀ a, sf ≤ a → a < sf + 552 → ∀ j, vA h2 a j = vA r9.2 a j := fun a p q j => by rw [x_vA_c (co a p q), x_vA_c (ec a (by omega))]
  refine ⟨⟨x_K1_f Ka ((g4 mo 3 (by omega)).trans (eI 3)) (fun j j0 => by rw [g5 _ j j0 (by omega), eA _ (by omega) (by omega)]), ?_, x_K3_f Kc s8 s6 (fun a k p q _ => x_vI_c (cs _ (by omega) (by omega) (by omega))) (fun a p => x_vA_c (cs _ (by omega) (by omega) (by omega))) (fun a p => x_vL_c (cs _ (by omega) (by omega) (by omega))) ((g4 mo 7 (by omega)).trans (eI 7)) ((g4 mo 8 (by omega)).trans (eI 8)) (fun a p q j j0 => by rw [g5 a j j0 (by omega), eA a (by omega) (by omega)]) ((x_vL_c (cc _ (by omega) (by omega) (by omega))).trans (eL _ (by omega) (by omega))) ((x_vL_c (cc _ (by omega) (by omega) (by omega))).trans (eL _ (by omega) (by omega)))⟩, x_K4_f K4 U2 (fun k => x_vR_c (cs _ (by omega) (by omega) (by omega))) (fun a k p q => x_vI_c (cs a (by omega) (by omega) (by omega))) (fun a p q j _ => by rw [x_vA_c (cs a (by omega) (by omega) (by omega))]) (fun k p q => by rw [g4 mo k (by omega)]; exact eI k) (fun a p q j j0 => by rw [g5 a j j0 (by omega), eA a (by omega) (by omega)])⟩
  have fail : (∃ E, r9.1 = .inr E) → (∀ a, a ≠ mo → h2 a = h1 a) → vI h2 mo 4 = vI h1 mo 4 → x_K2 sf mo h2 := fun ⟨E, ee⟩ ca q => x_K2_f Kb T M (q.trans (eI 4)) (fun j _ => by rw [x_vA_c (ca _ (by omega)), eA _ (by omega) (by omega)]) (fun j _ => by rw [x_vA_c (ca _ (by omega)), eA _ (by omega) (by omega)]) (fun i hi j j0 => by rw [hA _ (by omega) (by omega) j]; exact (sE E ee).2 _ j j0)
  by_cases P : q_okc w 0 8 ≠ 0 ∧ q_okc u 0 8 ≠ 0 ∧ vI h1 mo 4 ≠ 12
  rotate_left
  · have e5 : vI h sf 5 = vI h1 mo 4 := by rw [eI]; exact e2
    by_cases z1 : q_okc w 0 8 = 0
    · exact fail ⟨_, s0 (Or.inl z1)⟩ (ct.2 P) (g0 (Or.inl z1)).2
    · by_cases z2 : q_okc u 0 8 = 0
      · exact fail ⟨_, s0 (Or.inr z2)⟩ (ct.2 P) (g0 (Or.inr z2)).2
      · have z3 : vI h1 mo 4 = 12 := Classical.byContradiction (fun z => P ⟨z1, z2, z⟩)
        exact fail ⟨_, s1 z1 z2 (e5.trans z3)⟩ (ct.2 P) (g2 z1 z2 z3).2
  · obtain ⟨b1, b2, b3⟩ := ct.1 P
    obtain ⟨z1, z2, z3⟩ := P
    have e5 : vI h sf 5 = vI h1 mo 4 := by rw [eI]; exact e2
    obtain ⟨rv, -, -⟩ := s2 z1 z2 (by rw [e5]; exact z3)
    obtain ⟨-, -, n4, n2⟩ := g3 z1 z2 z3
    have q1 := q_cnr_8 w
    have q2 := q_cnr_8 u
    have m12 : vI h1 mo 4 < 12 := by obtain ⟨p1, p2⟩ := m4; rw [← eI] at p1 p2; lia
    have m0 : 0 ≤ vI h1 mo 4 := by rw [eI]; exact m4.1
    have r0 : (0 : Int32) + q_cn w 8 ≤ 240 ∧ 0 ≤ (0 : Int32) + q_cn w 8 := by rw [Int32.zero_add]; exact ⟨Int32.le_trans q1.2 (by decide), q1.1⟩
    have r1 : q_cn w 8 + q_cn u 8 ≤ 240 ∧ 0 ≤ q_cn w 8 + q_cn u 8 := by obtain ⟨p1, p2⟩ := q1; obtain ⟨p3, p4⟩ := q2; constructor <;> lia
    rw [e5] at cn sA
    refine x_K2_up (p := vI h1 mo 4) Kb (fun i => (g_Mo_e2 T M i).2) m0 m12 (fun i hi ne il => ?_) (fun j j0 ne => by rw [b3 j j0 ne, eA _ (by omega) (by omega)]) (fun j j0 jj => by rw [b2 j j0 jj, eA _ (by omega) (by omega)]) (fun i hi ne j j0 => by rw [hA _ (by omega) (by omega) j]; exact sA _ j j0 (by omega)) (fun j j0 jl => ?_)
    · rw [n4] at il
      rw [← eI]
      have i0 := x_on0 hi
      lia
    · rw [n2] at jl
      have tn : (vI h1 mo 4).toNatClampNeg < 12 := q_cm12 m0 m12
      rw [hA _ (by omega) (by omega) j, cn _ rv j j0, b1 j j0 jl]
      exact ⟨x_al_8 u _ _ _ q1.1 r1 (fun k k0 kl => x_al_8 w _ _ 0 (Int32.le_refl 0) r0 (fun k9 a9 b9 => absurd (Int32.lt_of_le_of_lt a9 b9) (by decide)) k k0 (by rw [Int32.zero_add]; exact kl)) j j0 jl, x_ak_8 u 0 _ _ q1.1 r1 z2 (fun k k0 kl => x_ak_8 w 0 _ 0 (Int32.le_refl 0) r0 z1 (fun k9 a9 b9 => absurd (Int32.lt_of_le_of_lt a9 b9) (by decide)) k k0 (by rw [Int32.zero_add]; exact kl)) j j0 jl⟩
theorem l8_more {w : Int64} (hN : 100000 ≤ N) (ks : qκ L sf = 12) (ko : qκ L ou = 1 * 1000 + 200) (d1 : sf + 552 ≤ mo) (d2 : mo + 46 ≤ ou) (V : q_INV L sf mo h) (K : x_K8 sf mo h) (K4 : x_K4 L sf mo h) : ∃ y h1 b h2, f_Law_more N sf w ou h = some (y, h1) ∧ gO h1 mo 12 = some () ∧ f_Mod_more N mo w h1 = some (b, h2) ∧ q_INV L sf mo h2 ∧ x_K8 sf mo h2 ∧ x_K4 L sf mo h2 := by
  obtain ⟨y, h1, b, h2, c1, g1, c3, V2, -⟩ := l_more (w := w) hN ks ko d1 d2 V
  refine ⟨y, h1, b, h2, c1, g1, c3, V2, ?_⟩
  obtain ⟨π, T, M, I, L0, e1, e2, e3, e4⟩ := V
  obtain ⟨⟨y9, h9⟩, c9, W1, -⟩ := i_more (N := N) (w := w) T ks (fun _ _ _ => trivial) ko trivial I hN
  have ee := Option.some.inj (c1.symm.trans c9)
  cases ee
  obtain ⟨π1, D⟩ := q_mid T M L0 d1 (q_WR_0 W1)
  obtain ⟨⟨y7, h7⟩, c7, ⟨π7, T7, -⟩, -⟩ := i_more (N := N) (w := w) (W := q_Wc sf ou) (q_rr T) ks (fun a p q => Or.inl ⟨p, q⟩) ko (Or.inr rfl) I hN
  have ee := Option.some.inj (c1.symm.trans c7)
  cases ee
  have cm : ∀ a, mo ≤ a → a < mo + 46 → h1 a = h a := fun a p q => q_ce T7 (fun z => by rcases z with z | z <;> omega)
  unfold f_Law_more at c1
  obtain ⟨r, er, ec, ev, eE⟩ := x_wrp c1 (fun E h4 y5 h5 z => by first | exact x_ih z (fun z => by cases z) | exact x_ih z (fun z => x_ih z (fun z => by cases z)) | exact x_ih z (fun z => x_ih z (fun z => x_ih z (fun z => by cases z))) | exact x_ih z (fun z => x_ih z (fun z => x_ih z (fun z => x_ih z (fun z => by cases z)))) | exact x_ih z (fun z => x_ih z (fun z => x_ih z (fun z => x_ih z (fun z => x_ih z (fun z => by cases z))))) | cases z)
  obtain ⟨T1, M1, I1, L1, -⟩ := id D
  have U := x_U_of T
  have U1 := x_U_of T1
  have eI : ∀ k, vI h1 mo k = vI h mo k := fun k => x_vI_c (cm mo (by omega) (by omega))
  have eA : ∀ a, mo < a → a < mo + 46 → vA h1 a = vA h a := fun a p q => x_vA_c (cm a (by omega) (by omega))
  have eL : ∀ a, mo < a → a < mo + 46 → vL h1 a = vL h a := fun a p q => x_vL_c (cm a (by omega) (by omega))
  obtain ⟨Ka, Kb, Kc⟩ := K
  obtain ⟨⟨b6, h6⟩, c6, T2, g0, g2, g3, g4, g5, g6, g7, g8⟩ := p_Mod_more (N := N) (v1 := w) T1 M1 q_Wmw hN
  have ee := Option.some.inj (c3.symm.trans c6)
  cases ee
  dsimp only at *
  have co : ∀ a, sf ≤ a → a < sf + 552 → h2 a = h1 a := fun a p q => q_ce T2 (fun z => by have := z.1; omega)
  have U2 := x_U_of T2
  obtain ⟨r9, er9, Tr9, sG⟩ := p9_SF_more (N := N) (v1 := w) (W := fun a => a = sf ∨ (sf + 528 ≤ a ∧ a < sf + 552)) (q_rr T) ks (fun a z => z) hN
  have ee := Option.some.inj (er9.symm.trans er)
  subst ee
  have cs : ∀ a, sf ≤ a → a < sf + 552 → ¬ (a = sf ∨ (sf + 528 ≤ a ∧ a < sf + 552)) → h2 a = h a := fun a p q nz => (co a p q).trans ((ec a (by omega)).trans (q_ce Tr9 nz))
  obtain ⟨s0, s1, s2, s3, sE, sI, sA⟩ := sG
  obtain ⟨cc, ct⟩ := x_Mod_more (w := w) T1 M1 hN _ c3
  have cn := x_SF_more (w := w) T ks hN _ er9
  dsimp only at *
  have m4 := g_Mo_4 T M
  have s8 : vI h2 sf 8 = vI h sf 8 := by rw [x_vI_c (co sf (by omega) (by omega)), x_vI_c (ec sf (by omega))]; exact sI sf 8 (by omega)
  have s6 : vR h2 sf 6 = vR h sf 6 := by rw [x_vR_c (co sf (by omega) (by omega)), x_vR_c (ec sf (by omega)), (x_U_of Tr9).2.2.2.1, U.2.2.2.1]
  have hA : ∀ a, sf ≤ a → a < sf + 552 → ∀ j, vA h2 a j = vA r9.2 a j := fun a p q j => by rw [x_vA_c (co a p q), x_vA_c (ec a (by omega))]
  refine ⟨⟨x_K1_f Ka ((g5 mo 3 (by omega)).trans (eI 3)) (fun j j0 => by rw [g6 _ j j0 (by omega), eA _ (by omega) (by omega)]), ?_, x_K3_f Kc s8 s6 (fun a k p q _ => x_vI_c (cs _ (by omega) (by omega) (by omega))) (fun a p => x_vA_c (cs _ (by omega) (by omega) (by omega))) (fun a p => x_vL_c (cs _ (by omega) (by omega) (by omega))) ((g5 mo 7 (by omega)).trans (eI 7)) ((g5 mo 8 (by omega)).trans (eI 8)) (fun a p q j j0 => by rw [g6 a j j0 (by omega), eA a (by omega) (by omega)]) ((x_vL_c (cc _ (by omega) (by omega) (by omega))).trans (eL _ (by omega) (by omega))) ((x_vL_c (cc _ (by omega) (by omega) (by omega))).trans (eL _ (by omega) (by omega)))⟩, x_K4_f K4 U2 (fun k => x_vR_c (cs _ (by omega) (by omega) (by omega))) (fun a k p q => x_vI_c (cs a (by omega) (by omega) (by omega))) (fun a p q j _ => by rw [x_vA_c (cs a (by omega) (by omega) (by omega))]) (fun k p q => by rw [g5 mo k (by omega)]; exact eI k) (fun a p q j j0 => by rw [g6 a j j0 (by omega), eA a (by omega) (by omega)])⟩
  have n4 := g5 mo 4 (by omega)
  have e5 : vI h sf 5 = vI h1 mo 4 := by rw [eI]; exact e2
  have fail : (∃ E, r9.1 = .inr E) → (∀ a, a ≠ mo → h2 a = h1 a) → x_K2 sf mo h2 := fun ⟨E, ee⟩ ca => x_K2_f Kb T M (n4.trans (eI 4)) (fun j _ => by rw [x_vA_c (ca _ (by omega)), eA _ (by omega) (by omega)]) (fun j _ => by rw [x_vA_c (ca _ (by omega)), eA _ (by omega) (by omega)]) (fun i hi j j0 => by rw [hA _ (by omega) (by omega) j]; exact (sE E ee).2 _ j j0)
  by_cases z0 : vI h1 mo 4 = 0
  · by_cases z1 : q_okc w 0 8 = 0
    · exact fail ⟨_, s0 z1⟩ (ct.2 (fun P => P.1 z1))
    · exact fail ⟨_, s1 z1 (e5.trans z0)⟩ (ct.2 (fun P => P.2.1 z0))
  have r6 : 0 ≤ vI h1 mo 4 - 1 ∧ vI h1 mo 4 - 1 < 12 := by obtain ⟨p1, p2⟩ := m4; rw [← eI] at p1 p2; constructor <;> lia
  have tn : (vI h1 mo 4 - 1).toNatClampNeg < 12 := q_cm12 r6.1 r6.2
  have el : vI h (sf + (528 + 2 * (vI h1 mo 4 - 1).toNatClampNeg)) 1 = vA h1 (mo + 2) (vI h1 mo 4 - 1) := by
    have eo : Int32.ofNat (vI h1 mo 4 - 1).toNatClampNeg = vI h1 mo 4 - 1 := Int32.ofNat_toNatClampNeg _ r6.1
    have z := e3 _ tn (by rw [eo, ← eI]; obtain ⟨p1, p2⟩ := r6; lia)
    rw [eo] at z
    rw [z, eA _ (by omega) (by omega)]
  rw [e5] at cn sA s1 s2 s3
  rw [el] at cn s2 s3
  by_cases P : q_okc w 0 8 ≠ 0 ∧ vI h1 mo 4 ≠ 0 ∧ vA h1 (mo + 2) (vI h1 mo 4 - 1) + q_cn w 8 ≤ 24
  rotate_left
  · by_cases z1 : q_okc w 0 8 = 0
    · exact fail ⟨_, s0 z1⟩ (ct.2 P)
    · exact fail ⟨_, s2 z1 z0 (Int32.not_le.mp (fun z => P ⟨z1, z0, z⟩))⟩ (ct.2 P)
  · obtain ⟨b1, b2, b3⟩ := ct.1 P
    obtain ⟨z1, -, z3⟩ := P
    obtain ⟨rv, -⟩ := s3 z1 z0 z3
    obtain ⟨-, -, n2⟩ := g4 z1 z0 z3
    have q1 := q_cnr_8 w
    have l1 := g_Mo_e2 T1 M1 (vI h1 mo 4 - 1)
    have r1 : vA h1 (mo + 2) (vI h1 mo 4 - 1) + q_cn w 8 ≤ 240 ∧ 0 ≤ vA h1 (mo + 2) (vI h1 mo 4 - 1) + q_cn w 8 := by obtain ⟨p1, p2⟩ := q1; obtain ⟨p3, p4⟩ := l1; constructor <;> lia
    have old : ∀ k, 0 ≤ k → k < vA h1 (mo + 2) (vI h1 mo 4 - 1) → vA h (sf + (528 + 2 * (vI h1 mo 4 - 1).toNatClampNeg) + 1) k = vA h1 (mo + 3) (24 * (vI h1 mo 4 - 1) + k) ∧ x_kc (vA h1 (mo + 3) (24 * (vI h1 mo 4 - 1) + k)) := by
      intro k k0 kl
      have eo : Int32.ofNat (vI h1 mo 4 - 1).toNatClampNeg = vI h1 mo 4 - 1 := Int32.ofNat_toNatClampNeg _ r6.1
      have z := Kb _ tn (by rw [eo, ← eI]; obtain ⟨p1, p2⟩ := r6; lia) k k0
      rw [eo, ← eA (mo + 2) (by omega) (by omega), ← eA (mo + 3) (by omega) (by omega)] at z
      exact z kl
    refine x_K2_up (p := vI h1 mo 4 - 1) Kb (fun i => (g_Mo_e2 T M i).2) r6.1 r6.2 (fun i hi ne il => by rw [n4, eI] at il; exact il) (fun j j0 ne => by rw [b3 j j0 ne, eA _ (by omega) (by omega)]) (fun j j0 jj => by rw [b2 j j0 jj, eA _ (by omega) (by omega)]) (fun i hi ne j j0 => by rw [hA _ (by omega) (by omega) j]; exact sA _ j j0 (by omega)) (fun j j0 jl => ?_)
    rw [n2] at jl
    rw [hA _ (by omega) (by omega) j, cn _ rv z3 j j0, b1 j j0 jl]
    exact ⟨x_al_8 w _ _ _ l1.1 r1 (fun k k0 kl => (old k k0 kl).1) j j0 jl, x_ak_8 w 0 _ _ l1.1 r1 z1 (fun k k0 kl => (old k k0 kl).2) j j0 jl⟩
theorem l8_parse (hN : 100000 ≤ N) (ks : qκ L sf = 12) (ko : qκ L ou = 1 * 1000 + 200) (d1 : sf + 552 ≤ mo) (d2 : mo + 46 ≤ ou) (V : q_INV L sf mo h) (K : x_K8 sf mo h) (K4 : x_K4 L sf mo h) : ∃ y h1 b h2, f_Law_parse N sf ou h = some (y, h1) ∧ gO h1 mo 12 = some () ∧ f_Mod_parse N mo h1 = some (b, h2) ∧ q_INV L sf mo h2 ∧ x_K8 sf mo h2 ∧ x_K4 L sf mo h2 := by
  obtain ⟨y, h1, b, h2, c1, g1, c3, V2, -, th0, -⟩ := l_parse  hN ks ko d1 d2 V
  refine ⟨y, h1, b, h2, c1, g1, c3, V2, ?_⟩
  obtain ⟨π, T, M, I, L0, e1, e2, e3, e4⟩ := V
  obtain ⟨⟨y9, h9⟩, c9, W1, -⟩ := i_parse (N := N)  T ks (fun _ _ _ => trivial) ko trivial I hN
  have ee := Option.some.inj (c1.symm.trans c9)
  cases ee
  obtain ⟨π1, D⟩ := q_mid T M L0 d1 (q_WR_0 W1)
  obtain ⟨⟨y7, h7⟩, c7, ⟨π7, T7, -⟩, -⟩ := i_parse (N := N)  (W := q_Wc sf ou) (q_rr T) ks (fun a p q => Or.inl ⟨p, q⟩) ko (Or.inr rfl) I hN
  have ee := Option.some.inj (c1.symm.trans c7)
  cases ee
  have cm : ∀ a, mo ≤ a → a < mo + 46 → h1 a = h a := fun a p q => q_ce T7 (fun z => by rcases z with z | z <;> omega)
  unfold f_Law_parse at c1
  obtain ⟨r, er, ec, ev, eE⟩ := x_wrp c1 (fun E h4 y5 h5 z => by first | exact x_ih z (fun z => by cases z) | exact x_ih z (fun z => x_ih z (fun z => by cases z)) | exact x_ih z (fun z => x_ih z (fun z => x_ih z (fun z => by cases z))) | exact x_ih z (fun z => x_ih z (fun z => x_ih z (fun z => x_ih z (fun z => by cases z)))) | exact x_ih z (fun z => x_ih z (fun z => x_ih z (fun z => x_ih z (fun z => x_ih z (fun z => by cases z))))) | cases z)
  obtain ⟨T1, M1, I1, L1, -⟩ := id D
  have U := x_U_of T
  have U1 := x_U_of T1
  have eI : ∀ k, vI h1 mo k = vI h mo k := fun k => x_vI_c (cm mo (by omega) (by omega))
  have eA : ∀ a, mo < a → a < mo + 46 → vA h1 a = vA h a := fun a p q => x_vA_c (cm a (by omega) (by omega))
  have eL : ∀ a, mo < a → a < mo + 46 → vL h1 a = vL h a := fun a p q => x_vL_c (cm a (by omega) (by omega))
  obtain ⟨Ka, Kb, Kc⟩ := K
  obtain ⟨⟨b6, h6⟩, c6, T2, fI, fA, -⟩ := p_Mod_parse (N := N) T1 M1 q_Wmw L1 hN
  have ee := Option.some.inj (c3.symm.trans c6)
  cases ee
  dsimp only at T2 fI fA
  have co : ∀ a, sf ≤ a → a < sf + 552 → h2 a = h1 a := fun a p q => q_ce T2 (fun z => by have := z.1; omega)
  have U2 := x_U_of T2
  have m3 := g_Mo_3 T M
  let t : Int32 → Int32 := fun j => if 0 ≤ j ∧ j < vI h mo 3 then vA h (mo + 1) j else 32
  have tE : ∀ j, 0 ≤ j → j < vI h mo 3 → vA h (mo + 1) j = t j := fun j j0 j1 => (if_pos ⟨j0, j1⟩).symm
  have kt : ∀ j, x_kc (t j) := fun j => by
    show x_kc (if 0 ≤ j ∧ j < vI h mo 3 then vA h (mo + 1) j else 32)
    split
    · next z => exact Ka j z.1 z.2
    · exact Or.inr ⟨by decide, by decide⟩
  have A := x_SF_parse8 (N := N) (t := t) (n := vI h mo 3) T ks I hN (fun j j0 j1 => (e4 j j0 j1).trans (tE j j0 j1)) e1 kt _ er
  have lv := g_Mo_7 T1 M1
  obtain ⟨-, Bp, B1, B2, B3⟩ := ii_Mod_parse (N := N) (t := t) (n := vI h mo 3) U1 M1 (fun j j0 j1 => by rw [eA _ (by omega) (by omega)]; exact tE j j0 j1) (eI 3) m3.2 (x_kcp kt) (x_01 lv.1 lv.2) kt m3.1 _ c3
  obtain ⟨p, q, s, t9, d, i1, i2, i3, i4, i5, i6, i7, i8⟩ := id I
  obtain ⟨r9, er9, π9, Tr9, z9, -, -, sI, sA⟩ := p_SF_parse (N := N) (W := fun _ => True) (q_rr T) ks i3 i1 i4 i2 i7 (fun _ _ _ => trivial) (by omega) (by omega) hN
  have ee := Option.some.inj (er9.symm.trans er)
  subst ee
  have ch : ∀ a, sf ≤ a → a < sf + 552 → h2 a = r9.2 a := fun a p q => (co a p q).trans (ec a (by omega))
  have th : vI h2 mo 6 = y := by rw [q_thr T2 M1] at th0; exact congrArg Prod.fst (Option.some.inj th0)
  have K4a : x_K4 L sf mo h2 := x_K4_f K4 U2 (fun k => by rw [x_vR_c (ch _ (by omega) (by omega)), (x_U_of Tr9).2.2.2.1, U.2.2.2.1]; exact z9 _ _ (by omega) (by omega) (by omega) (by omega) (by omega) (by omega) (by omega)) (fun a k p q => by rw [x_vI_c (ch _ (by omega) (by omega))]; exact sI a k (by omega) (by omega) (by omega)) (fun a p q j j0 => by rw [x_vA_c (ch a (by omega) (by omega))]; exact sA a j j0 (by omega) (by omega)) (fun k p q => by rw [fI mo k (by omega)]; exact eI k) (fun a p q j j0 => by rw [fA a j j0 (by omega), eA a (by omega) (by omega)])
  have Kb2 : x_K2 sf mo h2 := x_K2_f Kb T M ((fI mo 4 (by omega)).trans (eI 4)) (fun j j0 => by rw [fA _ j j0 (by omega), eA _ (by omega) (by omega)]) (fun j j0 => by rw [fA _ j j0 (by omega), eA _ (by omega) (by omega)]) (fun i hi j j0 => by rw [x_vA_c (ch _ (by omega) (by omega))]; exact sA _ j j0 (by omega) (by omega))
  have Ka2 : x_K1 mo h2 := x_K1_f Ka ((fI mo 3 (by omega)).trans (eI 3)) (fun j j0 => by rw [fA _ j j0 (by omega), eA _ (by omega) (by omega)])
  refine ⟨⟨Ka2, Kb2, ?_⟩, K4a⟩
  rcases A with ⟨⟨sv, es⟩, qn, v6, qq, s8, TX, PR⟩ | ⟨⟨E, eE9⟩, s8, s6, old⟩
  · obtain ⟨P1, P7, P8⟩ := B1 (by rw [th]; exact (ev sv es).1)
    refine Or.inr ⟨by rw [x_vI_c (ch sf (by omega) (by omega)), s8]; decide, by rw [P8]; decide, qn, t, vI h mo 3, _, by rw [x_vR_c (ch sf (by omega) (by omega))]; exact v6, qq, kt, m3, c_TX_f TX (x_vI_c (ch _ (by omega) (by omega))) (x_vA_c (ch _ (by omega) (by omega))), c_PRG_f PR (fun a k p q _ => x_vI_c (ch a (by omega) (by omega))) (fun a p q => x_vA_c (ch a (by omega) (by omega))) (fun a p q => x_vL_c (ch a (by omega) (by omega))), ?_⟩
    rw [P7]
    exact P1
  · have y1 : y = 1 := by
      have x1 := eE E eE9
      split at x1
      · exact (congrArg Prod.fst (Option.some.inj x1)).symm
      · cases x1
    obtain ⟨P7, P8⟩ := B2 (by rw [th]; exact y1)
    rw [eI] at P7 P8 B3
    have c8 : vI h2 sf 8 = vI h sf 8 := by rw [x_vI_c (ch sf (by omega) (by omega))]; exact s8
    rcases Kc with ⟨k1, k2⟩ | ⟨k1, k2, pg, t0, n0, B, p6, pp, kt0, nn, X, C, R⟩
    · exact Or.inl ⟨by rw [c8]; exact k1, by rw [P8]; exact k2⟩
    · have oo := old pg p6
      have hI : ∀ a k, pg ≤ a → a < pg + 249 → vI h2 a k = vI h a k := fun a k p q => by rw [x_vI_c (ch a (by omega) (by omega))]; exact (oo a p q).1 k
      have hV : ∀ a, pg ≤ a → a < pg + 249 → vA h2 a = vA h a := fun a p q => by rw [x_vA_c (ch a (by omega) (by omega))]; exact (oo a p q).2.1
      have hL : ∀ a, pg ≤ a → a < pg + 249 → vL h2 a = vL h a := fun a p q => by rw [x_vL_c (ch a (by omega) (by omega))]; exact (oo a p q).2.2
      refine Or.inr ⟨by rw [c8]; exact k1, by rw [P8]; exact k2, pg, t0, n0, B, by rw [x_vR_c (ch sf (by omega) (by omega)), s6]; exact p6, pp, kt0, nn, c_TX_f X (hI _ _ (by omega) (by omega)) (hV _ (by omega) (by omega)), c_PRG_f C (fun a k p q _ => hI a k p q) hV hL, ?_⟩
      rw [P7]
      exact r_PRG_f (r_PRG_a R (fun a p q j j0 => by rw [eA a (by omega) (by omega)]) (eL _ (by omega) (by omega)) (eL _ (by omega) (by omega))) rfl B3
end W9
