/-! the class's object, between calls; the law's wrappers -/
theorem qk_zw {α β : Type} {y : α ⊕ String} {h : z_H} {k : α → z_H → Option β} {x : String → z_H → Option β} {Q : β → Prop} (h1 : ∀ v, y = .inl v → qk (k v h) Q) (h2 : ∀ E, y = .inr E → qk (x E h) Q) : qk (zw_k (y, h) k x) Q := by
  cases y with
  | inl v => exact h1 v rfl
  | inr E => exact h2 E rfl
theorem q_uLv {h h' : z_H} {a : Nat} {i : Int32} {x : Int64} (e : uL h a i x = some h') : aL h' a i = some x := by
  unfold uL at e
  split at e
  · next t' n f he =>
    split at e
    · next c =>
      cases e
      unfold aL z_up
      simp [c.2, vp_updL]
    · cases e
  · cases e
theorem w_out {L : q_L} {W : Nat → Prop} {h0 : z_H} {π : Nat → Nat → Option Nat} {h : z_H} {ou : Nat} {β : Type} {f : z_H → Option β} {Q : β → Prop} {v : Int64} (T : q_U L W h0 π h) (ko : qκ L ou = 1 * 1000 + 200) (w : W ou) (H : ∀ h', q_U L W h0 π h' → (∀ a k, vI h' a k = vI h a k) → (∀ a j, vA h' a j = vA h a j) → aL h' ou 0 = some v → qk (f h') Q) : qk (z_b (uL h ou 0 v) f) Q := by
  obtain ⟨h', e1, e2, e3⟩ := q_uL (n := 1) (i := 0) (x := v) T.2.2 ko (by decide) w (by decide) (by decide)
  have e4 := q_uLv e1
  rw [e1]; exact H h' ⟨T.1, T.2.1, e2⟩ e3.1 e3.2 e4
theorem q_PG_eq4 {h h' : z_H} {pg : Nat} (P : q_PG h pg) (h40 : vI h pg 3 ≤ 40) (f1 : ∀ a k, pg ≤ a → a < pg + 249 → k ≠ 15 → vI h' a k = vI h a k) (f2 : ∀ a j, 0 ≤ j → pg ≤ a → a < pg + 249 → vA h' a j = vA h a j) : q_PG h' pg := by
  intro i i0 i1
  rw [f1 pg 3 (by omega) (by omega) (by decide)] at i1
  have b := q_cm40 i0 i1 h40
  obtain ⟨p1, p2⟩ := P i i0 i1
  refine ⟨q_CV_eq3 p1 (fun j hj _ => ⟨f2 _ j hj (by omega) (by omega), f2 _ j hj (by omega) (by omega)⟩) (by rw [f1 _ _ (by omega) (by omega) (by decide)]; exact Int32.le_refl _) (fun a k ha hb hk => f1 a k (by omega) (by omega) (by omega)), ?_⟩
  rw [f1 _ 3 (by omega) (by omega) (by decide), f1 _ 7 (by omega) (by omega) (by decide)]
  exact p2
def q_IC (L : q_L) (π : Nat → Nat → Option Nat) (h : z_H) (sf : Nat) : Prop := ∃ p q s t d, π sf 6 = some p ∧ π sf 7 = some q ∧ qκ L p = 10 ∧ qκ L q = 10 ∧ ((p = sf + 30 ∧ q = sf + 279) ∨ (p = sf + 279 ∧ q = sf + 30)) ∧ q_R L π (sf + 9) s t d ∧ π (sf + 4 + 2) 0 = some (sf + 4 + 1) ∧ q_PG h p
theorem q_IC_eq {L : q_L} {W : Nat → Prop} {h0 : z_H} {π π' : Nat → Nat → Option Nat} {h h' : z_H} {sf : Nat} (T : q_U L W h0 π h) (I : q_IC L π h sf) (e1 : ∀ a k, a = sf ∧ (k = 6 ∨ k = 7) ∨ a = sf + 4 + 2 ∧ k = 0 → π' a k = π a k) (R : (∃ s t d, q_R L π (sf + 9) s t d) → ∃ s t d, q_R L π' (sf + 9) s t d) (f1 : ∀ a k, sf + 30 ≤ a → a < sf + 528 → k ≠ 15 → vI h' a k = vI h a k) (f2 : ∀ a j, 0 ≤ j → sf + 30 ≤ a → a < sf + 528 → vA h' a j = vA h a j) : q_IC L π' h' sf := by
  obtain ⟨p, q, s, t, d, i1, i2, i3, i4, i5, i6, i7, i8⟩ := I
  obtain ⟨s', t', d', R'⟩ := R ⟨s, t, d, i6⟩
  have c := q_CProg T i3
  unfold q_C_Prog at c
  have t3 := T.2.2.2.1 p 3
  have h40 : vI h p 3 ≤ 40 := by grind
  refine ⟨p, q, s', t', d', by rw [e1 _ _ (Or.inl ⟨rfl, Or.inl rfl⟩)]; exact i1, by rw [e1 _ _ (Or.inl ⟨rfl, Or.inr rfl⟩)]; exact i2, i3, i4, i5, R', by rw [e1 _ _ (Or.inr ⟨rfl, rfl⟩)]; exact i7, q_PG_eq4 i8 h40 (fun a k h1 h2 h3 => f1 a k (by omega) (by omega) h3) (fun a j j0 h1 h2 => f2 a j j0 (by omega) (by omega))⟩
/-- outside the class's object nothing changes -/
def q_FR0 (sf : Nat) (π π' : Nat → Nat → Option Nat) (h h' : z_H) : Prop := (∀ a k, (a < sf ∨ sf + 552 ≤ a) → k ≠ 15 → vI h' a k = vI h a k) ∧ (∀ a j, 0 ≤ j → (a < sf ∨ sf + 552 ≤ a) → vA h' a j = vA h a j) ∧ (∀ a k, (a < sf ∨ sf + 552 ≤ a) → π' a k = π a k)
/-- outside the class's object nothing changes -/
def q_FR (sf : Nat) (π π' : Nat → Nat → Option Nat) (h h' : z_H) : Prop := (∀ a k, (a < sf ∨ sf + 552 ≤ a) → k ≠ 15 → vI h' a k = vI h a k) ∧ (∀ a j, 0 ≤ j → (a < sf ∨ a = sf + 2 ∨ sf + 552 ≤ a) → vA h' a j = vA h a j) ∧ (∀ a k, (a < sf ∨ sf + 552 ≤ a) → π' a k = π a k)
/-- length of the script, number of lines, their lengths: as they were -/
def q_KP (sf : Nat) (h h' : z_H) : Prop := vI h' (sf + 1) 1 = vI h (sf + 1) 1 ∧ vI h' sf 5 = vI h sf 5 ∧ ∀ j, j < 12 → vI h' (sf + (528 + 2 * j)) 1 = vI h (sf + (528 + 2 * j)) 1
theorem q_R_eq {L : q_L} {π π' : Nat → Nat → Option Nat} {e s t d : Nat} (R : q_R L π e s t d) (f : ∀ k, π' e k = π e k) : q_R L π' e s t d := by
  unfold q_R at *
  rw [f, f, f]; exact R
theorem q_tail {L : q_L} {W : Nat → Prop} {h0 : z_H} {π : Nat → Nat → Option Nat} {ou : Nat} {y : Int32 ⊕ String} {h1 : z_H} {ex : String → z_H → Option (Int32 × z_H)} {Q : Int32 × z_H → Prop} (T1 : q_U L W h0 π h1) (ko : qκ L ou = 1 * 1000 + 200) (wo : W ou) (H1 : ∀ v h2, y = .inl v → q_U L W h0 π h2 → (∀ a k, vI h2 a k = vI h1 a k) → (∀ a j, vA h2 a j = vA h1 a j) → aL h2 ou 0 = some (Int32.toInt64 v) → Q (0, h2)) (H2 : ∀ E, y = .inr E → qk (ex E h1) Q) : qk (zw_k (y, h1) (fun x3 h4 => z_b (uL h4 ou 0 (Int32.toInt64 x3)) fun h5 => some (0, h5)) ex) Q := by
  refine qk_zw (fun v ev => ?_) H2
  refine w_out T1 ko wo ?_
  intro h2 T2 i2 a2 o2
  exact qk_some (H1 v h2 ev T2 i2 a2 o2)
section WRAP
variable {L : q_L} {W : Nat → Prop} {h0 : z_H} {π : Nat → Nat → Option Nat} {h : z_H} {sf ou N : Nat}
/-- what a wrapper leaves -/
def q_WR (L : q_L) (W : Nat → Prop) (h0 : z_H) (π : Nat → Nat → Option Nat) (sf : Nat) (h h' : z_H) : Prop := ∃ π', q_U L W h0 π' h' ∧ q_IC L π' h' sf ∧ q_FR sf π π' h h'
theorem q_WR_2 {π1 : Nat → Nat → Option Nat} {h1 h2 : z_H} (T1 : q_U L W h0 π1 h1) (T2 : q_U L W h0 π1 h2) (I1 : q_IC L π1 h1 sf) (F : q_FR sf π π1 h h1) (i2 : ∀ a k, vI h2 a k = vI h1 a k) (a2 : ∀ a j, vA h2 a j = vA h1 a j) : q_WR L W h0 π sf h h2 :=
  ⟨π1, T2, q_IC_eq T1 I1 (fun _ _ _ => rfl) (fun z => z) (fun a k _ _ _ => i2 a k) (fun a j _ _ _ => a2 a j), fun a k z z2 => (i2 a k).trans (F.1 a k z z2), fun a j j0 z => (a2 a j).trans (F.2.1 a j j0 z), F.2.2⟩
/-- what a wrapper leaves -/
def q_WR0 (L : q_L) (W : Nat → Prop) (h0 : z_H) (π : Nat → Nat → Option Nat) (sf : Nat) (h h' : z_H) : Prop := ∃ π', q_U L W h0 π' h' ∧ q_IC L π' h' sf ∧ q_FR0 sf π π' h h'
theorem q_WR0_2 {π1 : Nat → Nat → Option Nat} {h1 h2 : z_H} (T1 : q_U L W h0 π1 h1) (T2 : q_U L W h0 π1 h2) (I1 : q_IC L π1 h1 sf) (F : q_FR0 sf π π1 h h1) (i2 : ∀ a k, vI h2 a k = vI h1 a k) (a2 : ∀ a j, vA h2 a j = vA h1 a j) : q_WR0 L W h0 π sf h h2 :=
  ⟨π1, T2, q_IC_eq T1 I1 (fun _ _ _ => rfl) (fun z => z) (fun a k _ _ _ => i2 a k) (fun a j _ _ _ => a2 a j), fun a k z z2 => (i2 a k).trans (F.1 a k z z2), fun a j j0 z => (a2 a j).trans (F.2.1 a j j0 z), F.2.2⟩
theorem q_WR_0 {h' : z_H} (R : q_WR L W h0 π sf h h') : q_WR0 L W h0 π sf h h' := by
  obtain ⟨π', a, b, c⟩ := R
  exact ⟨π', a, b, c.1, fun a j j0 z => c.2.1 a j j0 (by omega), c.2.2⟩
theorem q_WR_T {h' : z_H} (R : q_WR L W h0 π sf h h') : ∀ j, 0 ≤ j → vA h' (sf + 2) j = vA h (sf + 2) j := by
  obtain ⟨π', a, b, c⟩ := R
  exact fun j j0 => c.2.1 _ j j0 (by omega)
theorem q_KP_2 {h1 h2 : z_H} (K : q_KP sf h h1) (i2 : ∀ a k, vI h2 a k = vI h1 a k) : q_KP sf h h2 :=
  ⟨(i2 _ _).trans K.1, (i2 _ _).trans K.2.1, fun j hj => (i2 _ _).trans (K.2.2 j hj)⟩
theorem i_script {w : Int64} (T : q_U L W h0 π h) (k : qκ L sf = 12) (wS : ∀ a, sf ≤ a → a < sf + 552 → W a) (ko : qκ L ou = 1 * 1000 + 200) (wo : W ou) (I : q_IC L π h sf) (hN : 100000 ≤ N) : qk (f_Law_script N sf w ou h) (fun r => q_WR0 L W h0 π sf h r.2 ∧ (vI r.2 sf 5 = vI h sf 5 ∧ ∀ j, j < 12 → vI r.2 (sf + (528 + 2 * j)) 1 = vI h (sf + (528 + 2 * j)) 1) ∧ (q_okc w 1 8 = 0 → r.1 = 1 ∧ vI r.2 (sf + 1) 1 = vI h (sf + 1) 1) ∧ (q_okc w 1 8 ≠ 0 → 240 < vI h (sf + 1) 1 + q_cn w 8 → r.1 = 2 ∧ vI r.2 (sf + 1) 1 = vI h (sf + 1) 1) ∧ (q_okc w 1 8 ≠ 0 → vI h (sf + 1) 1 + q_cn w 8 ≤ 240 → r.1 = 0 ∧ vI r.2 (sf + 1) 1 = vI h (sf + 1) 1 + q_cn w 8 ∧ aL r.2 ou 0 = some (Int32.toInt64 (vI h (sf + 1) 1 + q_cn w 8)))) := by
  unfold f_Law_script
  refine r_SF_o T k ?_
  refine c_SF_script T k wS hN ?_
  intro y h1 T1 g0 g1 g2 g3 g4
  have I1 : q_IC L π h1 sf := q_IC_eq T I (fun _ _ _ => rfl) (fun z => z) (fun a k z1 z2 _ => g3 a k (by omega)) (fun a j j0 z1 z2 => g4 a j j0 (by omega))
  have F1 : q_FR0 sf π π h h1 := ⟨fun a k z _ => g3 a k (by omega), fun a j j0 z => g4 a j j0 (by omega), fun _ _ _ => rfl⟩
  have K1 : vI h1 sf 5 = vI h sf 5 ∧ ∀ j, j < 12 → vI h1 (sf + (528 + 2 * j)) 1 = vI h (sf + (528 + 2 * j)) 1 := ⟨g3 _ _ (by omega), fun j _ => g3 _ _ (by omega)⟩
  refine q_tail T1 ko wo (fun v h2 ev T2 i2 a2 o2 => ?_) (fun E eE => ?_)
  · refine ⟨q_WR0_2 T1 T2 I1 F1 i2 a2, ⟨(i2 _ _).trans K1.1, fun j hj => (i2 _ _).trans (K1.2 j hj)⟩, fun z => ?_, fun z z' => ?_, fun z z' => ?_⟩
    · exact absurd ((g0 z).1.symm.trans ev) (by simp)
    · exact absurd ((g1 z z').1.symm.trans ev) (by simp)
    · have b := g2 z z'
      have c := Sum.inl.inj (b.1.symm.trans ev)
      refine ⟨rfl, (i2 _ _).trans b.2, ?_⟩
      rw [c]; exact o2
  · have W1 : q_WR0 L W h0 π sf h h1 := ⟨π, T1, I1, F1⟩
    by_cases z : q_okc w 1 8 = 0
    · have e := Sum.inr.inj ((g0 z).1.symm.trans eE)
      subst e
      rw [if_pos rfl]
      exact qk_some ⟨W1, K1, fun _ => ⟨rfl, (g0 z).2⟩, fun y => absurd z y, fun y => absurd z y⟩
    · by_cases z' : 240 < vI h (sf + 1) 1 + q_cn w 8
      · have e := Sum.inr.inj ((g1 z z').1.symm.trans eE)
        subst e
        rw [if_neg (by decide), if_pos rfl]
        exact qk_some ⟨W1, K1, fun y => absurd y z, fun _ _ => ⟨rfl, (g1 z z').2⟩, fun _ y => absurd z' (Int32.not_lt.mpr y)⟩
      · exact absurd ((g2 z (Int32.not_lt.mp z')).1.symm.trans eE) (by simp)
theorem i_clear {w : Int32} (T : q_U L W h0 π h) (k : qκ L sf = 12) (wS : ∀ a, sf ≤ a → a < sf + 552 → W a) (ko : qκ L ou = 1 * 1000 + 200) (wo : W ou) (I : q_IC L π h sf) (hN : 100000 ≤ N) : qk (f_Law_clear N sf w ou h) (fun r => q_WR L W h0 π sf h r.2 ∧ (∀ j, j < 12 → vI r.2 (sf + (528 + 2 * j)) 1 = vI h (sf + (528 + 2 * j)) 1) ∧ (w = 0 → r.1 = 0 ∧ aL r.2 ou 0 = some (Int32.toInt64 (vI h (sf + 1) 1)) ∧ vI r.2 (sf + 1) 1 = 0 ∧ vI r.2 sf 5 = vI h sf 5) ∧ (w = 1 → r.1 = 0 ∧ aL r.2 ou 0 = some (Int32.toInt64 (vI h sf 5)) ∧ vI r.2 sf 5 = 0 ∧ vI r.2 (sf + 1) 1 = vI h (sf + 1) 1) ∧ (w ≠ 0 → w ≠ 1 → r.1 = 1 ∧ vI r.2 sf 5 = vI h sf 5 ∧ vI r.2 (sf + 1) 1 = vI h (sf + 1) 1)) := by
  unfold f_Law_clear
  refine r_SF_o T k ?_
  refine c_SF_clear T k wS ?_
  intro y h1 T1 g0 g1 g2 g3 g4
  have I1 : q_IC L π h1 sf := q_IC_eq T I (fun _ _ _ => rfl) (fun z => z) (fun a k z1 z2 _ => g3 a k (by omega) (by omega)) (fun a j j0 z1 z2 => g4 a j)
  have F1 : q_FR sf π π h h1 := ⟨fun a k z _ => g3 a k (by omega) (by omega), fun a j j0 z => g4 a j, fun _ _ _ => rfl⟩
  have K1 : ∀ j, j < 12 → vI h1 (sf + (528 + 2 * j)) 1 = vI h (sf + (528 + 2 * j)) 1 := fun j _ => g3 _ _ (by omega) (by omega)
  refine q_tail T1 ko wo (fun v h2 ev T2 i2 a2 o2 => ?_) (fun E eE => ?_)
  · refine ⟨q_WR_2 T1 T2 I1 F1 i2 a2, fun j hj => (i2 _ _).trans (K1 j hj), fun z => ?_, fun z => ?_, fun z z' => ?_⟩
    · have b := g0 z
      have c := Sum.inl.inj (b.1.symm.trans ev)
      refine ⟨rfl, by rw [c]; exact o2, (i2 _ _).trans b.2.1, (i2 _ _).trans b.2.2⟩
    · have b := g1 z
      have c := Sum.inl.inj (b.1.symm.trans ev)
      refine ⟨rfl, by rw [c]; exact o2, (i2 _ _).trans b.2.1, (i2 _ _).trans b.2.2⟩
    · exact absurd ((g2 z z').1.symm.trans ev) (by simp)
  · have W1 : q_WR L W h0 π sf h h1 := ⟨π, T1, I1, F1⟩
    by_cases z : w = 0
    · exact absurd ((g0 z).1.symm.trans eE) (by simp)
    · by_cases z' : w = 1
      · exact absurd ((g1 z').1.symm.trans eE) (by simp)
      · have e := Sum.inr.inj ((g2 z z').1.symm.trans eE)
        subst e
        rw [if_pos rfl]
        exact qk_some ⟨W1, K1, fun y => absurd y z, fun y => absurd y z', fun _ _ => ⟨rfl, (g2 z z').2⟩⟩
theorem q_s5 (T : q_U L W h0 π h) (k : qκ L sf = 12) : 0 ≤ vI h sf 5 ∧ vI h sf 5 ≤ 12 := by
  have c := (T.1.2.2.2.2.2.2.2.2.2.2.2 sf k).2.2.2.2.2.1
  have t := T.2.2.2.1 sf 5
  rwa [c.1, c.2] at t
theorem q_cl12 {x : Int32} (a : 0 ≤ x) (b : x ≤ 12) : x.toNatClampNeg ≤ 12 := by
  have e1 : x.toNatClampNeg = x.toInt.toNat := rfl
  have e2 := Int32.le_iff_toInt_le.mp b
  have e3 : (12 : Int32).toInt = 12 := rfl
  omega
theorem q_cl11 {x : Int32} (a : 0 ≤ x) (b : x ≤ 12) (c : ¬ x = 12) : x.toNatClampNeg < 12 := by
  have b2 : x ≤ 11 := by lia
  have e1 : x.toNatClampNeg = x.toInt.toNat := rfl
  have e2 := Int32.le_iff_toInt_le.mp b2
  have e3 : (11 : Int32).toInt = 11 := rfl
  omega
theorem q_all_WR {h1 : z_H} (T : q_U L W h0 π h) (T1 : q_U L W h0 π h1) (I : q_IC L π h sf) (f1 : ∀ a k, vI h1 a k = vI h a k) (f2 : ∀ a j, 0 ≤ j → vA h1 a j = vA h a j) : q_WR L W h0 π sf h h1 :=
  ⟨π, T1, q_IC_eq T I (fun _ _ _ => rfl) (fun z => z) (fun a k _ _ _ => f1 a k) (fun a j j0 _ _ => f2 a j j0), fun a k _ _ => f1 a k, fun a j j0 _ => f2 a j j0, fun _ _ _ => rfl⟩
theorem i_line {w u : Int64} (T : q_U L W h0 π h) (k : qκ L sf = 12) (wS : ∀ a, sf ≤ a → a < sf + 552 → W a) (ko : qκ L ou = 1 * 1000 + 200) (wo : W ou) (I : q_IC L π h sf) (hN : 100000 ≤ N) : qk (f_Law_line N sf w u ou h) (fun r => q_WR L W h0 π sf h r.2 ∧ vI r.2 (sf + 1) 1 = vI h (sf + 1) 1 ∧ (q_okc w 0 8 = 0 ∨ q_okc u 0 8 = 0 → r.1 = 1 ∧ q_KP sf h r.2) ∧ (q_okc w 0 8 ≠ 0 → q_okc u 0 8 ≠ 0 → vI h sf 5 = 12 → r.1 = 2 ∧ q_KP sf h r.2) ∧ (q_okc w 0 8 ≠ 0 → q_okc u 0 8 ≠ 0 → vI h sf 5 ≠ 12 → r.1 = 0 ∧ aL r.2 ou 0 = some (Int32.toInt64 (vI h sf 5 + 1)) ∧ vI r.2 sf 5 = vI h sf 5 + 1 ∧ vI r.2 (sf + (528 + 2 * Int32.toNatClampNeg (vI h sf 5))) 1 = q_cn w 8 + q_cn u 8 ∧ ∀ j, j < 12 → j ≠ Int32.toNatClampNeg (vI h sf 5) → vI r.2 (sf + (528 + 2 * j)) 1 = vI h (sf + (528 + 2 * j)) 1)) := by
  have s5 := q_s5 T k
  unfold f_Law_line
  refine r_SF_o T k ?_
  refine c_SF_line T k wS hN ?_
  intro y h1 T1 g0 g1 g2 g3 g4 g5
  refine q_tail T1 ko wo (fun v h2 ev T2 i2 a2 o2 => ?_) (fun E eE => ?_)
  · have z : ¬ (q_okc w 0 8 = 0 ∨ q_okc u 0 8 = 0) := fun z => absurd ((g0 z).symm.trans ev) (by simp)
    have z1 : q_okc w 0 8 ≠ 0 := fun q => z (Or.inl q)
    have z2 : q_okc u 0 8 ≠ 0 := fun q => z (Or.inr q)
    have c : ¬ vI h sf 5 = 12 := fun c => absurd ((g1 z1 z2 c).symm.trans ev) (by simp)
    have c11 := q_cl11 s5.1 s5.2 c
    obtain ⟨b1, b2, b3⟩ := g2 z1 z2 c
    have cv := Sum.inl.inj (b1.symm.trans ev)
    have I1 : q_IC L π h1 sf := q_IC_eq T I (fun _ _ _ => rfl) (fun z => z) (fun a k _ _ _ => g4 a k (by omega) (by omega)) (fun a j j0 _ _ => g5 a j j0 (by omega))
    have F1 : q_FR sf π π h h1 := ⟨fun a k _ _ => g4 a k (by omega) (by omega), fun a j j0 _ => g5 a j j0 (by omega), fun _ _ _ => rfl⟩
    refine ⟨q_WR_2 T1 T2 I1 F1 i2 a2, (i2 _ _).trans (g4 _ _ (by omega) (by omega)), fun q => absurd q z, fun _ _ q => absurd q c, fun _ _ _ => ⟨rfl, by rw [cv]; exact o2, (i2 _ _).trans b2, (i2 _ _).trans b3, fun j j1 j2 => (i2 _ _).trans (g4 _ _ (by omega) (by omega))⟩⟩
  · obtain ⟨f1, f2⟩ := g3 E eE
    have W1 := q_all_WR T T1 I f1 f2
    have K1 : q_KP sf h h1 := ⟨f1 _ _, f1 _ _, fun j _ => f1 _ _⟩
    by_cases z : q_okc w 0 8 = 0 ∨ q_okc u 0 8 = 0
    · have e := Sum.inr.inj ((g0 z).symm.trans eE)
      subst e
      rw [if_pos rfl]
      exact qk_some ⟨W1, f1 _ _, fun _ => ⟨rfl, K1⟩, fun y1 y2 => absurd z (fun q => q.elim y1 y2), fun y1 y2 => absurd z (fun q => q.elim y1 y2)⟩
    · have z1 : q_okc w 0 8 ≠ 0 := fun q => z (Or.inl q)
      have z2 : q_okc u 0 8 ≠ 0 := fun q => z (Or.inr q)
      by_cases c : vI h sf 5 = 12
      · have e := Sum.inr.inj ((g1 z1 z2 c).symm.trans eE)
        subst e
        rw [if_neg (by decide), if_pos rfl]
        exact qk_some ⟨W1, f1 _ _, fun q => absurd q z, fun _ _ _ => ⟨rfl, K1⟩, fun _ _ q => absurd c q⟩
      · exact absurd ((g2 z1 z2 c).1.symm.trans eE) (by simp)
theorem q_cl11m {x : Int32} (a : 0 ≤ x) (b : x ≤ 12) (c : x ≠ 0) : (x - 1).toNatClampNeg < 12 := q_cl11 (x := x - 1) (by lia) (by lia) (by lia)
theorem i_more {w : Int64} (T : q_U L W h0 π h) (k : qκ L sf = 12) (wS : ∀ a, sf ≤ a → a < sf + 552 → W a) (ko : qκ L ou = 1 * 1000 + 200) (wo : W ou) (I : q_IC L π h sf) (hN : 100000 ≤ N) : qk (f_Law_more N sf w ou h) (fun r => q_WR L W h0 π sf h r.2 ∧ (vI r.2 (sf + 1) 1 = vI h (sf + 1) 1 ∧ vI r.2 sf 5 = vI h sf 5) ∧ (q_okc w 0 8 = 0 → r.1 = 1 ∧ q_KP sf h r.2) ∧ (q_okc w 0 8 ≠ 0 → vI h sf 5 = 0 → r.1 = 2 ∧ q_KP sf h r.2) ∧ (q_okc w 0 8 ≠ 0 → vI h sf 5 ≠ 0 → 24 < vI h (sf + (528 + 2 * Int32.toNatClampNeg (vI h sf 5 - 1))) 1 + q_cn w 8 → r.1 = 2 ∧ q_KP sf h r.2) ∧ (q_okc w 0 8 ≠ 0 → vI h sf 5 ≠ 0 → vI h (sf + (528 + 2 * Int32.toNatClampNeg (vI h sf 5 - 1))) 1 + q_cn w 8 ≤ 24 → r.1 = 0 ∧ aL r.2 ou 0 = some (Int32.toInt64 (vI h (sf + (528 + 2 * Int32.toNatClampNeg (vI h sf 5 - 1))) 1 + q_cn w 8)) ∧ vI r.2 (sf + (528 + 2 * Int32.toNatClampNeg (vI h sf 5 - 1))) 1 = vI h (sf + (528 + 2 * Int32.toNatClampNeg (vI h sf 5 - 1))) 1 + q_cn w 8 ∧ ∀ j, j < 12 → j ≠ Int32.toNatClampNeg (vI h sf 5 - 1) → vI r.2 (sf + (528 + 2 * j)) 1 = vI h (sf + (528 + 2 * j)) 1)) := by
  have s5 := q_s5 T k
  unfold f_Law_more
  refine r_SF_o T k ?_
  refine c_SF_more T k wS hN ?_
  intro y h1 T1 g0 g1 g2 g2' g3 g4 g5
  refine q_tail T1 ko wo (fun v h2 ev T2 i2 a2 o2 => ?_) (fun E eE => ?_)
  · have z : ¬ q_okc w 0 8 = 0 := fun z => absurd ((g0 z).symm.trans ev) (by simp)
    have c : ¬ vI h sf 5 = 0 := fun c => absurd ((g1 z c).symm.trans ev) (by simp)
    have c11 := q_cl11m s5.1 s5.2 c
    have d : ¬ 24 < vI h (sf + (528 + 2 * Int32.toNatClampNeg (vI h sf 5 - 1))) 1 + q_cn w 8 := fun d => absurd ((g2 z c d).symm.trans ev) (by simp)
    obtain ⟨b1, b2⟩ := g2' z c (Int32.not_lt.mp d)
    have cv := Sum.inl.inj (b1.symm.trans ev)
    have I1 : q_IC L π h1 sf := q_IC_eq T I (fun _ _ _ => rfl) (fun z => z) (fun a k _ _ _ => g4 a k (fun q => by omega)) (fun a j j0 _ _ => g5 a j j0 (fun q => by omega))
    have F1 : q_FR sf π π h h1 := ⟨fun a k _ _ => g4 a k (fun q => by omega), fun a j j0 _ => g5 a j j0 (fun q => by omega), fun _ _ _ => rfl⟩
    refine ⟨q_WR_2 T1 T2 I1 F1 i2 a2, ⟨(i2 _ _).trans (g4 _ _ (fun q => by omega)), (i2 _ _).trans (g4 _ _ (fun q => by omega))⟩, fun q => absurd q z, fun _ q => absurd q c, fun _ _ q => absurd q d, fun _ _ _ => ⟨rfl, by rw [cv]; exact o2, (i2 _ _).trans b2, fun j j1 j2 => (i2 _ _).trans (g4 _ _ (fun q => by omega))⟩⟩
  · obtain ⟨f1, f2⟩ := g3 E eE
    have W1 := q_all_WR T T1 I f1 f2
    have K1 : q_KP sf h h1 := ⟨f1 _ _, f1 _ _, fun j _ => f1 _ _⟩
    by_cases z : q_okc w 0 8 = 0
    · have e := Sum.inr.inj ((g0 z).symm.trans eE)
      subst e
      rw [if_pos rfl]
      exact qk_some ⟨W1, ⟨f1 _ _, f1 _ _⟩, fun _ => ⟨rfl, K1⟩, fun q => absurd z q, fun q => absurd z q, fun q => absurd z q⟩
    · by_cases c : vI h sf 5 = 0
      · have e := Sum.inr.inj ((g1 z c).symm.trans eE)
        subst e
        rw [if_neg (by decide), if_pos rfl]
        exact qk_some ⟨W1, ⟨f1 _ _, f1 _ _⟩, fun q => absurd q z, fun _ _ => ⟨rfl, K1⟩, fun _ q => absurd c q, fun _ q => absurd c q⟩
      · by_cases d : 24 < vI h (sf + (528 + 2 * Int32.toNatClampNeg (vI h sf 5 - 1))) 1 + q_cn w 8
        · have e := Sum.inr.inj ((g2 z c d).symm.trans eE)
          subst e
          rw [if_neg (by decide), if_pos rfl]
          exact qk_some ⟨W1, ⟨f1 _ _, f1 _ _⟩, fun q => absurd q z, fun _ q => absurd q c, fun _ _ _ => ⟨rfl, K1⟩, fun _ _ q => absurd d (Int32.not_lt.mpr q)⟩
        · exact absurd ((g2' z c (Int32.not_lt.mp d)).1.symm.trans eE) (by simp)
theorem i_out {w : Int32} (T : q_U L W h0 π h) (k : qκ L sf = 12) (wS : ∀ a, sf ≤ a → a < sf + 552 → W a) (ko : qκ L ou = 1 * 1000 + 200) (wo : W ou) (I : q_IC L π h sf) (hN : 100000 ≤ N) : qk (f_Law_out N sf w ou h) (fun r => q_WR L W h0 π sf h r.2 ∧ q_KP sf h r.2) := by
  unfold f_Law_out
  refine r_SF_o T k ?_
  obtain ⟨p, q, s, t, d, i1, i2, i3, i4, i5, i6, i7, i8⟩ := id I
  refine c_SF_out T k wS ?_
  intro y h1 T1 g0 f1 f2
  have W1 := q_all_WR T T1 I f1 (fun a j _ => f2 a j)
  have K1 : q_KP sf h h1 := ⟨f1 _ _, f1 _ _, fun j _ => f1 _ _⟩
  obtain ⟨π', T', I', F'⟩ := W1
  refine q_tail T1 ko wo (fun v h2 ev T2 i2 a2 o2 => ⟨?_, q_KP_2 K1 i2⟩) (fun E eE => ?_)
  · exact q_all_WR T T2 I (fun a k => (i2 a k).trans (f1 a k)) (fun a j _ => (a2 a j).trans (f2 a j))
  · have e := g0 E eE
    subst e
    rw [if_pos rfl]
    exact qk_some ⟨⟨π', T', I', F'⟩, K1⟩
theorem i_ran {w : Int32} (T : q_U L W h0 π h) (k : qκ L sf = 12) (wS : ∀ a, sf ≤ a → a < sf + 552 → W a) (ko : qκ L ou = 1 * 1000 + 200) (wo : W ou) (I : q_IC L π h sf) (hN : 100000 ≤ N) : qk (f_Law_ran N sf w ou h) (fun r => q_WR L W h0 π sf h r.2 ∧ q_KP sf h r.2) := by
  unfold f_Law_ran
  refine r_SF_o T k ?_
  obtain ⟨p, q, s, t, d, i1, i2, i3, i4, i5, i6, i7, i8⟩ := id I
  refine c_SF_ran T k i6.2.2.2.1 i6.1 i6.2.2.2.2.1 i6.2.1 wS ?_
  intro y h1 T1 g0 f1 f2
  have W1 := q_all_WR T T1 I f1 (fun a j _ => f2 a j)
  have K1 : q_KP sf h h1 := ⟨f1 _ _, f1 _ _, fun j _ => f1 _ _⟩
  obtain ⟨π', T', I', F'⟩ := W1
  refine q_tail T1 ko wo (fun v h2 ev T2 i2 a2 o2 => ⟨?_, q_KP_2 K1 i2⟩) (fun E eE => ?_)
  · exact q_all_WR T T2 I (fun a k => (i2 a k).trans (f1 a k)) (fun a j _ => (a2 a j).trans (f2 a j))
  · have e := g0 E eE
    subst e
    rw [if_pos rfl]
    exact qk_some ⟨⟨π', T', I', F'⟩, K1⟩
theorem i_count {w : Int32} (T : q_U L W h0 π h) (k : qκ L sf = 12) (wS : ∀ a, sf ≤ a → a < sf + 552 → W a) (ko : qκ L ou = 1 * 1000 + 200) (wo : W ou) (I : q_IC L π h sf) (hN : 100000 ≤ N) : qk (f_Law_count N sf w ou h) (fun r => q_WR L W h0 π sf h r.2 ∧ q_KP sf h r.2) := by
  unfold f_Law_count
  refine r_SF_o T k ?_
  obtain ⟨p, q, s, t, d, i1, i2, i3, i4, i5, i6, i7, i8⟩ := id I
  refine c_SF_count T k i3 i1 wS ?_
  intro y h1 T1 g0 f1 f2
  have W1 := q_all_WR T T1 I f1 (fun a j _ => f2 a j)
  have K1 : q_KP sf h h1 := ⟨f1 _ _, f1 _ _, fun j _ => f1 _ _⟩
  obtain ⟨π', T', I', F'⟩ := W1
  refine q_tail T1 ko wo (fun v h2 ev T2 i2 a2 o2 => ⟨?_, q_KP_2 K1 i2⟩) (fun E eE => ?_)
  · exact q_all_WR T T2 I (fun a k => (i2 a k).trans (f1 a k)) (fun a j _ => (a2 a j).trans (f2 a j))
  · have e := g0 E eE
    subst e
    rw [if_pos rfl]
    exact qk_some ⟨⟨π', T', I', F'⟩, K1⟩
theorem i_parse (T : q_U L W h0 π h) (k : qκ L sf = 12) (wS : ∀ a, sf ≤ a → a < sf + 552 → W a) (ko : qκ L ou = 1 * 1000 + 200) (wo : W ou) (I : q_IC L π h sf) (hN : 100000 ≤ N) : qk (f_Law_parse N sf ou h) (fun r => q_WR L W h0 π sf h r.2 ∧ q_KP sf h r.2) := by
  unfold f_Law_parse
  refine r_SF_o T k ?_
  obtain ⟨p, q, s, t, d, i1, i2, i3, i4, i5, i6, i7, i8⟩ := I
  refine c_SF_parse T k i3 i1 i4 i2 i7 wS (by omega) (by omega) hN ?_
  intro y π1 h1 T1 zp g0 g1 g2 g3
  have F1 : q_FR sf π π1 h h1 := ⟨fun a k _ _ => g2 a k (by omega) (by omega) (by omega), fun a j j0 _ => g3 a j j0 (by omega) (by omega), fun a k _ => zp a k (by omega) (by omega) (by omega) (by omega) (by omega) (by omega) (by omega)⟩
  have K1 : q_KP sf h h1 := ⟨g2 _ _ (by omega) (by omega) (by omega), g2 _ _ (by omega) (by omega) (by omega), fun j _ => g2 _ _ (by omega) (by omega) (by omega)⟩
  have R1 : q_R L π1 (sf + 9) s t d := q_R_eq i6 (fun k => zp _ _ (by omega) (by omega) (by omega) (by omega) (by omega) (by omega) (by omega))
  have P1 : π1 (sf + 4 + 2) 0 = some (sf + 4 + 1) := (zp _ _ (by omega) (by omega) (by omega) (by omega) (by omega) (by omega) (by omega)).trans i7
  have c := q_CProg T i3
  unfold q_C_Prog at c
  have t3 := T.2.2.2.1 p 3
  have h40 : vI h p 3 ≤ 40 := by rw [c.2.2.2.1.1, c.2.2.2.1.2] at t3; exact t3.2
  refine q_tail T1 ko wo (fun v h2 ev T2 i2' a2 o2 => ?_) (fun E eE => ?_)
  · obtain ⟨b1, b2, b3⟩ := g0 v ev
    exact ⟨q_WR_2 T1 T2 ⟨q, p, s, t, d, b1, b2, i4, i3, by omega, R1, P1, b3⟩ F1 i2' a2, q_KP_2 K1 i2'⟩
  · obtain ⟨e, b1, b2⟩ := g1 E eE
    subst e
    rw [if_pos rfl]
    exact qk_some ⟨⟨π1, T1, ⟨p, q, s, t, d, b1, b2, i3, i4, i5, R1, P1, q_PG_eq4 i8 h40 (fun a k _ _ _ => g2 a k (by omega) (by omega) (by omega)) (fun a j j0 _ _ => g3 a j j0 (by omega) (by omega))⟩, F1⟩, K1⟩
theorem i_run (T : q_U L W h0 π h) (k : qκ L sf = 12) (wS : ∀ a, sf ≤ a → a < sf + 552 → W a) (ko : qκ L ou = 1 * 1000 + 200) (wo : W ou) (I : q_IC L π h sf) (hN : 100000 ≤ N) : qk (f_Law_run N sf ou h) (fun r => q_WR L W h0 π sf h r.2 ∧ q_KP sf h r.2) := by
  unfold f_Law_run
  refine r_SF_o T k ?_
  obtain ⟨p, q, s, t, d, i1, i2, i3, i4, i5, i6, i7, i8⟩ := I
  refine c_SF_run T k i6.2.2.2.1 i6.1 i6.2.2.2.2.1 i6.2.1 i6.2.2.2.2.2.1 i6.2.2.1 i3 i1 wS i6 i8 (by omega) (by omega) hN ?_
  intro y π1 h1 T1 zp g0 g1 g2 g3
  have F1 : q_FR sf π π1 h h1 := ⟨fun a k _ z => g2 a k (by omega) z, fun a j j0 _ => g3 a j j0 (by omega), fun a k _ => zp a k (by omega) (by omega) (by omega) (by omega) (by omega) (by omega) (by omega) (by omega)⟩
  have K1 : q_KP sf h h1 := ⟨g2 _ _ (by omega) (by omega), g2 _ _ (by omega) (by omega), fun j _ => g2 _ _ (by omega) (by omega)⟩
  obtain ⟨s1, t1, d1, R1⟩ := g0
  have c := q_CProg T i3
  unfold q_C_Prog at c
  have t3 := T.2.2.2.1 p 3
  have h40 : vI h p 3 ≤ 40 := by rw [c.2.2.2.1.1, c.2.2.2.1.2] at t3; exact t3.2
  have I1 : q_IC L π1 h1 sf := ⟨p, q, s1, t1, d1, (zp _ _ (by omega) (by omega) (by omega) (by omega) (by omega) (by omega) (by omega) (by omega)).trans i1, (zp _ _ (by omega) (by omega) (by omega) (by omega) (by omega) (by omega) (by omega) (by omega)).trans i2, i3, i4, i5, R1, (zp _ _ (by omega) (by omega) (by omega) (by omega) (by omega) (by omega) (by omega) (by omega)).trans i7, q_PG_eq4 i8 h40 (fun a k _ _ z => g2 a k (by omega) z) (fun a j j0 _ _ => g3 a j j0 (by omega))⟩
  refine q_tail T1 ko wo (fun v h2 ev T2 i2' a2 o2 => ⟨q_WR_2 T1 T2 I1 F1 i2' a2, q_KP_2 K1 i2'⟩) (fun E eE => ?_)
  rcases g1 E eE with e | e | e <;> subst e
  · rw [if_pos rfl]
    exact qk_some ⟨⟨π1, T1, I1, F1⟩, K1⟩
  · rw [if_neg (by decide), if_pos rfl]
    exact qk_some ⟨⟨π1, T1, I1, F1⟩, K1⟩
  · rw [if_neg (by decide), if_neg (by decide), if_pos rfl]
    exact qk_some ⟨⟨π1, T1, I1, F1⟩, K1⟩
theorem i_match {w u v : Int32} (T : q_U L W h0 π h) (k : qκ L sf = 12) (wS : ∀ a, sf ≤ a → a < sf + 552 → W a) (ko : qκ L ou = 1 * 1000 + 200) (wo : W ou) (I : q_IC L π h sf) (hN : 100000 ≤ N) : qk (f_Law_match N sf w u v ou h) (fun r => q_WR L W h0 π sf h r.2 ∧ q_KP sf h r.2) := by
  unfold f_Law_match
  refine r_SF_o T k ?_
  obtain ⟨p, q, s, t, d, i1, i2, i3, i4, i5, i6, i7, i8⟩ := I
  refine c_SF_match T k i3 i1 wS i8 (by omega) (by omega) hN ?_
  intro y π1 h1 T1 zp g1 g2 g3
  have F1 : q_FR sf π π1 h h1 := ⟨fun a k _ z => g2 a k (by omega), fun a j j0 _ => g3 a j j0 (by omega), fun a k _ => zp a k (by omega) (by omega) (by omega)⟩
  have K1 : q_KP sf h h1 := ⟨g2 _ _ (by omega), g2 _ _ (by omega), fun j _ => g2 _ _ (by omega)⟩
  have c := q_CProg T i3
  unfold q_C_Prog at c
  have t3 := T.2.2.2.1 p 3
  have h40 : vI h p 3 ≤ 40 := by rw [c.2.2.2.1.1, c.2.2.2.1.2] at t3; exact t3.2
  have I1 : q_IC L π1 h1 sf := ⟨p, q, s, t, d, (zp _ _ (by omega) (by omega) (by omega)).trans i1, (zp _ _ (by omega) (by omega) (by omega)).trans i2, i3, i4, i5, q_R_eq i6 (fun k => zp _ _ (by omega) (by omega) (by omega)), (zp _ _ (by omega) (by omega) (by omega)).trans i7, q_PG_eq4 i8 h40 (fun a k _ _ z => g2 a k (by omega)) (fun a j j0 _ _ => g3 a j j0 (by omega))⟩
  refine q_tail T1 ko wo (fun v h2 ev T2 i2' a2 o2 => ⟨q_WR_2 T1 T2 I1 F1 i2' a2, q_KP_2 K1 i2'⟩) (fun E eE => ?_)
  rcases g1 E eE with e | e | e <;> subst e
  · rw [if_pos rfl]
    exact qk_some ⟨⟨π1, T1, I1, F1⟩, K1⟩
  · rw [if_neg (by decide), if_neg (by decide), if_pos rfl]
    exact qk_some ⟨⟨π1, T1, I1, F1⟩, K1⟩
  · rw [if_neg (by decide), if_pos rfl]
    exact qk_some ⟨⟨π1, T1, I1, F1⟩, K1⟩
end WRAP
