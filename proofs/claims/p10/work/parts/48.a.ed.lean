/-- what is thrown goes on, what comes back is bound -/
theorem qk_zx {α β : Type} {y : α ⊕ String} {h : z_H} {k : α → z_H → Option ((β ⊕ String) × z_H)} {Q : (β ⊕ String) × z_H → Prop} (h1 : ∀ x, y = .inl x → qk (k x h) Q) (h2 : ∀ E, y = .inr E → Q (.inr E, h)) : qk (zx_k (y, h) k) Q := by
  cases y with
  | inl x => exact h1 x rfl
  | inr E => exact ⟨_, rfl, h2 E rfl⟩
/-- the editor's three rows: the space, what is held, the draft -/
def q_R (L : q_L) (π : Nat → Nat → Option Nat) (e s t d : Nat) : Prop :=
  π e 1 = some s ∧ π e 2 = some t ∧ π e 9 = some d ∧ qκ L s = 11 ∧ qκ L t = 11 ∧ qκ L d = 11 ∧ e + 3 ≤ s ∧ s + 2 ≤ e + 16 ∧ s ≠ e + 7 ∧ e + 3 ≤ t ∧ t + 2 ≤ e + 16 ∧ t ≠ e + 7 ∧ e + 3 ≤ d ∧ d + 2 ≤ e + 16 ∧ d ≠ e + 7
theorem q_hg {L : q_L} {W : Nat → Prop} {h0 h : z_H} {π : Nat → Nat → Option Nat} {it : Nat} (T : q_U L W h0 π h) (k : qκ L it = 5) : ∀ j, 0 ≤ j → 0 ≤ vA h (it + 2) j := by
  intro j _
  have c := q_CIt T k
  unfold q_C_It at c
  have t := (T.2.2.2.2.1 (it + 2) j).1
  have e : qel L (it + 2) = 0 := by grind
  rwa [e] at t
theorem q_PW_eq2 {h h' : z_H} {it pt : Nat} (P : q_PW h it pt) (e : ∀ j, 0 ≤ j → vA h' (it + 1) j = vA h (it + 1) j) (e' : ∀ j, 0 ≤ j → vA h' (it + 2) j = vA h (it + 2) j) (e0 : vI h' it 4 = vI h it 4) (e1 : vI h' pt 2 = vI h pt 2) (e2 : vI h' pt 3 = vI h pt 3) (e3 : vI h' pt 4 = vI h pt 4) (e4 : vI h' pt 5 = vI h pt 5) : q_PW h' it pt := by
  refine ⟨q_PV_eq P.1 (fun j h1 h2 => ⟨e j h1, e' j h1⟩) e1 e3 e4 e2, ?_⟩
  rw [e2, e0]
  exact P.2
theorem q_CV_eq2 {h h' : z_H} {c it : Nat} (P : q_CV h c it) (e : ∀ j, 0 ≤ j → vA h' (it + 1) j = vA h (it + 1) j) (e' : ∀ j, 0 ≤ j → vA h' (it + 2) j = vA h (it + 2) j) (e0 : vI h' it 4 = vI h it 4) (e1 : ∀ a k, c ≤ a → a < c + 6 → k ≠ 15 → vI h' a k = vI h a k) : q_CV h' c it :=
  q_CV_eq3 P (fun j h1 _ => ⟨e j h1, e' j h1⟩) (by rw [e0]; exact Int32.le_refl _) (fun a k h1 h2 h3 => e1 a k h1 h2 (by omega))
theorem q_PG_eq {h h' : z_H} {pg e n : Nat} (P : q_PG h pg) (hp : e + n ≤ pg) (f1 : ∀ a k, ¬ (e ≤ a ∧ a < e + n) → k ≠ 15 → vI h' a k = vI h a k) (f2 : ∀ a j, 0 ≤ j → ¬ (e ≤ a ∧ a < e + n) → vA h' a j = vA h a j) : q_PG h' pg := by
  intro i i0 i1
  rw [f1 pg 3 (by omega) (by decide)] at i1
  obtain ⟨p1, p2⟩ := P i i0 i1
  refine ⟨q_CV_eq3 p1 (fun j hj _ => ⟨f2 _ j hj (by omega), f2 _ j hj (by omega)⟩) (by rw [f1 _ _ (by omega) (by decide)]; exact Int32.le_refl _) (fun a k ha _ hk => f1 a k (by omega) (by omega)), ?_⟩
  rw [f1 _ 3 (by omega) (by decide), f1 _ 7 (by omega) (by decide)]
  exact p2
set_option maxHeartbeats 1000000 in
theorem p_Ed_tell {L : q_L} {W : Nat → Prop} {h0 : z_H} {π : Nat → Nat → Option Nat} {N : Nat} {h : z_H} {v0 : Nat} {v1 : Nat} {v2 : Int32} {v3 : Int32} (T : q_U L W h0 π h) (kv0 : qκ L v0 = 4) (kv1 : qκ L v1 = 11) (wE : ∀ a, v0 ≤ a → a < v0 + 16 → W a) (b0 : 0 ≤ v2) (b1 : v2 ≤ 1000) (hN : 100000 ≤ N) : qk (f_Ed_tell N v0 v1 v2 v3 h) (fun r => q_U L W h0 π r.2 ∧ (∀ a k, ¬ (a = v0 + 1 ∧ k = 1) → vI r.2 a k = vI h a k) ∧ (∀ a j, 0 ≤ j → a ≠ v0 + 2 → vA r.2 a j = vA h a j) ∧ (∀ E, r.1 = .inr E → E = xE3 ∨ E = xE4)) := by
  have hr_v1 := q_rowhi T kv1
  have ced := q_CEd T kv0
  unfold q_C_Ed at ced
  unfold f_Ed_tell
  refine r_Ed_0 T kv0 ?_
  intro kx1 px1
  refine r_Row_o T kx1 ?_
  refine c_Row_hasRoom (v0 := (v0 + 1)) (v1 := ((v3 - v2) + 1)) T kx1 ?_
  intro yr3 gr3_0 gr3_1
  dsimp only
  refine qk_if (fun cc1 => ?_) (fun cc1 => ?_)
  · skip
    refine qk_some ?_
    exact ⟨T, (by first | with_reducible assumption | grind | grind (ematch := 40) (gen := 40) (splits := 40) | lia), (by first | with_reducible assumption | grind | grind (ematch := 40) (gen := 40) (splits := 40) | lia), (by intro E eE; have z := Sum.inr.inj eE; subst z; exact Or.inl rfl)⟩
  · skip
    refine r_Ed_0 T kv0 ?_
    intro kx5 px5
    refine r_Row_o T kx5 ?_
    refine c_Row_addPart (v0 := (v0 + 1)) (v1 := v1) (v2 := v2) (v3 := v3) T kx5 kv1 (by first | with_reducible assumption | grind | grind (ematch := 40) (gen := 40) (splits := 40) | lia) (by first | with_reducible assumption | grind | grind (ematch := 40) (gen := 40) (splits := 40) | lia) (by first | with_reducible assumption | grind | grind (ematch := 40) (gen := 40) (splits := 40) | lia) (by first | with_reducible assumption | grind | grind (ematch := 40) (gen := 40) (splits := 40) | lia) (by first | with_reducible assumption | grind | grind (ematch := 40) (gen := 40) (splits := 40) | lia) ?_
    intro r7 Tr7 gr7_0 gr7_1
    refine r_Ed_0 Tr7 kv0 ?_
    intro kx8 px8
    refine r_Row_o Tr7 kx8 ?_
    refine c_Row_add (v0 := (v0 + 1)) (v1 := 10) Tr7 kx8 (by first | with_reducible assumption | grind | grind (ematch := 40) (gen := 40) (splits := 40) | lia) (by first | with_reducible assumption | grind | grind (ematch := 40) (gen := 40) (splits := 40) | lia) ?_
    intro r10 Tr10 gr10_0 gr10_1
    refine qk_some ?_
    exact ⟨Tr10, (by first | with_reducible assumption | grind | grind (ematch := 40) (gen := 40) (splits := 40) | lia), (by first | with_reducible assumption | grind | grind (ematch := 40) (gen := 40) (splits := 40) | lia), (by intro E eE; exact absurd eE (by simp))⟩
theorem c_Ed_tell {L : q_L} {W : Nat → Prop} {h0 : z_H} {π : Nat → Nat → Option Nat} {N : Nat} {h : z_H} {v0 : Nat} {v1 : Nat} {v2 : Int32} {v3 : Int32} {β : Type} {f : (Unit ⊕ String) × z_H → Option β} {Q : β → Prop} (T : q_U L W h0 π h) (kv0 : qκ L v0 = 4) (kv1 : qκ L v1 = 11) (wE : ∀ a, v0 ≤ a → a < v0 + 16 → W a) (b0 : 0 ≤ v2) (b1 : v2 ≤ 1000) (hN : 100000 ≤ N) (H : ∀ y h', q_U L W h0 π h' → (∀ a k, ¬ (a = v0 + 1 ∧ k = 1) → vI h' a k = vI h a k) → (∀ a j, 0 ≤ j → a ≠ v0 + 2 → vA h' a j = vA h a j) → (∀ E, y = .inr E → E = xE3 ∨ E = xE4) → qk (f (y, h')) Q) : qk (z_b (f_Ed_tell N v0 v1 v2 v3 h) f) Q := by
  refine qk_b (p_Ed_tell T kv0 kv1 wE b0 b1 hN) ?_
  rintro ⟨y, hz⟩ ⟨Tz, g0, g1, g2⟩
  exact H y hz Tz g0 g1 g2

set_option maxHeartbeats 1000000 in
theorem p_Ed_tellAppended_4_n {L : q_L} {W : Nat → Prop} {h0 : z_H} {π : Nat → Nat → Option Nat} {N : Nat} {lo : Nat → Int32} (hqn : q_Q lo 202) : ∀ (n : Nat) (v0 : Nat) (v1 : Int32) (v2 : Int32) (h : z_H), q_U L W h0 π h → qκ L v0 = 4 → (∀ a, v0 ≤ a → a < v0 + 16 → W a) → (0 ≤ v1) → (v1 ≤ v2) → (v2 ≤ 201) → (100000 ≤ N) → (lo n ≤ v2) → qk (f_Ed_tellAppended_4 N  n v0 v1 v2 h) (fun r => q_U L W h0 π r.2 ∧ (∀ a k, ¬ ((a = v0 + 1 ∨ a = v0 + 7) ∧ k = 1) → vI r.2 a k = vI h a k) ∧ (∀ a j, 0 ≤ j → a ≠ v0 + 2 → vA r.2 a j = vA h a j) ∧ (∀ E, r.1 = .inr E → E = xE3 ∨ E = xE4)) := by
  intro n
  induction n with
  | zero => intro v0 v1 v2 h T kv0 wE b0 b1 b2 hN hms; have hz := hqn.1; exact absurd hms (by grind)
  | succ n ih =>
    intro v0 v1 v2 h T kv0 wE b0 b1 b2 hN hms
    obtain ⟨hq1, hq2, hq3⟩ := hqn.2 n
    rw [f_Ed_tellAppended_4]
    have ced := q_CEd T kv0
    unfold q_C_Ed at ced
    refine r_Ed_7 T kv0 ?_
    intro kx1 px1
    refine r_Row_1 T kx1 ?_
    intro x2 ex2 lx2 ux2 mx2
    subst ex2
    refine qk_if (fun cc1 => ?_) (fun cc1 => ?_)
    · skip
      refine r_Ed_7 T kv0 ?_
      intro kx4 px4
      refine r_Row_o T kx4 ?_
      refine c_Row_empty (v0 := (v0 + 7)) T kx4 (by clear ih; first | with_reducible assumption | grind | grind (ematch := 40) (gen := 40) (splits := 40) | lia) ?_
      intro r6 Tr6 gr6_0 gr6_1
      refine qk_some ?_
      exact ⟨Tr6, (by clear ih; first | with_reducible assumption | grind | grind (ematch := 40) (gen := 40) (splits := 40) | lia), (by clear ih; first | with_reducible assumption | grind | grind (ematch := 40) (gen := 40) (splits := 40) | lia), (by clear ih; intro E eE; exact absurd eE (by simp))⟩
    · skip
      refine r_Ed_7 T kv0 ?_
      intro kx7 px7
      refine r_Row_0 T kx7 ?_
      refine r_Row_e1 T kx7 (by clear ih; first | with_reducible assumption | grind | grind (ematch := 40) (gen := 40) (splits := 40) | lia) (by clear ih; first | with_reducible assumption | grind | grind (ematch := 40) (gen := 40) (splits := 40) | lia) ?_
      intro x9 ex9 lx9 ux9
      subst ex9
      refine qk_if (fun cc2 => ?_) (fun cc2 => ?_)
      · skip
        refine r_Ed_7 T kv0 ?_
        intro kx12 px12
        refine r_Ed_o T kv0 ?_
        refine c_Ed_tell (v0 := v0) (v1 := (v0 + 7)) (v2 := v1) (v3 := v2) T kv0 kx12 (by clear ih; first | with_reducible assumption | grind | grind (ematch := 40) (gen := 40) (splits := 40) | lia) (by clear ih; first | with_reducible assumption | grind | grind (ematch := 40) (gen := 40) (splits := 40) | lia) (by clear ih; first | with_reducible assumption | grind | grind (ematch := 40) (gen := 40) (splits := 40) | lia) (by clear ih; first | with_reducible assumption | grind | grind (ematch := 40) (gen := 40) (splits := 40) | lia) ?_
        intro yr14 hr14 Tr14 gr14_0 gr14_1 gr14_2
        try dsimp only
        refine qk_zx (fun x15 ex15 => ?_) (fun Ex15 ex15 => ?_)
        · skip
          refine qk_bs ?_
          refine qk_bs ?_
          refine qk_mono (ih (v0) ((v2 + 1)) ((v2 + 1)) hr14 Tr14 kv0 (by clear ih; first | with_reducible assumption | grind | grind (ematch := 40) (gen := 40) (splits := 40) | lia) (by clear ih; first | with_reducible assumption | grind | grind (ematch := 40) (gen := 40) (splits := 40) | lia) (by clear ih; first | with_reducible assumption | grind | grind (ematch := 40) (gen := 40) (splits := 40) | lia) (by clear ih; first | with_reducible assumption | grind | grind (ematch := 40) (gen := 40) (splits := 40) | lia) (by clear ih; first | with_reducible assumption | grind | grind (ematch := 40) (gen := 40) (splits := 40) | lia) (by clear ih; first | with_reducible assumption | grind | grind (ematch := 40) (gen := 40) (splits := 40) | lia)) ?_
          rintro ⟨y, hz⟩ ⟨Tz, g0, g1, g2⟩
          try dsimp only at *
          exact ⟨Tz, (by clear ih; first | with_reducible assumption | grind | grind (ematch := 40) (gen := 40) (splits := 40) | lia), (by clear ih; first | with_reducible assumption | grind | grind (ematch := 40) (gen := 40) (splits := 40) | lia), (by clear ih; exact g2)⟩
        · skip
          exact ⟨Tr14, (by clear ih; first | with_reducible assumption | grind | grind (ematch := 40) (gen := 40) (splits := 40) | lia), (by clear ih; first | with_reducible assumption | grind | grind (ematch := 40) (gen := 40) (splits := 40) | lia), (by clear ih; intro E eE; have z := Sum.inr.inj eE; subst z; exact gr14_2 _ ex15)⟩
      · skip
        refine qk_bs ?_
        refine qk_mono (ih (v0) (v1) ((v2 + 1)) h T kv0 (by clear ih; first | with_reducible assumption | grind | grind (ematch := 40) (gen := 40) (splits := 40) | lia) (by clear ih; first | with_reducible assumption | grind | grind (ematch := 40) (gen := 40) (splits := 40) | lia) (by clear ih; first | with_reducible assumption | grind | grind (ematch := 40) (gen := 40) (splits := 40) | lia) (by clear ih; first | with_reducible assumption | grind | grind (ematch := 40) (gen := 40) (splits := 40) | lia) (by clear ih; first | with_reducible assumption | grind | grind (ematch := 40) (gen := 40) (splits := 40) | lia) (by clear ih; first | with_reducible assumption | grind | grind (ematch := 40) (gen := 40) (splits := 40) | lia)) ?_
        rintro ⟨y, hz⟩ ⟨Tz, g0, g1, g2⟩
        try dsimp only at *
        exact ⟨Tz, (by clear ih; first | with_reducible assumption | grind | grind (ematch := 40) (gen := 40) (splits := 40) | lia), (by clear ih; first | with_reducible assumption | grind | grind (ematch := 40) (gen := 40) (splits := 40) | lia), (by clear ih; exact g2)⟩
theorem p_Ed_tellAppended_4 {L : q_L} {W : Nat → Prop} {h0 : z_H} {π : Nat → Nat → Option Nat} {N : Nat} {h : z_H} {v0 : Nat} {v1 : Int32} {v2 : Int32} (T : q_U L W h0 π h) (kv0 : qκ L v0 = 4) (wE : ∀ a, v0 ≤ a → a < v0 + 16 → W a) (b0 : 0 ≤ v1) (b1 : v1 ≤ v2) (b2 : v2 ≤ 201) (hN : 100000 ≤ N) : qk (f_Ed_tellAppended_4 N  N v0 v1 v2 h) (fun r => q_U L W h0 π r.2 ∧ (∀ a k, ¬ ((a = v0 + 1 ∨ a = v0 + 7) ∧ k = 1) → vI r.2 a k = vI h a k) ∧ (∀ a j, 0 ≤ j → a ≠ v0 + 2 → vA r.2 a j = vA h a j) ∧ (∀ E, r.1 = .inr E → E = xE3 ∨ E = xE4)) := by
  have hq := q_qnN hN
  refine p_Ed_tellAppended_4_n (q_lo (M := 202) (by decide) (by decide)) N v0 v1 v2 h T kv0 wE b0 b1 b2 hN ?_ 
  show 202 - q_n N ≤ _
  rw [hq]
  lia

set_option maxHeartbeats 1000000 in
theorem p_Ed_tellAppended {L : q_L} {W : Nat → Prop} {h0 : z_H} {π : Nat → Nat → Option Nat} {N : Nat} {h : z_H} {v0 : Nat} (T : q_U L W h0 π h) (kv0 : qκ L v0 = 4) (wE : ∀ a, v0 ≤ a → a < v0 + 16 → W a) (hN : 100000 ≤ N) : qk (f_Ed_tellAppended N v0 h) (fun r => q_U L W h0 π r.2 ∧ (∀ a k, ¬ ((a = v0 + 1 ∨ a = v0 + 7) ∧ k = 1) → vI r.2 a k = vI h a k) ∧ (∀ a j, 0 ≤ j → a ≠ v0 + 2 → vA r.2 a j = vA h a j) ∧ (∀ E, r.1 = .inr E → E = xE3 ∨ E = xE4)) := by
  have ced := q_CEd T kv0
  unfold q_C_Ed at ced
  unfold f_Ed_tellAppended
  refine qk_mono (p_Ed_tellAppended_4 (v0 := v0) (v1 := 0) (v2 := 0) T kv0 (by first | with_reducible assumption | grind | grind (ematch := 40) (gen := 40) (splits := 40) | lia) (by first | with_reducible assumption | grind | grind (ematch := 40) (gen := 40) (splits := 40) | lia) (by first | with_reducible assumption | grind | grind (ematch := 40) (gen := 40) (splits := 40) | lia) (by first | with_reducible assumption | grind | grind (ematch := 40) (gen := 40) (splits := 40) | lia) (by first | with_reducible assumption | grind | grind (ematch := 40) (gen := 40) (splits := 40) | lia)) ?_
  rintro ⟨y, hz⟩ ⟨Tz, g0, g1, g2⟩
  try dsimp only at *
  exact ⟨Tz, (by first | with_reducible assumption | grind | grind (ematch := 40) (gen := 40) (splits := 40) | lia), (by first | with_reducible assumption | grind | grind (ematch := 40) (gen := 40) (splits := 40) | lia), (by exact g2)⟩
theorem c_Ed_tellAppended {L : q_L} {W : Nat → Prop} {h0 : z_H} {π : Nat → Nat → Option Nat} {N : Nat} {h : z_H} {v0 : Nat} {β : Type} {f : (Unit ⊕ String) × z_H → Option β} {Q : β → Prop} (T : q_U L W h0 π h) (kv0 : qκ L v0 = 4) (wE : ∀ a, v0 ≤ a → a < v0 + 16 → W a) (hN : 100000 ≤ N) (H : ∀ y h', q_U L W h0 π h' → (∀ a k, ¬ ((a = v0 + 1 ∨ a = v0 + 7) ∧ k = 1) → vI h' a k = vI h a k) → (∀ a j, 0 ≤ j → a ≠ v0 + 2 → vA h' a j = vA h a j) → (∀ E, y = .inr E → E = xE3 ∨ E = xE4) → qk (f (y, h')) Q) : qk (z_b (f_Ed_tellAppended N v0 h) f) Q := by
  refine qk_b (p_Ed_tellAppended T kv0 wE hN) ?_
  rintro ⟨y, hz⟩ ⟨Tz, g0, g1, g2⟩
  exact H y hz Tz g0 g1 g2

set_option maxHeartbeats 1000000 in
theorem p_Ed_beginCycle {L : q_L} {W : Nat → Prop} {h0 : z_H} {π : Nat → Nat → Option Nat} {N : Nat} {h : z_H} {v0 : Nat} (T : q_U L W h0 π h) (kv0 : qκ L v0 = 4) (wE : ∀ a, v0 ≤ a → a < v0 + 16 → W a) : qk (f_Ed_beginCycle N v0 h) (fun r => q_U L W h0 π r ∧ (∀ a k, ¬ (a = v0 ∧ (k = 5 ∨ k = 13 ∨ k = 15)) → vI r a k = vI h a k) ∧ (∀ a j, vA r a j = vA h a j)) := by
  have ced := q_CEd T kv0
  unfold q_C_Ed at ced
  unfold f_Ed_beginCycle
  refine r_Ed_5 T kv0 ?_
  intro x1 ex1
  subst ex1
  refine w_Ed_5 T kv0 (by first | with_reducible assumption | grind | grind (ematch := 40) (gen := 40) (splits := 40) | lia) ?_
  intro h2 Th2 ih2 ah2
  refine w_Ed_15 Th2 kv0 (by first | with_reducible assumption | grind | grind (ematch := 40) (gen := 40) (splits := 40) | lia) ?_
  intro h3 Th3 ih3 ah3
  refine w_Ed_13 Th3 kv0 (by first | with_reducible assumption | grind | grind (ematch := 40) (gen := 40) (splits := 40) | lia) (by first | with_reducible assumption | grind | grind (ematch := 40) (gen := 40) (splits := 40) | lia) (by first | with_reducible assumption | grind | grind (ematch := 40) (gen := 40) (splits := 40) | lia) ?_
  intro h4 Th4 ih4 ah4
  refine qk_some ?_
  exact ⟨Th4, (by first | with_reducible assumption | grind | grind (ematch := 40) (gen := 40) (splits := 40) | lia), (by first | with_reducible assumption | grind | grind (ematch := 40) (gen := 40) (splits := 40) | lia)⟩
theorem c_Ed_beginCycle {L : q_L} {W : Nat → Prop} {h0 : z_H} {π : Nat → Nat → Option Nat} {N : Nat} {h : z_H} {v0 : Nat} {β : Type} {f : z_H → Option β} {Q : β → Prop} (T : q_U L W h0 π h) (kv0 : qκ L v0 = 4) (wE : ∀ a, v0 ≤ a → a < v0 + 16 → W a) (H : ∀ h', q_U L W h0 π h' → (∀ a k, ¬ (a = v0 ∧ (k = 5 ∨ k = 13 ∨ k = 15)) → vI h' a k = vI h a k) → (∀ a j, vA h' a j = vA h a j) → qk (f h') Q) : qk (z_b (f_Ed_beginCycle N v0 h) f) Q := by
  refine qk_b (p_Ed_beginCycle T kv0 wE) ?_
  rintro hz ⟨Tz, g0, g1⟩
  exact H hz Tz g0 g1

set_option maxHeartbeats 1000000 in
theorem p_Ed_readLine {L : q_L} {W : Nat → Prop} {h0 : z_H} {π : Nat → Nat → Option Nat} {N : Nat} {sf : Nat} {sp : Nat} {h : z_H} {v0 : Nat} (T : q_U L W h0 π h) (kv0 : qκ L v0 = 4) (ksf : qκ L sf = 12) (ksp : qκ L sp = 11) (psp : π v0 1 = some sp) (pln : π v0 11 = some (sf + 3)) (wE : ∀ a, v0 ≤ a → a < v0 + 16 → W a) (bsp1 : v0 + 3 ≤ sp) (bsp2 : sp + 2 ≤ v0 + 16) (bsp3 : sp ≠ v0 + 7) (lt : vI h v0 3 < vI h v0 12) (hN : 100000 ≤ N) : qk (f_Ed_readLine N v0 h) (fun r => q_U L W h0 π r ∧ (∀ a k, ¬ (a = v0 ∧ k = 3) → ¬ (a = sp ∧ k = 1) → vI r a k = vI h a k) ∧ (vI r v0 3 = vI h v0 3 + 1) ∧ (∀ a j, 0 ≤ j → a ≠ sp + 1 → vA r a j = vA h a j)) := by
  have hr_sp := q_rowhi T ksp
  have ced := q_CEd T kv0
  unfold q_C_Ed at ced
  have t12 := T.2.2.2.1 v0 12
  have t3 := T.2.2.2.1 v0 3
  unfold f_Ed_readLine
  refine r_Ed_11 T kv0 pln ?_
  refine r_Ed_3 T kv0 ?_
  intro x2 ex2 lx2 ux2
  subst ex2
  refine r_SF_e3 T ksf (by first | with_reducible assumption | grind | grind (ematch := 40) (gen := 40) (splits := 40) | lia) (by first | with_reducible assumption | grind | grind (ematch := 40) (gen := 40) (splits := 40) | lia) ?_
  intro kx3 px3 bx3
  refine r_Ed_1 T kv0 psp ?_
  refine r_Row_1 T kx3 ?_
  intro x5 ex5 lx5 ux5 mx5
  subst ex5
  refine r_Row_o T ksp ?_
  refine c_Row_addPart (v0 := sp) (v1 := (sf + (528 + 2 * Int32.toNatClampNeg (vI h v0 3)))) (v2 := 0) (v3 := (vI h (sf + (528 + 2 * Int32.toNatClampNeg (vI h v0 3))) 1)) T ksp kx3 (by first | with_reducible assumption | grind | grind (ematch := 40) (gen := 40) (splits := 40) | lia) (by first | with_reducible assumption | grind | grind (ematch := 40) (gen := 40) (splits := 40) | lia) (by first | with_reducible assumption | grind | grind (ematch := 40) (gen := 40) (splits := 40) | lia) (by first | with_reducible assumption | grind | grind (ematch := 40) (gen := 40) (splits := 40) | lia) (by first | with_reducible assumption | grind | grind (ematch := 40) (gen := 40) (splits := 40) | lia) ?_
  intro r7 Tr7 gr7_0 gr7_1
  refine r_Ed_3 Tr7 kv0 ?_
  intro x8 ex8 lx8 ux8
  subst ex8
  refine w_Ed_3 Tr7 kv0 (by first | with_reducible assumption | grind | grind (ematch := 40) (gen := 40) (splits := 40) | lia) (by first | with_reducible assumption | grind | grind (ematch := 40) (gen := 40) (splits := 40) | lia) (by first | with_reducible assumption | grind | grind (ematch := 40) (gen := 40) (splits := 40) | lia) ?_
  intro h9 Th9 ih9 ah9
  refine qk_some ?_
  exact ⟨Th9, (by first | with_reducible assumption | grind | grind (ematch := 40) (gen := 40) (splits := 40) | lia), (by first | with_reducible assumption | grind | grind (ematch := 40) (gen := 40) (splits := 40) | lia), (by first | with_reducible assumption | grind | grind (ematch := 40) (gen := 40) (splits := 40) | lia)⟩
theorem c_Ed_readLine {L : q_L} {W : Nat → Prop} {h0 : z_H} {π : Nat → Nat → Option Nat} {N : Nat} {sf : Nat} {sp : Nat} {h : z_H} {v0 : Nat} {β : Type} {f : z_H → Option β} {Q : β → Prop} (T : q_U L W h0 π h) (kv0 : qκ L v0 = 4) (ksf : qκ L sf = 12) (ksp : qκ L sp = 11) (psp : π v0 1 = some sp) (pln : π v0 11 = some (sf + 3)) (wE : ∀ a, v0 ≤ a → a < v0 + 16 → W a) (bsp1 : v0 + 3 ≤ sp) (bsp2 : sp + 2 ≤ v0 + 16) (bsp3 : sp ≠ v0 + 7) (lt : vI h v0 3 < vI h v0 12) (hN : 100000 ≤ N) (H : ∀ h', q_U L W h0 π h' → (∀ a k, ¬ (a = v0 ∧ k = 3) → ¬ (a = sp ∧ k = 1) → vI h' a k = vI h a k) → (vI h' v0 3 = vI h v0 3 + 1) → (∀ a j, 0 ≤ j → a ≠ sp + 1 → vA h' a j = vA h a j) → qk (f h') Q) : qk (z_b (f_Ed_readLine N v0 h) f) Q := by
  refine qk_b (p_Ed_readLine T kv0 ksf ksp psp pln wE bsp1 bsp2 bsp3 lt hN) ?_
  rintro hz ⟨Tz, g0, g1, g2⟩
  exact H hz Tz g0 g1 g2

set_option maxHeartbeats 1000000 in
theorem p_Ed_beginLine {L : q_L} {W : Nat → Prop} {h0 : z_H} {π : Nat → Nat → Option Nat} {N : Nat} {sf : Nat} {sp : Nat} {h : z_H} {v0 : Nat} (T : q_U L W h0 π h) (kv0 : qκ L v0 = 4) (ksf : qκ L sf = 12) (ksp : qκ L sp = 11) (psp : π v0 1 = some sp) (pln : π v0 11 = some (sf + 3)) (wE : ∀ a, v0 ≤ a → a < v0 + 16 → W a) (bsp1 : v0 + 3 ≤ sp) (bsp2 : sp + 2 ≤ v0 + 16) (bsp3 : sp ≠ v0 + 7) (lr : vI h v0 3 ≤ vI h v0 12) (hN : 100000 ≤ N) : qk (f_Ed_beginLine N v0 h) (fun r => q_U L W h0 π r ∧ (∀ a k, a ≠ v0 → ¬ (a = sp ∧ k = 1) → vI r a k = vI h a k) ∧ (∀ a j, 0 ≤ j → a ≠ sp + 1 → vA r a j = vA h a j) ∧ (vI r v0 3 ≤ vI r v0 12) ∧ (vI r v0 12 = vI h v0 12)) := by
  have hr_sp := q_rowhi T ksp
  have ced := q_CEd T kv0
  unfold q_C_Ed at ced
  have t12 := T.2.2.2.1 v0 12
  have t3 := T.2.2.2.1 v0 3
  unfold f_Ed_beginLine
  refine r_Ed_3 T kv0 ?_
  intro x1 ex1 lx1 ux1
  subst ex1
  refine r_Ed_12 T kv0 ?_
  intro x2 ex2 lx2 ux2
  subst ex2
  refine qk_if (fun cc1 => ?_) (fun cc1 => ?_)
  · skip
    refine w_Ed_14 T kv0 (by first | with_reducible assumption | grind | grind (ematch := 40) (gen := 40) (splits := 40) | lia) ?_
    intro h11 Th11 ih11 ah11
    refine qk_some ?_
    exact ⟨Th11, (by first | with_reducible assumption | grind | grind (ematch := 40) (gen := 40) (splits := 40) | lia), (by first | with_reducible assumption | grind | grind (ematch := 40) (gen := 40) (splits := 40) | lia), (by first | with_reducible assumption | grind | grind (ematch := 40) (gen := 40) (splits := 40) | lia), (by first | with_reducible assumption | grind | grind (ematch := 40) (gen := 40) (splits := 40) | lia)⟩
  · skip
    refine r_Ed_1 T kv0 psp ?_
    refine r_Row_o T ksp ?_
    refine c_Row_empty (v0 := sp) T ksp (by first | with_reducible assumption | grind | grind (ematch := 40) (gen := 40) (splits := 40) | lia) ?_
    intro r6 Tr6 gr6_0 gr6_1
    refine r_Ed_o Tr6 kv0 ?_
    refine c_Ed_readLine (v0 := v0) (sf := sf) (sp := sp) Tr6 kv0 ksf ksp psp pln (by first | with_reducible assumption | grind | grind (ematch := 40) (gen := 40) (splits := 40) | lia) (by first | with_reducible assumption | grind | grind (ematch := 40) (gen := 40) (splits := 40) | lia) (by first | with_reducible assumption | grind | grind (ematch := 40) (gen := 40) (splits := 40) | lia) (by first | with_reducible assumption | grind | grind (ematch := 40) (gen := 40) (splits := 40) | lia) (by first | with_reducible assumption | grind | grind (ematch := 40) (gen := 40) (splits := 40) | lia) (by first | with_reducible assumption | grind | grind (ematch := 40) (gen := 40) (splits := 40) | lia) ?_
    intro r8 Tr8 gr8_0 gr8_1 gr8_2
    refine r_Ed_o Tr8 kv0 ?_
    refine c_Ed_beginCycle (v0 := v0) Tr8 kv0 (by first | with_reducible assumption | grind | grind (ematch := 40) (gen := 40) (splits := 40) | lia) ?_
    intro r10 Tr10 gr10_0 gr10_1
    refine qk_some ?_
    exact ⟨Tr10, (by first | with_reducible assumption | grind | grind (ematch := 40) (gen := 40) (splits := 40) | lia), (by first | with_reducible assumption | grind | grind (ematch := 40) (gen := 40) (splits := 40) | lia), (by first | with_reducible assumption | grind | grind (ematch := 40) (gen := 40) (splits := 40) | lia), (by first | with_reducible assumption | grind | grind (ematch := 40) (gen := 40) (splits := 40) | lia)⟩
theorem c_Ed_beginLine {L : q_L} {W : Nat → Prop} {h0 : z_H} {π : Nat → Nat → Option Nat} {N : Nat} {sf : Nat} {sp : Nat} {h : z_H} {v0 : Nat} {β : Type} {f : z_H → Option β} {Q : β → Prop} (T : q_U L W h0 π h) (kv0 : qκ L v0 = 4) (ksf : qκ L sf = 12) (ksp : qκ L sp = 11) (psp : π v0 1 = some sp) (pln : π v0 11 = some (sf + 3)) (wE : ∀ a, v0 ≤ a → a < v0 + 16 → W a) (bsp1 : v0 + 3 ≤ sp) (bsp2 : sp + 2 ≤ v0 + 16) (bsp3 : sp ≠ v0 + 7) (lr : vI h v0 3 ≤ vI h v0 12) (hN : 100000 ≤ N) (H : ∀ h', q_U L W h0 π h' → (∀ a k, a ≠ v0 → ¬ (a = sp ∧ k = 1) → vI h' a k = vI h a k) → (∀ a j, 0 ≤ j → a ≠ sp + 1 → vA h' a j = vA h a j) → (vI h' v0 3 ≤ vI h' v0 12) → (vI h' v0 12 = vI h v0 12) → qk (f h') Q) : qk (z_b (f_Ed_beginLine N v0 h) f) Q := by
  refine qk_b (p_Ed_beginLine T kv0 ksf ksp psp pln wE bsp1 bsp2 bsp3 lr hN) ?_
  rintro hz ⟨Tz, g0, g1, g2, g3⟩
  exact H hz Tz g0 g1 g2 g3

set_option maxHeartbeats 1000000 in
theorem p_Ed_begin_55_n {L : q_L} {W : Nat → Prop} {h0 : z_H} {π : Nat → Nat → Option Nat} {N : Nat} {sf : Nat} {sp : Nat} {pg : Nat} {lo : Nat → Int32} (hqn : q_Q lo 42) : ∀ (n : Nat) (v0 : Nat) (v1 : Int32) (h : z_H), q_U L W h0 π h → qκ L v0 = 4 → (qκ L sf = 12) → (qκ L sp = 11) → (π v0 1 = some sp) → (qκ L pg = 10) → (π v0 10 = some pg) → (π v0 11 = some (sf + 3)) → (∀ a, v0 ≤ a → a < v0 + 16 → W a) → (∀ a, pg ≤ a → a < pg + 249 → W a) → (v0 + 3 ≤ sp) → (sp + 2 ≤ v0 + 16) → (sp ≠ v0 + 7) → (v0 + 16 ≤ pg) → (vI h v0 3 ≤ vI h v0 12) → (0 ≤ v1) → (v1 ≤ 41) → (100000 ≤ N) → (lo n ≤ v1) → qk (f_Ed_begin_55 N  n v0 v1 h) (fun r => q_U L W h0 π r ∧ (∀ a k, ¬ (v0 ≤ a ∧ a < v0 + 16) → k ≠ 15 → vI r a k = vI h a k) ∧ (∀ a j, 0 ≤ j → ¬ (v0 ≤ a ∧ a < v0 + 16) → vA r a j = vA h a j) ∧ (vI r v0 3 ≤ vI r v0 12)) := by
  intro n
  induction n with
  | zero => intro v0 v1 h T kv0 ksf ksp psp kpg ppg pln wE wG bsp1 bsp2 bsp3 hpg lr b0 b1 hN hms; have hr_sp := q_rowhi T ksp; have hz := hqn.1; exact absurd hms (by grind)
  | succ n ih =>
    intro v0 v1 h T kv0 ksf ksp psp kpg ppg pln wE wG bsp1 bsp2 bsp3 hpg lr b0 b1 hN hms
    obtain ⟨hq1, hq2, hq3⟩ := hqn.2 n
    rw [f_Ed_begin_55]
    have hr_sp := q_rowhi T ksp
    have ced := q_CEd T kv0
    unfold q_C_Ed at ced
    have t12 := T.2.2.2.1 v0 12
    have t3 := T.2.2.2.1 v0 3
    refine r_Ed_10 T kv0 ppg ?_
    refine r_Prog_3 T kpg ?_
    intro x2 ex2 lx2 ux2
    subst ex2
    refine qk_if (fun cc1 => ?_) (fun cc1 => ?_)
    · skip
      refine r_Ed_o T kv0 ?_
      refine c_Ed_beginLine (v0 := v0) (sf := sf) (sp := sp) T kv0 ksf ksp psp pln (by clear ih; first | with_reducible assumption | grind | grind (ematch := 40) (gen := 40) (splits := 40) | lia) (by clear ih; first | with_reducible assumption | grind | grind (ematch := 40) (gen := 40) (splits := 40) | lia) (by clear ih; first | with_reducible assumption | grind | grind (ematch := 40) (gen := 40) (splits := 40) | lia) (by clear ih; first | with_reducible assumption | grind | grind (ematch := 40) (gen := 40) (splits := 40) | lia) (by clear ih; first | with_reducible assumption | grind | grind (ematch := 40) (gen := 40) (splits := 40) | lia) (by clear ih; first | with_reducible assumption | grind | grind (ematch := 40) (gen := 40) (splits := 40) | lia) ?_
      intro r5 Tr5 gr5_0 gr5_1 gr5_2 gr5_3
      refine qk_some ?_
      exact ⟨Tr5, (by clear ih; first | with_reducible assumption | grind | grind (ematch := 40) (gen := 40) (splits := 40) | lia), (by clear ih; first | with_reducible assumption | grind | grind (ematch := 40) (gen := 40) (splits := 40) | lia), (by clear ih; first | with_reducible assumption | grind | grind (ematch := 40) (gen := 40) (splits := 40) | lia)⟩
    · skip
      refine r_Ed_10 T kv0 ppg ?_
      refine r_Prog_2 T kpg ?_
      refine r_Prog_e8 T kpg (by clear ih; first | with_reducible assumption | grind | grind (ematch := 40) (gen := 40) (splits := 40) | lia) (by clear ih; first | with_reducible assumption | grind | grind (ematch := 40) (gen := 40) (splits := 40) | lia) ?_
      intro kx8 bx8
      refine w_Cmd_15 T kx8 (by clear ih; first | with_reducible assumption | grind | grind (ematch := 40) (gen := 40) (splits := 40) | lia) ?_
      intro h9 Th9 ih9 ah9
      refine qk_bs ?_
      refine qk_mono (ih (v0) ((v1 + 1)) h9 Th9 kv0 ksf ksp psp kpg ppg pln (by clear ih; first | with_reducible assumption | grind | grind (ematch := 40) (gen := 40) (splits := 40) | lia) (by clear ih; first | with_reducible assumption | grind | grind (ematch := 40) (gen := 40) (splits := 40) | lia) (by clear ih; first | with_reducible assumption | grind | grind (ematch := 40) (gen := 40) (splits := 40) | lia) (by clear ih; first | with_reducible assumption | grind | grind (ematch := 40) (gen := 40) (splits := 40) | lia) (by clear ih; first | with_reducible assumption | grind | grind (ematch := 40) (gen := 40) (splits := 40) | lia) (by clear ih; first | with_reducible assumption | grind | grind (ematch := 40) (gen := 40) (splits := 40) | lia) (by clear ih; first | with_reducible assumption | grind | grind (ematch := 40) (gen := 40) (splits := 40) | lia) (by clear ih; first | with_reducible assumption | grind | grind (ematch := 40) (gen := 40) (splits := 40) | lia) (by clear ih; first | with_reducible assumption | grind | grind (ematch := 40) (gen := 40) (splits := 40) | lia) (by clear ih; first | with_reducible assumption | grind | grind (ematch := 40) (gen := 40) (splits := 40) | lia) (by clear ih; first | with_reducible assumption | grind | grind (ematch := 40) (gen := 40) (splits := 40) | lia)) ?_
      rintro hz ⟨Tz, g0, g1, g2⟩
      try dsimp only at *
      exact ⟨Tz, (by clear ih; first | with_reducible assumption | grind | grind (ematch := 40) (gen := 40) (splits := 40) | lia), (by clear ih; first | with_reducible assumption | grind | grind (ematch := 40) (gen := 40) (splits := 40) | lia), (by clear ih; first | with_reducible assumption | grind | grind (ematch := 40) (gen := 40) (splits := 40) | lia)⟩
theorem p_Ed_begin_55 {L : q_L} {W : Nat → Prop} {h0 : z_H} {π : Nat → Nat → Option Nat} {N : Nat} {sf : Nat} {sp : Nat} {pg : Nat} {h : z_H} {v0 : Nat} {v1 : Int32} (T : q_U L W h0 π h) (kv0 : qκ L v0 = 4) (ksf : qκ L sf = 12) (ksp : qκ L sp = 11) (psp : π v0 1 = some sp) (kpg : qκ L pg = 10) (ppg : π v0 10 = some pg) (pln : π v0 11 = some (sf + 3)) (wE : ∀ a, v0 ≤ a → a < v0 + 16 → W a) (wG : ∀ a, pg ≤ a → a < pg + 249 → W a) (bsp1 : v0 + 3 ≤ sp) (bsp2 : sp + 2 ≤ v0 + 16) (bsp3 : sp ≠ v0 + 7) (hpg : v0 + 16 ≤ pg) (lr : vI h v0 3 ≤ vI h v0 12) (b0 : 0 ≤ v1) (b1 : v1 ≤ 41) (hN : 100000 ≤ N) : qk (f_Ed_begin_55 N  N v0 v1 h) (fun r => q_U L W h0 π r ∧ (∀ a k, ¬ (v0 ≤ a ∧ a < v0 + 16) → k ≠ 15 → vI r a k = vI h a k) ∧ (∀ a j, 0 ≤ j → ¬ (v0 ≤ a ∧ a < v0 + 16) → vA r a j = vA h a j) ∧ (vI r v0 3 ≤ vI r v0 12)) := by
  have hq := q_qnN hN
  have hr_sp := q_rowhi T ksp
  refine p_Ed_begin_55_n (q_lo (M := 42) (by decide) (by decide)) N v0 v1 h T kv0 ksf ksp psp kpg ppg pln wE wG bsp1 bsp2 bsp3 hpg lr b0 b1 hN ?_ 
  show 42 - q_n N ≤ _
  rw [hq]
  lia

set_option maxHeartbeats 1000000 in
theorem p_Ed_begin {L : q_L} {W : Nat → Prop} {h0 : z_H} {π : Nat → Nat → Option Nat} {N : Nat} {sf : Nat} {sp : Nat} {ho : Nat} {pg : Nat} {h : z_H} {v0 : Nat} (T : q_U L W h0 π h) (kv0 : qκ L v0 = 4) (ksf : qκ L sf = 12) (ksp : qκ L sp = 11) (psp : π v0 1 = some sp) (kho : qκ L ho = 11) (pho : π v0 2 = some ho) (kpg : qκ L pg = 10) (ppg : π v0 10 = some pg) (pln : π v0 11 = some (sf + 3)) (wE : ∀ a, v0 ≤ a → a < v0 + 16 → W a) (wG : ∀ a, pg ≤ a → a < pg + 249 → W a) (bsp1 : v0 + 3 ≤ sp) (bsp2 : sp + 2 ≤ v0 + 16) (bsp3 : sp ≠ v0 + 7) (bho1 : v0 + 3 ≤ ho) (bho2 : ho + 2 ≤ v0 + 16) (bho3 : ho ≠ v0 + 7) (hpg : v0 + 16 ≤ pg) (hN : 100000 ≤ N) : qk (f_Ed_begin N v0 h) (fun r => q_U L W h0 π r ∧ (∀ a k, ¬ (v0 ≤ a ∧ a < v0 + 16) → k ≠ 15 → vI r a k = vI h a k) ∧ (∀ a j, 0 ≤ j → ¬ (v0 ≤ a ∧ a < v0 + 16) → vA r a j = vA h a j) ∧ (vI r v0 3 ≤ vI r v0 12)) := by
  have hr_sp := q_rowhi T ksp
  have hr_ho := q_rowhi T kho
  have ced := q_CEd T kv0
  unfold q_C_Ed at ced
  have t12 := T.2.2.2.1 v0 12
  have t3 := T.2.2.2.1 v0 3
  unfold f_Ed_begin
  refine r_Ed_0 T kv0 ?_
  intro kx1 px1
  refine r_Row_o T kx1 ?_
  refine c_Row_empty (v0 := (v0 + 1)) T kx1 (by first | with_reducible assumption | grind | grind (ematch := 40) (gen := 40) (splits := 40) | lia) ?_
  intro r3 Tr3 gr3_0 gr3_1
  refine r_Ed_1 Tr3 kv0 psp ?_
  refine r_Row_o Tr3 ksp ?_
  refine c_Row_empty (v0 := sp) Tr3 ksp (by first | with_reducible assumption | grind | grind (ematch := 40) (gen := 40) (splits := 40) | lia) ?_
  intro r6 Tr6 gr6_0 gr6_1
  refine r_Ed_2 Tr6 kv0 pho ?_
  refine r_Row_o Tr6 kho ?_
  refine c_Row_empty (v0 := ho) Tr6 kho (by first | with_reducible assumption | grind | grind (ematch := 40) (gen := 40) (splits := 40) | lia) ?_
  intro r9 Tr9 gr9_0 gr9_1
  refine r_Ed_7 Tr9 kv0 ?_
  intro kx10 px10
  refine r_Row_o Tr9 kx10 ?_
  refine c_Row_empty (v0 := (v0 + 7)) Tr9 kx10 (by first | with_reducible assumption | grind | grind (ematch := 40) (gen := 40) (splits := 40) | lia) ?_
  intro r12 Tr12 gr12_0 gr12_1
  refine w_Ed_3 Tr12 kv0 (by first | with_reducible assumption | grind | grind (ematch := 40) (gen := 40) (splits := 40) | lia) (by first | with_reducible assumption | grind | grind (ematch := 40) (gen := 40) (splits := 40) | lia) (by first | with_reducible assumption | grind | grind (ematch := 40) (gen := 40) (splits := 40) | lia) ?_
  intro h13 Th13 ih13 ah13
  refine w_Ed_4 Th13 kv0 (by first | with_reducible assumption | grind | grind (ematch := 40) (gen := 40) (splits := 40) | lia) (by first | with_reducible assumption | grind | grind (ematch := 40) (gen := 40) (splits := 40) | lia) (by first | with_reducible assumption | grind | grind (ematch := 40) (gen := 40) (splits := 40) | lia) ?_
  intro h14 Th14 ih14 ah14
  refine w_Ed_5 Th14 kv0 (by first | with_reducible assumption | grind | grind (ematch := 40) (gen := 40) (splits := 40) | lia) ?_
  intro h15 Th15 ih15 ah15
  refine w_Ed_6 Th15 kv0 (by first | with_reducible assumption | grind | grind (ematch := 40) (gen := 40) (splits := 40) | lia) ?_
  intro h16 Th16 ih16 ah16
  refine w_Ed_14 Th16 kv0 (by first | with_reducible assumption | grind | grind (ematch := 40) (gen := 40) (splits := 40) | lia) ?_
  intro h17 Th17 ih17 ah17
  refine qk_mono (p_Ed_begin_55 (v0 := v0) (v1 := 0) (sf := sf) (sp := sp) (pg := pg) Th17 kv0 ksf ksp psp kpg ppg pln (by first | with_reducible assumption | grind | grind (ematch := 40) (gen := 40) (splits := 40) | lia) (by first | with_reducible assumption | grind | grind (ematch := 40) (gen := 40) (splits := 40) | lia) (by first | with_reducible assumption | grind | grind (ematch := 40) (gen := 40) (splits := 40) | lia) (by first | with_reducible assumption | grind | grind (ematch := 40) (gen := 40) (splits := 40) | lia) (by first | with_reducible assumption | grind | grind (ematch := 40) (gen := 40) (splits := 40) | lia) (by first | with_reducible assumption | grind | grind (ematch := 40) (gen := 40) (splits := 40) | lia) (by first | with_reducible assumption | grind | grind (ematch := 40) (gen := 40) (splits := 40) | lia) (by first | with_reducible assumption | grind | grind (ematch := 40) (gen := 40) (splits := 40) | lia) (by first | with_reducible assumption | grind | grind (ematch := 40) (gen := 40) (splits := 40) | lia) (by first | with_reducible assumption | grind | grind (ematch := 40) (gen := 40) (splits := 40) | lia)) ?_
  rintro hz ⟨Tz, g0, g1, g2⟩
  try dsimp only at *
  exact ⟨Tz, (by first | with_reducible assumption | grind | grind (ematch := 40) (gen := 40) (splits := 40) | lia), (by first | with_reducible assumption | grind | grind (ematch := 40) (gen := 40) (splits := 40) | lia), (by first | with_reducible assumption | grind | grind (ematch := 40) (gen := 40) (splits := 40) | lia)⟩
theorem c_Ed_begin {L : q_L} {W : Nat → Prop} {h0 : z_H} {π : Nat → Nat → Option Nat} {N : Nat} {sf : Nat} {sp : Nat} {ho : Nat} {pg : Nat} {h : z_H} {v0 : Nat} {β : Type} {f : z_H → Option β} {Q : β → Prop} (T : q_U L W h0 π h) (kv0 : qκ L v0 = 4) (ksf : qκ L sf = 12) (ksp : qκ L sp = 11) (psp : π v0 1 = some sp) (kho : qκ L ho = 11) (pho : π v0 2 = some ho) (kpg : qκ L pg = 10) (ppg : π v0 10 = some pg) (pln : π v0 11 = some (sf + 3)) (wE : ∀ a, v0 ≤ a → a < v0 + 16 → W a) (wG : ∀ a, pg ≤ a → a < pg + 249 → W a) (bsp1 : v0 + 3 ≤ sp) (bsp2 : sp + 2 ≤ v0 + 16) (bsp3 : sp ≠ v0 + 7) (bho1 : v0 + 3 ≤ ho) (bho2 : ho + 2 ≤ v0 + 16) (bho3 : ho ≠ v0 + 7) (hpg : v0 + 16 ≤ pg) (hN : 100000 ≤ N) (H : ∀ h', q_U L W h0 π h' → (∀ a k, ¬ (v0 ≤ a ∧ a < v0 + 16) → k ≠ 15 → vI h' a k = vI h a k) → (∀ a j, 0 ≤ j → ¬ (v0 ≤ a ∧ a < v0 + 16) → vA h' a j = vA h a j) → (vI h' v0 3 ≤ vI h' v0 12) → qk (f h') Q) : qk (z_b (f_Ed_begin N v0 h) f) Q := by
  refine qk_b (p_Ed_begin T kv0 ksf ksp psp kho pho kpg ppg pln wE wG bsp1 bsp2 bsp3 bho1 bho2 bho3 hpg hN) ?_
  rintro hz ⟨Tz, g0, g1, g2⟩
  exact H hz Tz g0 g1 g2
