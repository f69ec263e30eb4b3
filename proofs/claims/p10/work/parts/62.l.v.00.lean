theorem x_i1 {v s i : Int32} (h : v < s) (h1 : v ≤ i) (q : ¬ i = v) : v + 1 ≤ i := by lia
theorem x_i2 {v s i : Int32} (h : v < s) (h1 : v + 1 ≤ i) : v ≤ i := by lia
theorem x_sb0 {v3 v2 : Int32} (w : 0 ≤ v3 ∧ v3 ≤ v2 ∧ v2 ≤ 1000) (h : v3 < v2) : ¬ v2 - v3 = 0 := by
  obtain ⟨w1, w2, w3⟩ := w
  lia
theorem x_sbe {v3 v2 : Int32} (w : 0 ≤ v3 ∧ v3 ≤ v2 ∧ v2 ≤ 1000) (h : ¬ v3 < v2) : v2 - v3 = 0 := by
  obtain ⟨w1, w2, w3⟩ := w
  lia
theorem x_ltn {v3 v2 : Int32} (w : 0 ≤ v3 ∧ v3 ≤ v2 ∧ v2 ≤ 1000) (h : ¬ v3 = v2) (h2 : ¬ v3 < v2) : v3 < v2 := by
  obtain ⟨w1, w2, w3⟩ := w
  lia
theorem x_wk2 {v3 v2 : Int32} (w : 0 ≤ v3 ∧ v3 ≤ v2 ∧ v2 ≤ 1000) (h : ¬ v3 = v2) : 0 ≤ v3 + 1 ∧ v3 + 1 ≤ v2 ∧ v2 ≤ 1000 := by
  obtain ⟨w1, w2, w3⟩ := w
  refine ⟨?_, ?_, w3⟩ <;> lia
theorem x_nn47 {c : Int32} (h : c = -1) : ¬ c = 47 := by rw [h]; decide
theorem x_sas (x y : Int32) : x + (y + 1) = x + y + 1 := by rw [Int32.add_assoc]
/-- y's first half: what was stored is the text from f on -/
def x_EX (t : Int32 → Int32) (n f F S a : Int32) (st : Int32 → Int32) : Prop := S = F + (a - f) ∧ (0 ≤ f ∧ f ≤ a ∧ a ≤ n) ∧ (f < a → 0 ≤ F ∧ F < 600) ∧ ∀ i, f ≤ i → i < a → st (F + (i - f)) = t i
theorem x_EX_d {t : Int32 → Int32} {n f F S a x : Int32} {st : Int32 → Int32} (E : x_EX t n f F S a st) (hF : x = F) : S - x = a - f := by
  obtain ⟨E, _⟩ := E
  subst hF
  subst E
  grind
theorem x_EX_wk {t : Int32 → Int32} {n f F S a x : Int32} {st : Int32 → Int32} (n2 : n ≤ 1000) (E : x_EX t n f F S a st) (hF : x = F) : (0 : Int32) ≤ 0 ∧ 0 ≤ S - x ∧ S - x ≤ 1000 := by
  have d := x_EX_d E hF
  obtain ⟨_, ⟨e1, e2, e3⟩, _⟩ := E
  rw [d]
  refine ⟨by decide, ?_, ?_⟩ <;> lia
theorem x_EX_0 {t : Int32 → Int32} {n a F : Int32} {st : Int32 → Int32} (n2 : n ≤ 1000) (a0 : 0 ≤ a) (c : x_lk t n a = 47) : x_EX t n (a + 1) F F (a + 1) st := by
  have l := x_le1 n2 (x_lk_in c (by decide)).1
  refine ⟨by grind, ⟨x_0le a0 (x_lp1 n2 (t := t) (x_ne c)), Int32.le_refl _, l⟩, fun h => absurd h Int32.lt_irrefl, fun i i1 i2 => absurd (Int32.lt_of_le_of_lt i1 i2) Int32.lt_irrefl⟩
theorem x_EX_s {t : Int32 → Int32} {n f F S a : Int32} {st st' : Int32 → Int32} (n2 : n ≤ 1000) (E : x_EX t n f F S a st) (c : ¬ x_lk t n a = -1) (K : ∀ j, 0 ≤ j → st' j = if j = S then x_lk t n a else st j) (B : 0 ≤ S ∧ S < 600) : x_EX t n f F (S + 1) (a + 1) st' := by
  obtain ⟨e1, ⟨e2, e3, e4⟩, e5, e6⟩ := E
  obtain ⟨c1, c2⟩ := x_lk_at c
  obtain ⟨B0, B1⟩ := B
  have hF : 0 ≤ F ∧ F < 600 := by
    by_cases q : f < a
    · exact e5 q
    · have z : a = f := Int32.le_antisymm (Int32.not_lt.mp q) e3
      have w : S = F := by rw [e1, z]; grind
      exact ⟨w ▸ B0, w ▸ B1⟩
  have l1 := x_le1 n2 c1
  refine ⟨by rw [e1]; grind, ⟨e2, by lia, l1⟩, fun _ => hF, fun i i1 i2 => ?_⟩
  obtain ⟨hF0, hF1⟩ := hF
  have j0 : 0 ≤ F + (i - f) := by lia
  rw [K _ j0]
  by_cases q : i = a
  · subst q
    rw [if_pos e1.symm, c2]
  · rw [if_neg (by rw [e1]; lia)]
    exact e6 i i1 (by lia)
theorem x_seen_01 (t : Int32 → Int32) (a c : Int32) : ∀ (m : Nat) (f : Int32), (a.toInt - f.toInt).toNat < m → x_seen t f a c = 0 ∨ x_seen t f a c = 1 := by
  intro m
  induction m with
  | zero => intro f h; omega
  | succ m ih =>
    intro f hm
    by_cases h : f < a ∧ a ≤ 1000
    · obtain ⟨b0, b9, b1, b2, b3, b4⟩ := x_b h
      by_cases q : t f = c
      · exact Or.inr (x_seen1 h q)
      · rw [x_seens h q]; exact ih (f + 1) (by omega)
    · exact Or.inl (by rw [x_seen, dif_neg h])
theorem x_seen_ex (t : Int32 → Int32) (a c : Int32) : ∀ (m : Nat) (f : Int32), (a.toInt - f.toInt).toNat < m → x_seen t f a c = 1 → ∃ i, f ≤ i ∧ i < a ∧ t i = c := by
  intro m
  induction m with
  | zero => intro f h; omega
  | succ m ih =>
    intro f hm e
    by_cases h : f < a ∧ a ≤ 1000
    · obtain ⟨b0, b9, b1, b2, b3, b4⟩ := x_b h
      by_cases q : t f = c
      · exact ⟨f, Int32.le_refl _, h.1, q⟩
      · rw [x_seens h q] at e
        obtain ⟨i, i1, i2, i3⟩ := ih (f + 1) (by omega) e
        exact ⟨i, x_i2 h.1 i1, i2, i3⟩
    · rw [x_seen, dif_neg h] at e; exact absurd e (by decide)
theorem x_seen_of (t : Int32 → Int32) (a c i : Int32) (ha : a ≤ 1000) (hi : i < a) (e : t i = c) : ∀ (m : Nat) (f : Int32), (a.toInt - f.toInt).toNat < m → f ≤ i → x_seen t f a c = 1 := by
  intro m
  induction m with
  | zero => intro f h; omega
  | succ m ih =>
    intro f hm h1
    have h : f < a ∧ a ≤ 1000 := ⟨Int32.lt_of_le_of_lt h1 hi, ha⟩
    obtain ⟨b0, b9, b1, b2, b3, b4⟩ := x_b h
    by_cases q : t f = c
    · exact x_seen1 h q
    · rw [x_seens h q]
      exact ih (f + 1) (by omega) (x_i1 h.1 h1 (fun z => q (z ▸ e)))
theorem x_EX_seen0 {t : Int32 → Int32} {n f F S a c : Int32} {st : Int32 → Int32} (n2 : n ≤ 1000) (E : x_EX t n f F S a st) (N : ∀ i, F ≤ i → i < S → ¬ st i = c) : x_seen t f a c = 0 := by
  rcases x_seen_01 t a c _ f (Nat.lt_succ_self _) with z | z
  · exact z
  · obtain ⟨i, i1, i2, i3⟩ := x_seen_ex t a c _ f (Nat.lt_succ_self _) z
    obtain ⟨e1, ⟨e2, e3, e4⟩, e5, e6⟩ := E
    obtain ⟨F0, F1⟩ := e5 (Int32.lt_of_le_of_lt i1 i2)
    exact absurd ((e6 i i1 i2).trans i3) (N _ (by lia) (by rw [e1]; lia))
theorem x_EX_seen1 {t : Int32 → Int32} {n f F S a c : Int32} {st : Int32 → Int32} (n2 : n ≤ 1000) (E : x_EX t n f F S a st) (N : ∃ i, F ≤ i ∧ i < S ∧ st i = c) : x_seen t f a c = 1 := by
  obtain ⟨i, i1, i2, i3⟩ := N
  obtain ⟨e1, ⟨e2, e3, e4⟩, e5, e6⟩ := E
  have fa : f < a := by
    refine Int32.not_le.mp fun q => ?_
    have z : a = f := Int32.le_antisymm q e3
    have w : S = F := by rw [e1, z]; grind
    rw [w] at i2
    exact absurd (Int32.lt_of_le_of_lt i1 i2) Int32.lt_irrefl
  obtain ⟨F0, F1⟩ := e5 fa
  rw [e1] at i2
  have k1 : f ≤ f + (i - F) := by lia
  have k2 : f + (i - F) < a := by lia
  refine x_seen_of t a c (f + (i - F)) (Int32.le_trans e4 n2) k2 ?_ _ f (Nat.lt_succ_self _) k1
  rw [← e6 _ k1 k2, ← i3]
  congr 1
  grind
def f_Mod_exchange_120s (N : Nat) (v0 : Nat) (v1 : Int32) (v2 : Int32) (h : z_H) : Option z_H :=
  z_b (gO h v0 12) fun u1 =>
  z_b (f_Mod_keep N v0 v2 h) fun r2 =>
  z_b (gI r2 v0 12 41) fun x3 =>
  z_b (sF r2 v0 12 41 (.int (x3 + 1))) fun h4 =>
  some h4
def f_Mod_exchange_81s (N : Nat)  : Nat → Nat → Int32 → Int32 → Int32 → z_H → Option z_H
  | 0, _, _, _, _, _ => none
  | n + 1, v0, v1, v2, v3, h =>
    z_b (gO h v0 12) fun u1 =>
    z_b (f_Mod_stored N v0 h) fun r2 =>
    if (r2.1) ≤ v3 then
    (f_Mod_exchange_120s N v0 v1 v2 r2.2)
    else
    (z_b (gI r2.2 v0 12 48) fun x4 =>
    if x4 = 0 then
    (z_b (gR r2.2 v0 12 33) fun x6 =>
    z_b (aI r2.2 x6 0 v3) fun x7 =>
    if x7 = v2 then
    (z_b (gI r2.2 v0 12 41) fun x10 =>
    z_b (gO r2.2 v0 12) fun u11 =>
    z_b (f_Mod_wrong N v0 x10 r2.2) fun r12 =>
    z_b (some (v3 + 1)) fun x13 =>
    (f_Mod_exchange_81s N  n) v0 v1 v2 x13 r12)
    else
    (z_b (some (v3 + 1)) fun x9 =>
    (f_Mod_exchange_81s N  n) v0 v1 v2 x9 r2.2))
    else
    (f_Mod_exchange_120s N v0 v1 v2 r2.2))
theorem z_b_as {α β γ : Type} (o : Option α) (f : α → Option β) (g : β → Option γ) : z_b (z_b o f) g = z_b o (fun x => z_b (f x) g) := by
  cases o <;> rfl
theorem z_b_if {α β : Type} {c : Prop} [Decidable c] (a b : Option α) (g : α → Option β) : z_b (if c then a else b) g = if c then z_b a g else z_b b g := by
  split <;> rfl
theorem x_cps120 {N : Nat} {k16 : Nat → Int32 → z_H → Option z_H} {v0 : Nat} {v1 v2 : Int32} {h : z_H} : f_Mod_exchange_120 N k16 v0 v1 v2 h = z_b (f_Mod_exchange_120s N v0 v1 v2 h) (fun h1 => k16 v0 v1 h1) := by
  unfold f_Mod_exchange_120 f_Mod_exchange_120s
  simp only [z_b_as, z_b_some]
theorem x_cps81 {N : Nat} {k16 : Nat → Int32 → z_H → Option z_H} {v0 : Nat} {v1 v2 : Int32} : ∀ (m : Nat) (v3 : Int32) (h : z_H), f_Mod_exchange_81 N k16 m v0 v1 v2 v3 h = z_b (f_Mod_exchange_81s N m v0 v1 v2 v3 h) (fun h1 => k16 v0 v1 h1) := by
  intro m
  induction m with
  | zero => intro v3 h; rw [f_Mod_exchange_81, f_Mod_exchange_81s]; rfl
  | succ m ih =>
    intro v3 h
    rw [f_Mod_exchange_81, f_Mod_exchange_81s]
    simp only [z_b_as, z_b_if, x_cps120, ih]
set_option maxHeartbeats 4000000 in
theorem i_Mod_exchange_81s {L : q_L} {π : Nat → Nat → Option Nat} {N : Nat} : ∀ (m9 : Nat) (v0 : Nat) (v1 : Int32) (v2 : Int32) (v3 : Int32) (h : z_H), x_U L π h → q_M L π v0 → qi (f_Mod_exchange_81s N m9 v0 v1 v2 v3 h) (fun r => x_U L π r ∧ (((vI r v0 48 = 0) ∧ (vI h v0 48 = 0) ∧ (vI r v0 41 = vI h v0 41 + 1) ∧ (vA r (v0 + 22) (vI h v0 42) = vA h (v0 + 22) (vI h v0 42) + 1) ∧ (∀ i, v3 ≤ i → i < 300 * vI h v0 42 + vA h (v0 + 22) (vI h v0 42) → ¬ vA h (v0 + 28) i = v2) ∧ (∀ j, 0 ≤ j → vA r (v0 + 28) j = if j = 300 * vI h v0 42 + vA h (v0 + 22) (vI h v0 42) then v2 else vA h (v0 + 28) j) ∧ (0 ≤ 300 * vI h v0 42 + vA h (v0 + 22) (vI h v0 42) ∧ 300 * vI h v0 42 + vA h (v0 + 22) (vI h v0 42) < 600) ∧ (∀ a k, ¬ ((a = v0 ∧ k = 41) ∨ (a = v0 ∧ k = 5) ∨ (a = v0 ∧ k = 48)) → vI r a k = vI h a k) ∧ (∀ a, ¬ (a = (v0 + 28) ∨ a = (v0 + 22)) → vA r a = vA h a)) ∨ ((¬ vI r v0 48 = 0) ∧ (¬ vI h v0 48 = 0 ∨ ∃ i, v3 ≤ i ∧ i < 300 * vI h v0 42 + vA h (v0 + 22) (vI h v0 42) ∧ vA h (v0 + 28) i = v2) ∧ (∀ a k, ¬ ((a = v0 ∧ k = 41) ∨ (a = v0 ∧ k = 5) ∨ (a = v0 ∧ k = 48)) → vI r a k = vI h a k) ∧ (∀ a, ¬ (a = (v0 + 28) ∨ a = (v0 + 22)) → vA r a = vA h a)))) := by
  intro m9
  induction m9 with
  | zero => intro v0 v1 v2 v3 h T kv0 r e; rw [f_Mod_exchange_81s] at e; cases e
  | succ m9 ih =>
    intro v0 v1 v2 v3 h T kv0
    rw [f_Mod_exchange_81s]
    by_cases fl : vI h v0 48 = 0
    · skip
      refine l_gO ?_
      refine j_Mod_stored (v0 := v0) (e := (300 * vI h v0 42 + vA h (v0 + 22) (vI h v0 42))) T kv0 rfl ?_
      try dsimp only
      refine qi_if (fun cc2 => ?_) (fun cc2 => ?_)
      · skip
        unfold f_Mod_exchange_120s
        refine l_gO ?_
        refine j_Mod_keep (v0 := v0) (v1 := v2) T kv0 ?_
        intro hr2i3_4 Thr2i3_4 gr2i3_4_0 gr2i3_4_1 gr2i3_4_2 fr2i3_4_I fr2i3_4_A
        try dsimp only
        refine l_gI (e := (vI h v0 41)) (by rw [fr2i3_4_I v0 41 (by omega)]) ?_
        refine l_sI Thr2i3_4 (q_Mk kv0) (by decide) rfl ?_
        intro h4i3_5 Th4i3_5 ih4i3_5 ah4i3_5
        refine qi_some ?_
        exact ⟨Th4i3_5, Or.inl ⟨(by show vI h4i3_5 v0 48 = 0; rw [show vI h4i3_5 v0 48 = (vI h v0 48) from (by rw [ih4i3_5 v0 48, if_neg (fun z => absurd z.2 (by decide)), fr2i3_4_I v0 48 (by omega)])] <;> (first | assumption | with_reducible rfl | grind)), fl, (by show vI h4i3_5 v0 41 = vI h v0 41 + 1; rw [show vI h4i3_5 v0 41 = ((vI h v0 41) + 1) from (by rw [ih4i3_5 v0 41, if_pos ⟨rfl, rfl⟩])] <;> (first | assumption | with_reducible rfl | grind)), (by show vA h4i3_5 (v0 + 22) (vI h v0 42) = vA h (v0 + 22) (vI h v0 42) + 1; rw [show vA h4i3_5 (v0 + 22) = vA hr2i3_4 (v0 + 22) from (by rw [ah4i3_5 (v0 + 22)]), show vA hr2i3_4 (v0 + 22) (vI h v0 42) = (vA h (v0 + 22) (vI h v0 42) + 1) from (by rw [gr2i3_4_0])] <;> (first | assumption | with_reducible rfl | grind)), (fun i i1 i2 => absurd (Int32.lt_of_lt_of_le i2 (Int32.le_trans cc2 i1)) Int32.lt_irrefl), (fun j j0 => by rw [ah4i3_5 (v0 + 28)]; exact gr2i3_4_1 j j0), gr2i3_4_2, (fun a k na => by rw [ih4i3_5 a k, if_neg (fun z => na (Or.inl z)), fr2i3_4_I a k (by omega)]), (fun a na => by rw [ah4i3_5 a, fr2i3_4_A a (fun z => na (z.elim (fun z => Or.inl z) (fun z => Or.inr (z))))])⟩⟩
      · skip
        refine l_gI (e := (vI h v0 48)) rfl ?_
        refine qi_if (fun _ => ?_) (fun cc6 => absurd fl cc6)
        refine l_gR T (d_Mo_33 kv0) ?_
        refine l_aI (e := (vA h (v0 + 28) v3)) (fun _ => rfl) (fun ix7 => ?_)
        refine qi_if (fun cc8 => ?_) (fun cc8 => ?_)
        · skip
          refine l_gI (e := (vI h v0 41)) rfl ?_
          refine l_gO ?_
          refine j_Mod_wrong (v0 := v0) (v1 := (vI h v0 41)) T kv0 ?_
          intro hr12_9 Thr12_9 gr12_9_0 fr12_9_I fr12_9_A
          try dsimp only
          refine qi_bs ?_
          refine qi_mono (ih v0 v1 v2 (v3 + 1) hr12_9 Thr12_9 kv0) ?_
          rintro hrz10_11 ⟨Thrz10_11, ⟨g1rz10_11_0, g1rz10_11_1, g1rz10_11_2, g1rz10_11_3, g1rz10_11_4, g1rz10_11_5, g1rz10_11_6, f1rz10_11_I, f1rz10_11_A⟩ | ⟨g0rz10_11_0, g0rz10_11_1, f0rz10_11_I, f0rz10_11_A⟩⟩
          · try dsimp only at *
            rw [show vI hr12_9 v0 41 = (vI h v0 41) from (by rw [fr12_9_I v0 41 (by omega)])] at g1rz10_11_2
            rw [show vI hr12_9 v0 42 = (vI h v0 42) from (by rw [fr12_9_I v0 42 (by omega)]), show vA hr12_9 (v0 + 22) = vA h (v0 + 22) from (by rw [fr12_9_A (v0 + 22) (by omega)])] at g1rz10_11_3
            rw [show vI hr12_9 v0 48 = 1 from (by rw [gr12_9_0])] at g1rz10_11_1
            rw [show vI hr12_9 v0 42 = (vI h v0 42) from (by rw [fr12_9_I v0 42 (by omega)]), show vA hr12_9 (v0 + 22) = vA h (v0 + 22) from (by rw [fr12_9_A (v0 + 22) (by omega)]), show vA hr12_9 (v0 + 28) = vA h (v0 + 28) from (by rw [fr12_9_A (v0 + 28) (by omega)])] at g1rz10_11_4
            rw [show vI hr12_9 v0 42 = (vI h v0 42) from (by rw [fr12_9_I v0 42 (by omega)]), show vA hr12_9 (v0 + 22) = vA h (v0 + 22) from (by rw [fr12_9_A (v0 + 22) (by omega)]), show vA hr12_9 (v0 + 28) = vA h (v0 + 28) from (by rw [fr12_9_A (v0 + 28) (by omega)])] at g1rz10_11_5
            rw [show vI hr12_9 v0 42 = (vI h v0 42) from (by rw [fr12_9_I v0 42 (by omega)]), show vA hr12_9 (v0 + 22) = vA h (v0 + 22) from (by rw [fr12_9_A (v0 + 22) (by omega)])] at g1rz10_11_6
            exact absurd g1rz10_11_1 (by decide)
          · try dsimp only at *
            rw [show vI hr12_9 v0 48 = 1 from (by rw [gr12_9_0]), show vI hr12_9 v0 42 = (vI h v0 42) from (by rw [fr12_9_I v0 42 (by omega)]), show vA hr12_9 (v0 + 22) = vA h (v0 + 22) from (by rw [fr12_9_A (v0 + 22) (by omega)]), show vA hr12_9 (v0 + 28) = vA h (v0 + 28) from (by rw [fr12_9_A (v0 + 28) (by omega)])] at g0rz10_11_1
            exact ⟨Thrz10_11, Or.inr ⟨g0rz10_11_0, (by show ¬ vI h v0 48 = 0 ∨ ∃ i, v3 ≤ i ∧ i < 300 * vI h v0 42 + vA h (v0 + 22) (vI h v0 42) ∧ vA h (v0 + 28) i = v2; exact Or.inr ⟨v3, Int32.le_refl _, Int32.not_le.mp (by assumption), by assumption⟩), (fun a k na => by rw [f0rz10_11_I a k (fun z => na (z.elim (fun z => Or.inl z) (fun z => z.elim (fun z => Or.inr (Or.inl z)) (fun z => Or.inr (Or.inr (z)))))), fr12_9_I a k (fun z => na (z.elim (fun z => Or.inr (Or.inl z)) (fun z => Or.inr (Or.inr (z)))))]), (fun a na => by rw [f0rz10_11_A a (fun z => na (z.elim (fun z => Or.inl z) (fun z => Or.inr (z)))), fr12_9_A a (by omega)])⟩⟩
        · skip
          refine qi_bs ?_
          refine qi_mono (ih v0 v1 v2 (v3 + 1) h T kv0) ?_
          rintro hrz12_13 ⟨Thrz12_13, ⟨g1rz12_13_0, g1rz12_13_1, g1rz12_13_2, g1rz12_13_3, g1rz12_13_4, g1rz12_13_5, g1rz12_13_6, f1rz12_13_I, f1rz12_13_A⟩ | ⟨g0rz12_13_0, g0rz12_13_1, f0rz12_13_I, f0rz12_13_A⟩⟩
          · try dsimp only at *
            exact ⟨Thrz12_13, Or.inl ⟨(by show vI hrz12_13 v0 48 = 0; rw [show vI hrz12_13 v0 48 = 0 from (by rw [g1rz12_13_0])] <;> (first | assumption | with_reducible rfl | grind)), g1rz12_13_1, (by show vI hrz12_13 v0 41 = vI h v0 41 + 1; rw [show vI hrz12_13 v0 41 = (vI h v0 41 + 1) from (by rw [g1rz12_13_2])] <;> (first | assumption | with_reducible rfl | grind)), (by show vA hrz12_13 (v0 + 22) (vI h v0 42) = vA h (v0 + 22) (vI h v0 42) + 1; rw [show vA hrz12_13 (v0 + 22) (vI h v0 42) = (vA h (v0 + 22) (vI h v0 42) + 1) from (by rw [g1rz12_13_3])] <;> (first | assumption | with_reducible rfl | grind)), (fun i i1 i2 => by by_cases q : i = v3; (subst q; assumption); (exact g1rz12_13_4 i (x_i1 (Int32.not_le.mp (by assumption)) i1 q) i2)), g1rz12_13_5, g1rz12_13_6, (fun a k na => by rw [f1rz12_13_I a k (fun z => na (z.elim (fun z => Or.inl z) (fun z => z.elim (fun z => Or.inr (Or.inl z)) (fun z => Or.inr (Or.inr (z))))))]), (fun a na => by rw [f1rz12_13_A a (fun z => na (z.elim (fun z => Or.inl z) (fun z => Or.inr (z))))])⟩⟩
          · try dsimp only at *
            exact ⟨Thrz12_13, Or.inr ⟨g0rz12_13_0, (by show ¬ vI h v0 48 = 0 ∨ ∃ i, v3 ≤ i ∧ i < 300 * vI h v0 42 + vA h (v0 + 22) (vI h v0 42) ∧ vA h (v0 + 28) i = v2; rcases g0rz12_13_1 with z | ⟨i, i1, i2, i3⟩; (exact absurd (by assumption) z); (exact Or.inr ⟨i, x_i2 (Int32.not_le.mp (by assumption)) i1, i2, i3⟩)), (fun a k na => by rw [f0rz12_13_I a k (fun z => na (z.elim (fun z => Or.inl z) (fun z => z.elim (fun z => Or.inr (Or.inl z)) (fun z => Or.inr (Or.inr (z))))))]), (fun a na => by rw [f0rz12_13_A a (fun z => na (z.elim (fun z => Or.inl z) (fun z => Or.inr (z))))])⟩⟩
    · skip
      refine l_gO ?_
      refine j_Mod_stored (v0 := v0) (e := (300 * vI h v0 42 + vA h (v0 + 22) (vI h v0 42))) T kv0 rfl ?_
      try dsimp only
      refine qi_if (fun cc15 => ?_) (fun cc15 => ?_)
      · skip
        unfold f_Mod_exchange_120s
        refine l_gO ?_
        refine j_Mod_keep (v0 := v0) (v1 := v2) T kv0 ?_
        intro hr2i16_17 Thr2i16_17 gr2i16_17_0 gr2i16_17_1 gr2i16_17_2 fr2i16_17_I fr2i16_17_A
        try dsimp only
        refine l_gI (e := (vI h v0 41)) (by rw [fr2i16_17_I v0 41 (by omega)]) ?_
        refine l_sI Thr2i16_17 (q_Mk kv0) (by decide) rfl ?_
        intro h4i16_18 Th4i16_18 ih4i16_18 ah4i16_18
        refine qi_some ?_
        exact ⟨Th4i16_18, Or.inr ⟨(by show ¬ vI h4i16_18 v0 48 = 0; rw [show vI h4i16_18 v0 48 = (vI h v0 48) from (by rw [ih4i16_18 v0 48, if_neg (fun z => absurd z.2 (by decide)), fr2i16_17_I v0 48 (by omega)])] <;> (first | assumption | decide)), (by show ¬ vI h v0 48 = 0 ∨ ∃ i, v3 ≤ i ∧ i < 300 * vI h v0 42 + vA h (v0 + 22) (vI h v0 42) ∧ vA h (v0 + 28) i = v2; exact Or.inl fl), (fun a k na => by rw [ih4i16_18 a k, if_neg (fun z => na (Or.inl z)), fr2i16_17_I a k (by omega)]), (fun a na => by rw [ah4i16_18 a, fr2i16_17_A a (fun z => na (z.elim (fun z => Or.inl z) (fun z => Or.inr (z))))])⟩⟩
      · skip
        refine l_gI (e := (vI h v0 48)) rfl ?_
        refine qi_if (fun cc19 => absurd cc19 fl) (fun _ => ?_)
        unfold f_Mod_exchange_120s
        refine l_gO ?_
        refine j_Mod_keep (v0 := v0) (v1 := v2) T kv0 ?_
        intro hr2i20_21 Thr2i20_21 gr2i20_21_0 gr2i20_21_1 gr2i20_21_2 fr2i20_21_I fr2i20_21_A
        try dsimp only
        refine l_gI (e := (vI h v0 41)) (by rw [fr2i20_21_I v0 41 (by omega)]) ?_
        refine l_sI Thr2i20_21 (q_Mk kv0) (by decide) rfl ?_
        intro h4i20_22 Th4i20_22 ih4i20_22 ah4i20_22
        refine qi_some ?_
        exact ⟨Th4i20_22, Or.inr ⟨(by show ¬ vI h4i20_22 v0 48 = 0; rw [show vI h4i20_22 v0 48 = (vI h v0 48) from (by rw [ih4i20_22 v0 48, if_neg (fun z => absurd z.2 (by decide)), fr2i20_21_I v0 48 (by omega)])] <;> (first | assumption | decide)), (by show ¬ vI h v0 48 = 0 ∨ ∃ i, v3 ≤ i ∧ i < 300 * vI h v0 42 + vA h (v0 + 22) (vI h v0 42) ∧ vA h (v0 + 28) i = v2; exact Or.inl fl), (fun a k na => by rw [ih4i20_22 a k, if_neg (fun z => na (Or.inl z)), fr2i20_21_I a k (by omega)]), (fun a na => by rw [ah4i20_22 a, fr2i20_21_A a (fun z => na (z.elim (fun z => Or.inl z) (fun z => Or.inr (z))))])⟩⟩
theorem j_Mod_exchange_81s {L : q_L} {π : Nat → Nat → Option Nat} {N : Nat} {m9 : Nat} {h : z_H} {v0 : Nat} {v1 : Int32} {v2 : Int32} {v3 : Int32} {β : Type} {f : z_H → Option β} {Q : β → Prop} (T : x_U L π h) (kv0 : q_M L π v0)  (H1 : ∀ h', x_U L π h' → (vI h' v0 48 = 0) → (vI h v0 48 = 0) → (vI h' v0 41 = vI h v0 41 + 1) → (vA h' (v0 + 22) (vI h v0 42) = vA h (v0 + 22) (vI h v0 42) + 1) → (∀ i, v3 ≤ i → i < 300 * vI h v0 42 + vA h (v0 + 22) (vI h v0 42) → ¬ vA h (v0 + 28) i = v2) → (∀ j, 0 ≤ j → vA h' (v0 + 28) j = if j = 300 * vI h v0 42 + vA h (v0 + 22) (vI h v0 42) then v2 else vA h (v0 + 28) j) → (0 ≤ 300 * vI h v0 42 + vA h (v0 + 22) (vI h v0 42) ∧ 300 * vI h v0 42 + vA h (v0 + 22) (vI h v0 42) < 600) → (∀ a k, ¬ ((a = v0 ∧ k = 41) ∨ (a = v0 ∧ k = 5) ∨ (a = v0 ∧ k = 48)) → vI h' a k = vI h a k) → (∀ a, ¬ (a = (v0 + 28) ∨ a = (v0 + 22)) → vA h' a = vA h a) → qi (f h') Q) (H0 : ∀ h', x_U L π h' → (¬ vI h' v0 48 = 0) → (¬ vI h v0 48 = 0 ∨ ∃ i, v3 ≤ i ∧ i < 300 * vI h v0 42 + vA h (v0 + 22) (vI h v0 42) ∧ vA h (v0 + 28) i = v2) → (∀ a k, ¬ ((a = v0 ∧ k = 41) ∨ (a = v0 ∧ k = 5) ∨ (a = v0 ∧ k = 48)) → vI h' a k = vI h a k) → (∀ a, ¬ (a = (v0 + 28) ∨ a = (v0 + 22)) → vA h' a = vA h a) → qi (f h') Q) : qi (z_b (f_Mod_exchange_81s N m9 v0 v1 v2 v3 h) f) Q := by
  refine qi_b (i_Mod_exchange_81s m9 v0 v1 v2 v3 h  T kv0 ) ?_
  rintro hz ⟨Tz, ⟨g0, g1, g2, g3, g4, g5, g6, g7, g8⟩ | ⟨g0, g1, g2, g3⟩⟩
  · exact H1 hz Tz g0 g1 g2 g3 g4 g5 g6 g7 g8
  · exact H0 hz Tz g0 g1 g2 g3

