/-! what a method answers, if it answers: no ranges, no fuel -/
def qi {α : Type} (o : Option α) (Q : α → Prop) : Prop := ∀ x, o = some x → Q x
theorem qi_some {α : Type} {x : α} {Q : α → Prop} (H : Q x) : qi (some x) Q := fun _ e => Option.some.inj e ▸ H
theorem qi_b {α β : Type} {o : Option α} {f : α → Option β} {P : α → Prop} {Q : β → Prop} (h1 : qi o P) (h2 : ∀ x, P x → qi (f x) Q) : qi (z_b o f) Q := by
  intro r e
  obtain ⟨x, e1, e2⟩ := z_bs e
  exact h2 x (h1 x e1) r e2
theorem qi_bs {α β : Type} {x : α} {f : α → Option β} {Q : β → Prop} (H : qi (f x) Q) : qi (z_b (some x) f) Q := H
theorem qi_zB {β : Type} {x : Int32} {f : Int32 → Option β} {Q : β → Prop} (H : x = 0 ∨ x = 1 → qi (f x) Q) : qi (z_b (zB x) f) Q := by
  intro r e
  obtain ⟨y, e1, e2⟩ := z_bs e
  obtain ⟨e3, e4⟩ := zB_s e1
  subst e3
  exact H e4 r e2
theorem qi_if {α : Type} {c : Prop} [Decidable c] {a b : Option α} {Q : α → Prop} (h1 : c → qi a Q) (h2 : ¬ c → qi b Q) : qi (if c then a else b) Q := by
  split
  · next q => exact h1 q
  · next q => exact h2 q
theorem qi_mono {α : Type} {o : Option α} {P Q : α → Prop} (h : qi o P) (hq : ∀ x, P x → Q x) : qi o Q := fun x e => hq x (h x e)
theorem qi_tail {α : Type} {o : Option α} {Q : α → Prop} (H : qi (z_b o fun x => some x) Q) : qi o Q := by
  intro x e
  exact H x (by rw [e]; rfl)
theorem qi_tailp {α β : Type} {o : Option (α × β)} {Q : α × β → Prop} (H : qi (z_b o fun x => some (x.1, x.2)) Q) : qi o Q := by
  intro x e
  exact H x (by rw [e]; rfl)
theorem qi_k {α : Type} {o : Option α} {P Q : α → Prop} (h1 : qk o P) (h2 : qi o Q) : qk o (fun x => P x ∧ Q x) := by
  obtain ⟨x, e, hx⟩ := h1
  exact ⟨x, e, hx, h2 x e⟩
/-- typed heaps without ranges -/
def x_U (L : q_L) (π : Nat → Nat → Option Nat) (h : z_H) : Prop := q_C L ∧ q_F L π ∧ (∀ a, q_kd h a = qκ L a) ∧ (∀ a k, vR h a k = π a k) ∧ ∀ a i, vQ h a i = qθ L a i
theorem x_U_of {L : q_L} {W : Nat → Prop} {h0 : z_H} {π : Nat → Nat → Option Nat} {h : z_H} (T : q_U L W h0 π h) : x_U L π h := ⟨T.1, T.2.1, T.2.2.1, T.2.2.2.2.2.1, T.2.2.2.2.2.2.1⟩
def x_L (L : q_L) : q_L := (L.1, fun _ _ => (-2147483648, 2147483647), fun _ => (-2147483648, 2147483647), L.2.2.2)
theorem x_T {L : q_L} {π : Nat → Nat → Option Nat} {h : z_H} (T : x_U L π h) : q_T (x_L L) (fun _ => True) h π h :=
  ⟨T.2.2.1, fun _ _ => ⟨q_min _, q_max _⟩, fun _ _ => ⟨q_min _, q_max _⟩, T.2.2.2.1, T.2.2.2.2, fun _ _ => rfl⟩
section LR
variable {L : q_L} {π : Nat → Nat → Option Nat} {h : z_H} {a c k : Nat} {β : Type} {Q : β → Prop}
theorem l_gI {f : Int32 → Option β} {e : Int32} (he : vI h a k = e) (H : qi (f e) Q) : qi (z_b (gI h a c k) f) Q := by
  intro r z
  obtain ⟨x, e1, e2⟩ := z_bs z
  obtain ⟨fs, f1, f2⟩ := gI_s e1
  have q : vI h a k = x := by simp only [vI, f1, f2]
  exact H r (by rw [← he, q]; exact e2)
theorem l_gR {f : Nat → Option β} {q : Nat} (T : x_U L π h) (hq : π a k = some q) (H : qi (f q) Q) : qi (z_b (gR h a c k) f) Q := by
  intro r z
  obtain ⟨x, e1, e2⟩ := z_bs z
  obtain ⟨fs, f1, f2⟩ := gR_s e1
  have q1 : vR h a k = some x := by simp only [vR, f1, f2]
  rw [T.2.2.2.1, hq] at q1
  exact H r (by rw [Option.some.inj q1]; exact e2)
theorem l_gO {f : Unit → Option β} (H : qi (f ()) Q) : qi (z_b (gO h a c) f) Q := by
  intro r z
  obtain ⟨x, e1, e2⟩ := z_bs z
  exact H r e2
theorem l_sI {f : z_H → Option β} {v : Int32} (T : x_U L π h) (ha : qκ L a = c + 1) (hc : c < 13) (ht : (q_tb c)[k]? = some 0) (H : ∀ h', x_U L π h' → (∀ a' k', vI h' a' k' = if a' = a ∧ k' = k then v else vI h a' k') → (∀ a', vA h' a' = vA h a') → qi (f h') Q) : qi (z_b (sF h a c k (.int v)) f) Q := by
  obtain ⟨h', e1, e2, e3⟩ := q_sI (L := x_L L) (ci := c) (k := k) (v := v) (x_T T) ha hc ht trivial (q_min _) (q_max _)
  rw [e1]
  exact H h' ⟨T.1, T.2.1, e2.1, e2.2.2.2.1, e2.2.2.2.2.1⟩ e3.1 (fun a' => funext (e3.2 a'))
theorem l_aI {f : Int32 → Option β} {t : Nat} {i e : Int32} (he : 0 ≤ i → vA h a i = e) (H : 0 ≤ i → qi (f e) Q) : qi (z_b (aI h a t i) f) Q := by
  intro r z
  obtain ⟨x, e1, e2⟩ := z_bs z
  obtain ⟨n, g, f1, f2, f3⟩ := aI_s e1
  have i0 : 0 ≤ i := Int32.not_lt.mp fun q => f2 (Or.inl q)
  have q : vA h a i = x := by simp only [vA, f1, f3]
  exact H i0 r (by rw [← he i0, q]; exact e2)
theorem l_aL {f : Int64 → Option β} {i : Int32} (H : ∀ x, qi (f x) Q) : qi (z_b (aL h a i) f) Q := by
  intro r z
  obtain ⟨x, e1, e2⟩ := z_bs z
  exact H x r e2
theorem l_aN {f : Int32 → Option β} (H : ∀ x, qi (f x) Q) : qi (z_b (aN h a) f) Q := by
  intro r z
  obtain ⟨x, e1, e2⟩ := z_bs z
  exact H x r e2
theorem l_aNr {f : Int32 → Option β} (T : x_U L π h) (ha : qκ L a = 11) (H : qi (f (qhi L a 1)) Q) : qi (z_b (aN h (a + 1)) f) Q := by
  obtain ⟨n, c1, c2, c3, c4, c5, c6⟩ := (T.1.2.2.2.2.2.2.2.2.2.2.1 a ha)
  rw [q_aN (L := x_L L) (n := n) (x_T T) c1 (by decide), ← c4]
  exact H
theorem l_uI {f : z_H → Option β} {t : Nat} {i x : Int32} (T : x_U L π h) (H : ∀ h', x_U L π h' → 0 ≤ i → (∀ a' k', vI h' a' k' = vI h a' k') → (∀ a' j, 0 ≤ j → vA h' a' j = if a' = a ∧ j = i then x else vA h a' j) → (∀ a', a' ≠ a → vA h' a' = vA h a') → qi (f h') Q) : qi (z_b (uI h a t i x) f) Q := by
  intro r z
  obtain ⟨h', e1, e2⟩ := z_bs z
  obtain ⟨n, g, f1, f2, f3⟩ := uI_s e1
  have i0 : 0 ≤ i := Int32.not_lt.mp fun q => f2 (Or.inl q)
  have u1 : ∀ b, b ≠ a → h' b = h b := fun b hb => by rw [f3]; exact if_neg hb
  have u2 : h' a = some (.inl (t, n, .inl (upd g i.toNatClampNeg x))) := by rw [f3]; exact if_pos rfl
  refine H h' ⟨T.1, T.2.1, fun b => ?_, fun b k => ?_, fun b j => ?_⟩ i0 (fun b k => ?_) (fun b j j0 => ?_) (fun b hb => ?_) r e2
  · rw [← T.2.2.1 b]
    by_cases q : b = a
    · subst q; simp only [q_kd, u2, f1]
    · simp only [q_kd, u1 b q]
  · rw [← T.2.2.2.1 b k]
    by_cases q : b = a
    · subst q; simp only [vR, u2, f1]
    · simp only [vR, u1 b q]
  · rw [← T.2.2.2.2 b j]
    by_cases q : b = a
    · subst q; simp only [vQ, u2, f1]
    · simp only [vQ, u1 b q]
  · by_cases q : b = a
    · subst q; simp only [vI, u2, f1]
    · simp only [vI, u1 b q]
  · by_cases q : b = a
    · subst q
      simp only [vA, u2, f1, upd]
      by_cases w : j = i
      · subst w; simp
      · rw [if_neg (fun e => w (q_clamp i0 j0 e)), if_neg (fun e => w e.2)]
    · rw [if_neg (fun e => q e.1)]
      simp only [vA, u1 b q]
  · funext j
    simp only [vA, u1 b hb]
theorem l_uL {f : z_H → Option β} {i : Int32} {x : Int64} (T : x_U L π h) (H : ∀ h', x_U L π h' → (∀ a' k', vI h' a' k' = vI h a' k') → (∀ a', vA h' a' = vA h a') → qi (f h') Q) : qi (z_b (uL h a i x) f) Q := by
  intro r z
  obtain ⟨h', e1, e2⟩ := z_bs z
  obtain ⟨n, g, f1, f2, f3⟩ := uL_s e1
  have u1 : ∀ b, b ≠ a → h' b = h b := fun b hb => by rw [f3]; exact if_neg hb
  have u2 : h' a = some (.inl (2, n, .inr (.inl (vp_updL g i.toNatClampNeg x)))) := by rw [f3]; exact if_pos rfl
  refine H h' ⟨T.1, T.2.1, fun b => ?_, fun b k => ?_, fun b j => ?_⟩ (fun b k => ?_) (fun b => ?_) r e2
  · rw [← T.2.2.1 b]
    by_cases q : b = a
    · subst q; simp only [q_kd, u2, f1]
    · simp only [q_kd, u1 b q]
  · rw [← T.2.2.2.1 b k]
    by_cases q : b = a
    · subst q; simp only [vR, u2, f1]
    · simp only [vR, u1 b q]
  · rw [← T.2.2.2.2 b j]
    by_cases q : b = a
    · subst q; simp only [vQ, u2, f1]
    · simp only [vQ, u1 b q]
  · by_cases q : b = a
    · subst q; simp only [vI, u2, f1]
    · simp only [vI, u1 b q]
  · funext j
    by_cases q : b = a
    · subst q; simp only [vA, u2, f1]
    · simp only [vA, u1 b q]
theorem q_clp {i : Int32} (h0 : 0 ≤ i) (h1 : i < 40) : i.toNatClampNeg < 40 := Nat.not_le.mp fun z => q_in (n := 40) (by decide) h0 h1 (Or.inr z)
theorem l_Prog_e8 {f : Nat → Option β} {i : Int32} (T : x_U L π h) (ha : qκ L a = 10) (H : 0 ≤ i → i < 40 → qκ L (a + (9 + 6 * i.toNatClampNeg)) = 2 → qi (f (a + (9 + 6 * i.toNatClampNeg))) Q) : qi (z_b (aR h (a + 8) 5 i) f) Q := by
  intro r z
  obtain ⟨x, e1, e2⟩ := z_bs z
  obtain ⟨n, g, f1, f2, f3⟩ := aR_s e1
  obtain ⟨g2, w⟩ := q_arR (h := h) (a := a + 8) (t := 5) (n := 40) (by rw [T.2.2.1]; exact (T.1.2.2.2.2.2.2.2.2.2.1 a ha).2.2.2.2.1) (by decide)
  rw [f1] at w
  have hn : n = 40 := by cases w; rfl
  subst hn
  have i0 : 0 ≤ i := Int32.not_lt.mp fun q => f2 (Or.inl q)
  have i1 : i < 40 := by
    refine Int32.not_le.mp fun q => f2 (Or.inr ?_)
    have q1 := Int32.le_iff_toInt_le.mp q
    have q2 : (40 : Int32).toInt = 40 := rfl
    rw [q2] at q1
    show 40 ≤ i.toInt.toNat
    omega
  have t := (T.1.2.2.2.2.2.2.2.2.2.1 a ha).2.2.2.2.2 i i0 i1
  have q1 : vQ h (a + 8) i = some x := by simp only [vQ, f1, f3]
  rw [T.2.2.2.2, t.1] at q1
  exact H i0 i1 t.2 r (by rw [Option.some.inj q1]; exact e2)
theorem d_Addr_0 (T : x_U L π h) (ha : qκ L a = 1) : π a 0 = some (a + 1) := (T.2.1.1 a ha)
theorem e_Addr_0 (T : x_U L π h) (ha : qκ L a = 1) : qκ L (a + 1) = 8 := (T.1.1 a ha).1
theorem d_Cmd_0 (T : x_U L π h) (ha : qκ L a = 2) : π a 0 = some (a + 1) := (T.2.1.2.1 a ha).1
theorem e_Cmd_0 (T : x_U L π h) (ha : qκ L a = 2) : qκ L (a + 1) = 1 := (T.1.2.1 a ha).1
theorem d_Cmd_1 (T : x_U L π h) (ha : qκ L a = 2) : π a 1 = some (a + 3) := (T.2.1.2.1 a ha).2.1
theorem e_Cmd_1 (T : x_U L π h) (ha : qκ L a = 2) : qκ L (a + 3) = 1 := (T.1.2.1 a ha).2.1
theorem d_Cmd_2 (T : x_U L π h) (ha : qκ L a = 2) : π a 2 = some (a + 5) := (T.2.1.2.1 a ha).2.2
theorem e_Cmd_2 (T : x_U L π h) (ha : qκ L a = 2) : qκ L (a + 5) = 8 := (T.1.2.1 a ha).2.2.1
theorem l_Cur_0 {f : z_H → Option β} {q : Nat} (T : x_U L π h) (ha : qκ L a = 3) (H : ∀ π' h', x_U L π' h' → (∀ a' k', π' a' k' = if a' = a ∧ k' = 0 then some q else π a' k') → (∀ a' k', vI h' a' k' = vI h a' k') → (∀ a', vA h' a' = vA h a') → qi (f h') Q) : qi (z_b (sF h a 2 0 (.ref q)) f) Q := by
  obtain ⟨h', e1, e2, e3⟩ := q_sR (L := x_L L) (ci := 2) (k := 0) (q := q) (x_T T) ha (by decide) rfl trivial
  rw [e1]
  refine H _ h' ⟨T.1, ?_, e2.1, e2.2.2.2.1, e2.2.2.2.2.1⟩ (fun _ _ => rfl) e3.1 (fun a' => funext (e3.2 a'))
  refine ⟨?_, ?_, ?_, ?_, ?_, ?_, ?_, ?_, ?_, ?_, ?_, ?_⟩
  · intro b hb
    have t := T.2.1.1 b hb
    simpa [q_F_Addr, q_pu, show b ≠ a from fun z => absurd (z ▸ hb) (by rw [ha]; decide)] using t
  · intro b hb
    have t := T.2.1.2.1 b hb
    simpa [q_F_Cmd, q_pu, show b ≠ a from fun z => absurd (z ▸ hb) (by rw [ha]; decide)] using t
  · intro b hb
    have t := T.2.1.2.2.1 b hb
    exact t
  · intro b hb
    have t := T.2.1.2.2.2.1 b hb
    simpa [q_F_Ed, q_pu, show b ≠ a from fun z => absurd (z ▸ hb) (by rw [ha]; decide)] using t
  · intro b hb
    have t := T.2.1.2.2.2.2.1 b hb
    simpa [q_F_It, q_pu, show b ≠ a from fun z => absurd (z ▸ hb) (by rw [ha]; decide)] using t
  · intro b hb
    have t := T.2.1.2.2.2.2.2.1 b hb
    simpa [q_F_Ma, q_pu, show b ≠ a from fun z => absurd (z ▸ hb) (by rw [ha]; decide)] using t
  · intro b hb
    have t := T.2.1.2.2.2.2.2.2.1 b hb
    simpa [q_F_Pa, q_pu, show b ≠ a from fun z => absurd (z ▸ hb) (by rw [ha]; decide)] using t
  · intro b hb
    have t := T.2.1.2.2.2.2.2.2.2.1 b hb
    exact t
  · intro b hb
    have t := T.2.1.2.2.2.2.2.2.2.2.1 b hb
    exact t
  · intro b hb
    have t := T.2.1.2.2.2.2.2.2.2.2.2.1 b hb
    simpa [q_F_Prog, q_pu, show b ≠ a from fun z => absurd (z ▸ hb) (by rw [ha]; decide)] using t
  · intro b hb
    have t := T.2.1.2.2.2.2.2.2.2.2.2.2.1 b hb
    simpa [q_F_Row, q_pu, show b ≠ a from fun z => absurd (z ▸ hb) (by rw [ha]; decide)] using t
  · intro b hb
    have t := T.2.1.2.2.2.2.2.2.2.2.2.2.2 b hb
    simpa [q_F_SF, q_pu, show b ≠ a from fun z => absurd (z ▸ hb) (by rw [ha]; decide)] using t
theorem d_Ed_0 (T : x_U L π h) (ha : qκ L a = 4) : π a 0 = some (a + 1) := (T.2.1.2.2.2.1 a ha).1
theorem e_Ed_0 (T : x_U L π h) (ha : qκ L a = 4) : qκ L (a + 1) = 11 := (T.1.2.2.2.1 a ha).1
theorem d_Ed_7 (T : x_U L π h) (ha : qκ L a = 4) : π a 7 = some (a + 7) := (T.2.1.2.2.2.1 a ha).2.1
theorem e_Ed_7 (T : x_U L π h) (ha : qκ L a = 4) : qκ L (a + 7) = 11 := (T.1.2.2.2.1 a ha).2.2.2.2.2.2.1
theorem d_Ed_8 (T : x_U L π h) (ha : qκ L a = 4) : π a 8 = some (a + 9) := (T.2.1.2.2.2.1 a ha).2.2
theorem e_Ed_8 (T : x_U L π h) (ha : qκ L a = 4) : qκ L (a + 9) = 6 := (T.1.2.2.2.1 a ha).2.2.2.2.2.2.2.2.1
theorem d_It_0 (T : x_U L π h) (ha : qκ L a = 5) : π a 0 = some (a + 1) := (T.2.1.2.2.2.2.1 a ha).1
theorem d_It_1 (T : x_U L π h) (ha : qκ L a = 5) : π a 1 = some (a + 2) := (T.2.1.2.2.2.2.1 a ha).2.1
theorem d_It_2 (T : x_U L π h) (ha : qκ L a = 5) : π a 2 = some (a + 3) := (T.2.1.2.2.2.2.1 a ha).2.2.1
theorem d_It_3 (T : x_U L π h) (ha : qκ L a = 5) : π a 3 = some (a + 4) := (T.2.1.2.2.2.2.1 a ha).2.2.2
theorem d_Ma_5 (T : x_U L π h) (ha : qκ L a = 6) : π a 5 = some (a + 1) := (T.2.1.2.2.2.2.2.1 a ha).1
theorem d_Ma_6 (T : x_U L π h) (ha : qκ L a = 6) : π a 6 = some (a + 2) := (T.2.1.2.2.2.2.2.1 a ha).2.1
theorem d_Ma_7 (T : x_U L π h) (ha : qκ L a = 6) : π a 7 = some (a + 3) := (T.2.1.2.2.2.2.2.1 a ha).2.2.1
theorem d_Ma_8 (T : x_U L π h) (ha : qκ L a = 6) : π a 8 = some (a + 4) := (T.2.1.2.2.2.2.2.1 a ha).2.2.2
theorem d_Pa_0 (T : x_U L π h) (ha : qκ L a = 7) : π a 0 = some (a + 1) := (T.2.1.2.2.2.2.2.2.1 a ha).1
theorem e_Pa_0 (T : x_U L π h) (ha : qκ L a = 7) : qκ L (a + 1) = 3 := (T.1.2.2.2.2.2.2.1 a ha).1
theorem d_Pa_1 (T : x_U L π h) (ha : qκ L a = 7) : π a 1 = some (a + 2) := (T.2.1.2.2.2.2.2.2.1 a ha).2.1
theorem e_Pa_1 (T : x_U L π h) (ha : qκ L a = 7) : qκ L (a + 2) = 9 := (T.1.2.2.2.2.2.2.1 a ha).2.1
theorem d_Pa_2 (T : x_U L π h) (ha : qκ L a = 7) : π a 2 = some (a + 3) := (T.2.1.2.2.2.2.2.2.1 a ha).2.2.1
theorem d_Pa_3 (T : x_U L π h) (ha : qκ L a = 7) : π a 3 = some (a + 4) := (T.2.1.2.2.2.2.2.2.1 a ha).2.2.2
theorem l_Pa_5 {f : z_H → Option β} {q : Nat} (T : x_U L π h) (ha : qκ L a = 7) (H : ∀ π' h', x_U L π' h' → (∀ a' k', π' a' k' = if a' = a ∧ k' = 5 then some q else π a' k') → (∀ a' k', vI h' a' k' = vI h a' k') → (∀ a', vA h' a' = vA h a') → qi (f h') Q) : qi (z_b (sF h a 6 5 (.ref q)) f) Q := by
  obtain ⟨h', e1, e2, e3⟩ := q_sR (L := x_L L) (ci := 6) (k := 5) (q := q) (x_T T) ha (by decide) rfl trivial
  rw [e1]
  refine H _ h' ⟨T.1, ?_, e2.1, e2.2.2.2.1, e2.2.2.2.2.1⟩ (fun _ _ => rfl) e3.1 (fun a' => funext (e3.2 a'))
  refine ⟨?_, ?_, ?_, ?_, ?_, ?_, ?_, ?_, ?_, ?_, ?_, ?_⟩
  · intro b hb
    have t := T.2.1.1 b hb
    simpa [q_F_Addr, q_pu, show b ≠ a from fun z => absurd (z ▸ hb) (by rw [ha]; decide)] using t
  · intro b hb
    have t := T.2.1.2.1 b hb
    simpa [q_F_Cmd, q_pu, show b ≠ a from fun z => absurd (z ▸ hb) (by rw [ha]; decide)] using t
  · intro b hb
    have t := T.2.1.2.2.1 b hb
    exact t
  · intro b hb
    have t := T.2.1.2.2.2.1 b hb
    simpa [q_F_Ed, q_pu, show b ≠ a from fun z => absurd (z ▸ hb) (by rw [ha]; decide)] using t
  · intro b hb
    have t := T.2.1.2.2.2.2.1 b hb
    simpa [q_F_It, q_pu, show b ≠ a from fun z => absurd (z ▸ hb) (by rw [ha]; decide)] using t
  · intro b hb
    have t := T.2.1.2.2.2.2.2.1 b hb
    simpa [q_F_Ma, q_pu, show b ≠ a from fun z => absurd (z ▸ hb) (by rw [ha]; decide)] using t
  · intro b hb
    have t := T.2.1.2.2.2.2.2.2.1 b hb
    simpa [q_F_Pa, q_pu] using t
  · intro b hb
    have t := T.2.1.2.2.2.2.2.2.2.1 b hb
    exact t
  · intro b hb
    have t := T.2.1.2.2.2.2.2.2.2.2.1 b hb
    exact t
  · intro b hb
    have t := T.2.1.2.2.2.2.2.2.2.2.2.1 b hb
    simpa [q_F_Prog, q_pu, show b ≠ a from fun z => absurd (z ▸ hb) (by rw [ha]; decide)] using t
  · intro b hb
    have t := T.2.1.2.2.2.2.2.2.2.2.2.2.1 b hb
    simpa [q_F_Row, q_pu, show b ≠ a from fun z => absurd (z ▸ hb) (by rw [ha]; decide)] using t
  · intro b hb
    have t := T.2.1.2.2.2.2.2.2.2.2.2.2.2 b hb
    simpa [q_F_SF, q_pu, show b ≠ a from fun z => absurd (z ▸ hb) (by rw [ha]; decide)] using t
theorem l_Pa_6 {f : z_H → Option β} {q : Nat} (T : x_U L π h) (ha : qκ L a = 7) (H : ∀ π' h', x_U L π' h' → (∀ a' k', π' a' k' = if a' = a ∧ k' = 6 then some q else π a' k') → (∀ a' k', vI h' a' k' = vI h a' k') → (∀ a', vA h' a' = vA h a') → qi (f h') Q) : qi (z_b (sF h a 6 6 (.ref q)) f) Q := by
  obtain ⟨h', e1, e2, e3⟩ := q_sR (L := x_L L) (ci := 6) (k := 6) (q := q) (x_T T) ha (by decide) rfl trivial
  rw [e1]
  refine H _ h' ⟨T.1, ?_, e2.1, e2.2.2.2.1, e2.2.2.2.2.1⟩ (fun _ _ => rfl) e3.1 (fun a' => funext (e3.2 a'))
  refine ⟨?_, ?_, ?_, ?_, ?_, ?_, ?_, ?_, ?_, ?_, ?_, ?_⟩
  · intro b hb
    have t := T.2.1.1 b hb
    simpa [q_F_Addr, q_pu, show b ≠ a from fun z => absurd (z ▸ hb) (by rw [ha]; decide)] using t
  · intro b hb
    have t := T.2.1.2.1 b hb
    simpa [q_F_Cmd, q_pu, show b ≠ a from fun z => absurd (z ▸ hb) (by rw [ha]; decide)] using t
  · intro b hb
    have t := T.2.1.2.2.1 b hb
    exact t
  · intro b hb
    have t := T.2.1.2.2.2.1 b hb
    simpa [q_F_Ed, q_pu, show b ≠ a from fun z => absurd (z ▸ hb) (by rw [ha]; decide)] using t
  · intro b hb
    have t := T.2.1.2.2.2.2.1 b hb
    simpa [q_F_It, q_pu, show b ≠ a from fun z => absurd (z ▸ hb) (by rw [ha]; decide)] using t
  · intro b hb
    have t := T.2.1.2.2.2.2.2.1 b hb
    simpa [q_F_Ma, q_pu, show b ≠ a from fun z => absurd (z ▸ hb) (by rw [ha]; decide)] using t
  · intro b hb
    have t := T.2.1.2.2.2.2.2.2.1 b hb
    simpa [q_F_Pa, q_pu] using t
  · intro b hb
    have t := T.2.1.2.2.2.2.2.2.2.1 b hb
    exact t
  · intro b hb
    have t := T.2.1.2.2.2.2.2.2.2.2.1 b hb
    exact t
  · intro b hb
    have t := T.2.1.2.2.2.2.2.2.2.2.2.1 b hb
    simpa [q_F_Prog, q_pu, show b ≠ a from fun z => absurd (z ▸ hb) (by rw [ha]; decide)] using t
  · intro b hb
    have t := T.2.1.2.2.2.2.2.2.2.2.2.2.1 b hb
    simpa [q_F_Row, q_pu, show b ≠ a from fun z => absurd (z ▸ hb) (by rw [ha]; decide)] using t
  · intro b hb
    have t := T.2.1.2.2.2.2.2.2.2.2.2.2.2 b hb
    simpa [q_F_SF, q_pu, show b ≠ a from fun z => absurd (z ▸ hb) (by rw [ha]; decide)] using t
theorem l_Pr_0 {f : z_H → Option β} {q : Nat} (T : x_U L π h) (ha : qκ L a = 9) (H : ∀ π' h', x_U L π' h' → (∀ a' k', π' a' k' = if a' = a ∧ k' = 0 then some q else π a' k') → (∀ a' k', vI h' a' k' = vI h a' k') → (∀ a', vA h' a' = vA h a') → qi (f h') Q) : qi (z_b (sF h a 8 0 (.ref q)) f) Q := by
  obtain ⟨h', e1, e2, e3⟩ := q_sR (L := x_L L) (ci := 8) (k := 0) (q := q) (x_T T) ha (by decide) rfl trivial
  rw [e1]
  refine H _ h' ⟨T.1, ?_, e2.1, e2.2.2.2.1, e2.2.2.2.2.1⟩ (fun _ _ => rfl) e3.1 (fun a' => funext (e3.2 a'))
  refine ⟨?_, ?_, ?_, ?_, ?_, ?_, ?_, ?_, ?_, ?_, ?_, ?_⟩
  · intro b hb
    have t := T.2.1.1 b hb
    simpa [q_F_Addr, q_pu, show b ≠ a from fun z => absurd (z ▸ hb) (by rw [ha]; decide)] using t
  · intro b hb
    have t := T.2.1.2.1 b hb
    simpa [q_F_Cmd, q_pu, show b ≠ a from fun z => absurd (z ▸ hb) (by rw [ha]; decide)] using t
  · intro b hb
    have t := T.2.1.2.2.1 b hb
    exact t
  · intro b hb
    have t := T.2.1.2.2.2.1 b hb
    simpa [q_F_Ed, q_pu, show b ≠ a from fun z => absurd (z ▸ hb) (by rw [ha]; decide)] using t
  · intro b hb
    have t := T.2.1.2.2.2.2.1 b hb
    simpa [q_F_It, q_pu, show b ≠ a from fun z => absurd (z ▸ hb) (by rw [ha]; decide)] using t
  · intro b hb
    have t := T.2.1.2.2.2.2.2.1 b hb
    simpa [q_F_Ma, q_pu, show b ≠ a from fun z => absurd (z ▸ hb) (by rw [ha]; decide)] using t
  · intro b hb
    have t := T.2.1.2.2.2.2.2.2.1 b hb
    simpa [q_F_Pa, q_pu, show b ≠ a from fun z => absurd (z ▸ hb) (by rw [ha]; decide)] using t
  · intro b hb
    have t := T.2.1.2.2.2.2.2.2.2.1 b hb
    exact t
  · intro b hb
    have t := T.2.1.2.2.2.2.2.2.2.2.1 b hb
    exact t
  · intro b hb
    have t := T.2.1.2.2.2.2.2.2.2.2.2.1 b hb
    simpa [q_F_Prog, q_pu, show b ≠ a from fun z => absurd (z ▸ hb) (by rw [ha]; decide)] using t
  · intro b hb
    have t := T.2.1.2.2.2.2.2.2.2.2.2.2.1 b hb
    simpa [q_F_Row, q_pu, show b ≠ a from fun z => absurd (z ▸ hb) (by rw [ha]; decide)] using t
  · intro b hb
    have t := T.2.1.2.2.2.2.2.2.2.2.2.2.2 b hb
    simpa [q_F_SF, q_pu, show b ≠ a from fun z => absurd (z ▸ hb) (by rw [ha]; decide)] using t
theorem l_Pr_1 {f : z_H → Option β} {q : Nat} (T : x_U L π h) (ha : qκ L a = 9) (H : ∀ π' h', x_U L π' h' → (∀ a' k', π' a' k' = if a' = a ∧ k' = 1 then some q else π a' k') → (∀ a' k', vI h' a' k' = vI h a' k') → (∀ a', vA h' a' = vA h a') → qi (f h') Q) : qi (z_b (sF h a 8 1 (.ref q)) f) Q := by
  obtain ⟨h', e1, e2, e3⟩ := q_sR (L := x_L L) (ci := 8) (k := 1) (q := q) (x_T T) ha (by decide) rfl trivial
  rw [e1]
  refine H _ h' ⟨T.1, ?_, e2.1, e2.2.2.2.1, e2.2.2.2.2.1⟩ (fun _ _ => rfl) e3.1 (fun a' => funext (e3.2 a'))
  refine ⟨?_, ?_, ?_, ?_, ?_, ?_, ?_, ?_, ?_, ?_, ?_, ?_⟩
  · intro b hb
    have t := T.2.1.1 b hb
    simpa [q_F_Addr, q_pu, show b ≠ a from fun z => absurd (z ▸ hb) (by rw [ha]; decide)] using t
  · intro b hb
    have t := T.2.1.2.1 b hb
    simpa [q_F_Cmd, q_pu, show b ≠ a from fun z => absurd (z ▸ hb) (by rw [ha]; decide)] using t
  · intro b hb
    have t := T.2.1.2.2.1 b hb
    exact t
  · intro b hb
    have t := T.2.1.2.2.2.1 b hb
    simpa [q_F_Ed, q_pu, show b ≠ a from fun z => absurd (z ▸ hb) (by rw [ha]; decide)] using t
  · intro b hb
    have t := T.2.1.2.2.2.2.1 b hb
    simpa [q_F_It, q_pu, show b ≠ a from fun z => absurd (z ▸ hb) (by rw [ha]; decide)] using t
  · intro b hb
    have t := T.2.1.2.2.2.2.2.1 b hb
    simpa [q_F_Ma, q_pu, show b ≠ a from fun z => absurd (z ▸ hb) (by rw [ha]; decide)] using t
  · intro b hb
    have t := T.2.1.2.2.2.2.2.2.1 b hb
    simpa [q_F_Pa, q_pu, show b ≠ a from fun z => absurd (z ▸ hb) (by rw [ha]; decide)] using t
  · intro b hb
    have t := T.2.1.2.2.2.2.2.2.2.1 b hb
    exact t
  · intro b hb
    have t := T.2.1.2.2.2.2.2.2.2.2.1 b hb
    exact t
  · intro b hb
    have t := T.2.1.2.2.2.2.2.2.2.2.2.1 b hb
    simpa [q_F_Prog, q_pu, show b ≠ a from fun z => absurd (z ▸ hb) (by rw [ha]; decide)] using t
  · intro b hb
    have t := T.2.1.2.2.2.2.2.2.2.2.2.2.1 b hb
    simpa [q_F_Row, q_pu, show b ≠ a from fun z => absurd (z ▸ hb) (by rw [ha]; decide)] using t
  · intro b hb
    have t := T.2.1.2.2.2.2.2.2.2.2.2.2.2 b hb
    simpa [q_F_SF, q_pu, show b ≠ a from fun z => absurd (z ▸ hb) (by rw [ha]; decide)] using t
theorem l_Pr_2 {f : z_H → Option β} {q : Nat} (T : x_U L π h) (ha : qκ L a = 9) (H : ∀ π' h', x_U L π' h' → (∀ a' k', π' a' k' = if a' = a ∧ k' = 2 then some q else π a' k') → (∀ a' k', vI h' a' k' = vI h a' k') → (∀ a', vA h' a' = vA h a') → qi (f h') Q) : qi (z_b (sF h a 8 2 (.ref q)) f) Q := by
  obtain ⟨h', e1, e2, e3⟩ := q_sR (L := x_L L) (ci := 8) (k := 2) (q := q) (x_T T) ha (by decide) rfl trivial
  rw [e1]
  refine H _ h' ⟨T.1, ?_, e2.1, e2.2.2.2.1, e2.2.2.2.2.1⟩ (fun _ _ => rfl) e3.1 (fun a' => funext (e3.2 a'))
  refine ⟨?_, ?_, ?_, ?_, ?_, ?_, ?_, ?_, ?_, ?_, ?_, ?_⟩
  · intro b hb
    have t := T.2.1.1 b hb
    simpa [q_F_Addr, q_pu, show b ≠ a from fun z => absurd (z ▸ hb) (by rw [ha]; decide)] using t
  · intro b hb
    have t := T.2.1.2.1 b hb
    simpa [q_F_Cmd, q_pu, show b ≠ a from fun z => absurd (z ▸ hb) (by rw [ha]; decide)] using t
  · intro b hb
    have t := T.2.1.2.2.1 b hb
    exact t
  · intro b hb
    have t := T.2.1.2.2.2.1 b hb
    simpa [q_F_Ed, q_pu, show b ≠ a from fun z => absurd (z ▸ hb) (by rw [ha]; decide)] using t
  · intro b hb
    have t := T.2.1.2.2.2.2.1 b hb
    simpa [q_F_It, q_pu, show b ≠ a from fun z => absurd (z ▸ hb) (by rw [ha]; decide)] using t
  · intro b hb
    have t := T.2.1.2.2.2.2.2.1 b hb
    simpa [q_F_Ma, q_pu, show b ≠ a from fun z => absurd (z ▸ hb) (by rw [ha]; decide)] using t
  · intro b hb
    have t := T.2.1.2.2.2.2.2.2.1 b hb
    simpa [q_F_Pa, q_pu, show b ≠ a from fun z => absurd (z ▸ hb) (by rw [ha]; decide)] using t
  · intro b hb
    have t := T.2.1.2.2.2.2.2.2.2.1 b hb
    exact t
  · intro b hb
    have t := T.2.1.2.2.2.2.2.2.2.2.1 b hb
    exact t
  · intro b hb
    have t := T.2.1.2.2.2.2.2.2.2.2.2.1 b hb
    simpa [q_F_Prog, q_pu, show b ≠ a from fun z => absurd (z ▸ hb) (by rw [ha]; decide)] using t
  · intro b hb
    have t := T.2.1.2.2.2.2.2.2.2.2.2.2.1 b hb
    simpa [q_F_Row, q_pu, show b ≠ a from fun z => absurd (z ▸ hb) (by rw [ha]; decide)] using t
  · intro b hb
    have t := T.2.1.2.2.2.2.2.2.2.2.2.2.2 b hb
    simpa [q_F_SF, q_pu, show b ≠ a from fun z => absurd (z ▸ hb) (by rw [ha]; decide)] using t
theorem d_Prog_0 (T : x_U L π h) (ha : qκ L a = 10) : π a 0 = some (a + 1) := (T.2.1.2.2.2.2.2.2.2.2.2.1 a ha).1
theorem e_Prog_0 (T : x_U L π h) (ha : qκ L a = 10) : qκ L (a + 1) = 11 := (T.1.2.2.2.2.2.2.2.2.2.1 a ha).1
theorem d_Prog_1 (T : x_U L π h) (ha : qκ L a = 10) : π a 1 = some (a + 3) := (T.2.1.2.2.2.2.2.2.2.2.2.1 a ha).2.1
theorem e_Prog_1 (T : x_U L π h) (ha : qκ L a = 10) : qκ L (a + 3) = 5 := (T.1.2.2.2.2.2.2.2.2.2.1 a ha).2.2.1
theorem d_Prog_2 (T : x_U L π h) (ha : qκ L a = 10) : π a 2 = some (a + 8) := (T.2.1.2.2.2.2.2.2.2.2.2.1 a ha).2.2
theorem d_Row_0 (T : x_U L π h) (ha : qκ L a = 11) : π a 0 = some (a + 1) := (T.2.1.2.2.2.2.2.2.2.2.2.2.1 a ha)
theorem d_SF_0 (T : x_U L π h) (ha : qκ L a = 12) : π a 0 = some (a + 1) := (T.2.1.2.2.2.2.2.2.2.2.2.2.2 a ha).1
theorem e_SF_0 (T : x_U L π h) (ha : qκ L a = 12) : qκ L (a + 1) = 11 := (T.1.2.2.2.2.2.2.2.2.2.2.2 a ha).1
theorem d_SF_1 (T : x_U L π h) (ha : qκ L a = 12) : π a 1 = some (a + 3) := (T.2.1.2.2.2.2.2.2.2.2.2.2.2 a ha).2.1
theorem d_SF_2 (T : x_U L π h) (ha : qκ L a = 12) : π a 2 = some (a + 4) := (T.2.1.2.2.2.2.2.2.2.2.2.2.2 a ha).2.2.1
theorem e_SF_2 (T : x_U L π h) (ha : qκ L a = 12) : qκ L (a + 4) = 7 := (T.1.2.2.2.2.2.2.2.2.2.2.2 a ha).2.2.1
theorem d_SF_3 (T : x_U L π h) (ha : qκ L a = 12) : π a 3 = some (a + 9) := (T.2.1.2.2.2.2.2.2.2.2.2.2.2 a ha).2.2.2.1
theorem e_SF_3 (T : x_U L π h) (ha : qκ L a = 12) : qκ L (a + 9) = 4 := (T.1.2.2.2.2.2.2.2.2.2.2.2 a ha).2.2.2.1
theorem d_SF_4 (T : x_U L π h) (ha : qκ L a = 12) : π a 4 = some (a + 25) := (T.2.1.2.2.2.2.2.2.2.2.2.2.2 a ha).2.2.2.2
theorem e_SF_4 (T : x_U L π h) (ha : qκ L a = 12) : qκ L (a + 25) = 6 := (T.1.2.2.2.2.2.2.2.2.2.2.2 a ha).2.2.2.2.1
theorem l_SF_6 {f : z_H → Option β} {q : Nat} (T : x_U L π h) (ha : qκ L a = 12) (H : ∀ π' h', x_U L π' h' → (∀ a' k', π' a' k' = if a' = a ∧ k' = 6 then some q else π a' k') → (∀ a' k', vI h' a' k' = vI h a' k') → (∀ a', vA h' a' = vA h a') → qi (f h') Q) : qi (z_b (sF h a 11 6 (.ref q)) f) Q := by
  obtain ⟨h', e1, e2, e3⟩ := q_sR (L := x_L L) (ci := 11) (k := 6) (q := q) (x_T T) ha (by decide) rfl trivial
  rw [e1]
  refine H _ h' ⟨T.1, ?_, e2.1, e2.2.2.2.1, e2.2.2.2.2.1⟩ (fun _ _ => rfl) e3.1 (fun a' => funext (e3.2 a'))
  refine ⟨?_, ?_, ?_, ?_, ?_, ?_, ?_, ?_, ?_, ?_, ?_, ?_⟩
  · intro b hb
    have t := T.2.1.1 b hb
    simpa [q_F_Addr, q_pu, show b ≠ a from fun z => absurd (z ▸ hb) (by rw [ha]; decide)] using t
  · intro b hb
    have t := T.2.1.2.1 b hb
    simpa [q_F_Cmd, q_pu, show b ≠ a from fun z => absurd (z ▸ hb) (by rw [ha]; decide)] using t
  · intro b hb
    have t := T.2.1.2.2.1 b hb
    exact t
  · intro b hb
    have t := T.2.1.2.2.2.1 b hb
    simpa [q_F_Ed, q_pu, show b ≠ a from fun z => absurd (z ▸ hb) (by rw [ha]; decide)] using t
  · intro b hb
    have t := T.2.1.2.2.2.2.1 b hb
    simpa [q_F_It, q_pu, show b ≠ a from fun z => absurd (z ▸ hb) (by rw [ha]; decide)] using t
  · intro b hb
    have t := T.2.1.2.2.2.2.2.1 b hb
    simpa [q_F_Ma, q_pu, show b ≠ a from fun z => absurd (z ▸ hb) (by rw [ha]; decide)] using t
  · intro b hb
    have t := T.2.1.2.2.2.2.2.2.1 b hb
    simpa [q_F_Pa, q_pu, show b ≠ a from fun z => absurd (z ▸ hb) (by rw [ha]; decide)] using t
  · intro b hb
    have t := T.2.1.2.2.2.2.2.2.2.1 b hb
    exact t
  · intro b hb
    have t := T.2.1.2.2.2.2.2.2.2.2.1 b hb
    exact t
  · intro b hb
    have t := T.2.1.2.2.2.2.2.2.2.2.2.1 b hb
    simpa [q_F_Prog, q_pu, show b ≠ a from fun z => absurd (z ▸ hb) (by rw [ha]; decide)] using t
  · intro b hb
    have t := T.2.1.2.2.2.2.2.2.2.2.2.2.1 b hb
    simpa [q_F_Row, q_pu, show b ≠ a from fun z => absurd (z ▸ hb) (by rw [ha]; decide)] using t
  · intro b hb
    have t := T.2.1.2.2.2.2.2.2.2.2.2.2.2 b hb
    simpa [q_F_SF, q_pu] using t
theorem l_SF_7 {f : z_H → Option β} {q : Nat} (T : x_U L π h) (ha : qκ L a = 12) (H : ∀ π' h', x_U L π' h' → (∀ a' k', π' a' k' = if a' = a ∧ k' = 7 then some q else π a' k') → (∀ a' k', vI h' a' k' = vI h a' k') → (∀ a', vA h' a' = vA h a') → qi (f h') Q) : qi (z_b (sF h a 11 7 (.ref q)) f) Q := by
  obtain ⟨h', e1, e2, e3⟩ := q_sR (L := x_L L) (ci := 11) (k := 7) (q := q) (x_T T) ha (by decide) rfl trivial
  rw [e1]
  refine H _ h' ⟨T.1, ?_, e2.1, e2.2.2.2.1, e2.2.2.2.2.1⟩ (fun _ _ => rfl) e3.1 (fun a' => funext (e3.2 a'))
  refine ⟨?_, ?_, ?_, ?_, ?_, ?_, ?_, ?_, ?_, ?_, ?_, ?_⟩
  · intro b hb
    have t := T.2.1.1 b hb
    simpa [q_F_Addr, q_pu, show b ≠ a from fun z => absurd (z ▸ hb) (by rw [ha]; decide)] using t
  · intro b hb
    have t := T.2.1.2.1 b hb
    simpa [q_F_Cmd, q_pu, show b ≠ a from fun z => absurd (z ▸ hb) (by rw [ha]; decide)] using t
  · intro b hb
    have t := T.2.1.2.2.1 b hb
    exact t
  · intro b hb
    have t := T.2.1.2.2.2.1 b hb
    simpa [q_F_Ed, q_pu, show b ≠ a from fun z => absurd (z ▸ hb) (by rw [ha]; decide)] using t
  · intro b hb
    have t := T.2.1.2.2.2.2.1 b hb
    simpa [q_F_It, q_pu, show b ≠ a from fun z => absurd (z ▸ hb) (by rw [ha]; decide)] using t
  · intro b hb
    have t := T.2.1.2.2.2.2.2.1 b hb
    simpa [q_F_Ma, q_pu, show b ≠ a from fun z => absurd (z ▸ hb) (by rw [ha]; decide)] using t
  · intro b hb
    have t := T.2.1.2.2.2.2.2.2.1 b hb
    simpa [q_F_Pa, q_pu, show b ≠ a from fun z => absurd (z ▸ hb) (by rw [ha]; decide)] using t
  · intro b hb
    have t := T.2.1.2.2.2.2.2.2.2.1 b hb
    exact t
  · intro b hb
    have t := T.2.1.2.2.2.2.2.2.2.2.1 b hb
    exact t
  · intro b hb
    have t := T.2.1.2.2.2.2.2.2.2.2.2.1 b hb
    simpa [q_F_Prog, q_pu, show b ≠ a from fun z => absurd (z ▸ hb) (by rw [ha]; decide)] using t
  · intro b hb
    have t := T.2.1.2.2.2.2.2.2.2.2.2.2.1 b hb
    simpa [q_F_Row, q_pu, show b ≠ a from fun z => absurd (z ▸ hb) (by rw [ha]; decide)] using t
  · intro b hb
    have t := T.2.1.2.2.2.2.2.2.2.2.2.2.2 b hb
    simpa [q_F_SF, q_pu] using t
theorem e_cap (T : x_U L π h) (ha : qκ L a = 10) : qhi L (a + 1) 1 = 240 := (T.1.2.2.2.2.2.2.2.2.2.1 a ha).2.1
end LR
theorem x_s11 (a : Int32) : a + 1 + 1 = a + 2 := by rw [Int32.add_assoc]; rfl
theorem x_s12 (a : Int32) : a + 1 + 2 = a + 3 := by rw [Int32.add_assoc]; rfl
theorem x_s21 (a : Int32) : a + 2 + 1 = a + 3 := by rw [Int32.add_assoc]; rfl
theorem x_s13 (a : Int32) : a + 1 + 3 = a + 4 := by rw [Int32.add_assoc]; rfl
theorem x_s22 (a : Int32) : a + 2 + 2 = a + 4 := by rw [Int32.add_assoc]; rfl
theorem x_s31 (a : Int32) : a + 3 + 1 = a + 4 := by rw [Int32.add_assoc]; rfl
