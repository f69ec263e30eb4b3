/-! the pure layer: typed abstract heaps. A cell's kind is a number: 0 none; an object of class ci (its fields' tags as q_tb says): ci + 1; an array of n ints, longs, references of type t: n * 1000 + 100 + t, n * 1000 + 200, n * 1000 + 300 + t -/
def q_tg : Value → Nat
  | .int _ => 0
  | .null => 1
  | .ref _ => 1
  | _ => 2
def q_tb (ci : Nat) : List Nat := match ci with
  | 0 => [1, 0, 0]
  | 1 => [1, 1, 1, 0, 0, 0, 0, 0, 0, 0, 0, 0, 0, 0, 0, 0]
  | 2 => [1, 0, 0]
  | 3 => [1, 1, 1, 0, 0, 0, 0, 1, 1, 1, 1, 1, 0, 0, 0, 0, 0]
  | 4 => [1, 1, 1, 1, 0]
  | 5 => [0, 0, 1, 1, 1, 1, 1, 1, 1]
  | 6 => [1, 1, 1, 1, 0, 1, 1]
  | 7 => [0, 0, 0, 0, 0, 0, 0]
  | 8 => [1, 1, 1, 0, 0, 0, 0]
  | 9 => [1, 1, 1, 0]
  | 10 => [1, 0]
  | 11 => [1, 1, 1, 1, 1, 0, 1, 1, 0, 0]
  | _ => [1, 1, 1, 0, 0, 0, 0, 0, 0, 1, 1, 1, 1, 1, 1, 1, 1, 1, 1, 1, 1, 1, 1, 1, 1, 1, 1, 1, 1, 1, 1, 1, 1, 1, 1, 1, 1, 1, 1, 1, 1, 0, 0, 0, 0, 0, 0, 0, 0, 0, 0, 1, 1, 1, 0, 0, 0, 0, 1, 1, 1, 1, 1, 1, 1, 0, 0, 0, 0, 0, 0, 0, 0, 0, 0, 0, 0]
def q_kd (h : z_H) (a : Nat) : Nat := match h a with
  | none => 0
  | some (.inr o) => if o.2.map q_tg = q_tb o.1 ∧ o.1 < 13 then o.1 + 1 else 99
  | some (.inl (t, n, .inl _)) => if t < 6 then n * 1000 + 100 + t else 99
  | some (.inl (t, n, .inr (.inl _))) => if t = 2 then n * 1000 + 200 else 99
  | some (.inl (t, n, .inr (.inr (.inr (.inr _))))) => if t < 6 then n * 1000 + 300 + t else 99
  | _ => 99
def vI (h : z_H) (a k : Nat) : Int32 := match h a with
  | some (.inr o) => (match o.2[k]? with
    | some (.int x) => x
    | _ => 0)
  | _ => 0
def vR (h : z_H) (a k : Nat) : Option Nat := match h a with
  | some (.inr o) => (match o.2[k]? with
    | some (.ref x) => some x
    | _ => none)
  | _ => none
def vA (h : z_H) (a : Nat) (i : Int32) : Int32 := match h a with
  | some (.inl (_, _, .inl f)) => f i.toNatClampNeg
  | _ => 0
def vQ (h : z_H) (a : Nat) (i : Int32) : Option Nat := match h a with
  | some (.inl (_, _, .inr (.inr (.inr (.inr f))))) => f i.toNatClampNeg
  | _ => none
/-- what is fixed: kinds of cells; ranges of int fields, of elements; contents of arrays of references -/
def q_L : Type := (Nat → Nat) × (Nat → Nat → Int32 × Int32) × (Nat → Int32 × Int32) × (Nat → Int32 → Option Nat)
def qκ (L : q_L) (a : Nat) : Nat := L.1 a
def qlo (L : q_L) (a k : Nat) : Int32 := (L.2.1 a k).1
def qhi (L : q_L) (a k : Nat) : Int32 := (L.2.1 a k).2
def qel (L : q_L) (a : Nat) : Int32 := (L.2.2.1 a).1
def qeh (L : q_L) (a : Nat) : Int32 := (L.2.2.1 a).2
def qθ (L : q_L) (a : Nat) (i : Int32) : Option Nat := L.2.2.2 a i
def q_T (L : q_L) (W : Nat → Prop) (h0 : z_H) (π : Nat → Nat → Option Nat) (h : z_H) : Prop :=
  (∀ a, q_kd h a = qκ L a) ∧ (∀ a k, qlo L a k ≤ vI h a k ∧ vI h a k ≤ qhi L a k) ∧ (∀ a i, qel L a ≤ vA h a i ∧ vA h a i ≤ qeh L a) ∧ (∀ a k, vR h a k = π a k) ∧ (∀ a i, vQ h a i = qθ L a i) ∧ (∀ a, ¬ W a → h a = h0 a)
/-- it answers, and the answer is so -/
def qk {α : Type} (o : Option α) (Q : α → Prop) : Prop := ∃ x, o = some x ∧ Q x
theorem qk_some {α : Type} {x : α} {Q : α → Prop} (H : Q x) : qk (some x) Q := ⟨x, rfl, H⟩
theorem qk_b {α β : Type} {o : Option α} {f : α → Option β} {P : α → Prop} {Q : β → Prop} (h1 : qk o P) (h2 : ∀ x, P x → qk (f x) Q) : qk (z_b o f) Q := by
  obtain ⟨x, rfl, hx⟩ := h1
  exact h2 x hx
theorem qk_bs {α β : Type} {x : α} {f : α → Option β} {Q : β → Prop} (H : qk (f x) Q) : qk (z_b (some x) f) Q := H
theorem qk_bsx {α β : Type} {x : α} {f : α → Option β} {Q : β → Prop} (H : ∀ y, y = x → qk (f y) Q) : qk (z_b (some x) f) Q := H x rfl
theorem qk_zB {β : Type} {x : Int32} {f : Int32 → Option β} {Q : β → Prop} (hx : x = 0 ∨ x = 1) (H : qk (f x) Q) : qk (z_b (zB x) f) Q := by
  rw [show zB x = some x from if_pos hx]
  exact H
theorem qk_if {α : Type} {c : Prop} [Decidable c] {a b : Option α} {Q : α → Prop} (h1 : c → qk a Q) (h2 : ¬ c → qk b Q) : qk (if c then a else b) Q := by
  split
  · next q => exact h1 q
  · next q => exact h2 q
theorem qk_mono {α : Type} {o : Option α} {P Q : α → Prop} (h : qk o P) (hq : ∀ x, P x → Q x) : qk o Q := by
  obtain ⟨x, e, hx⟩ := h
  exact ⟨x, e, hq x hx⟩
theorem q_obj {h : z_H} {a ci : Nat} (e : q_kd h a = ci + 1) (hc : ci < 13) : ∃ fs : List Value, h a = some (.inr (ci, fs)) ∧ fs.map q_tg = q_tb ci := by
  unfold q_kd at e
  split at e
  · omega
  · next o ho =>
    split at e
    · next q =>
      have e1 : o.1 = ci := by omega
      subst e1
      exact ⟨o.2, ho, q.1⟩
    · omega
  · split at e <;> omega
  · split at e <;> omega
  · split at e <;> omega
  · omega
theorem q_arI {h : z_H} {a t n : Nat} (e : q_kd h a = n * 1000 + 100 + t) (ht : t < 6) : ∃ f, h a = some (.inl (t, n, .inl f)) := by
  unfold q_kd at e
  split at e
  · omega
  · split at e <;> omega
  · next t' n' f ho =>
    split at e
    · have e1 : t' = t := by omega
      have e2 : n' = n := by omega
      subst e1 e2
      exact ⟨f, ho⟩
    · omega
  · split at e <;> omega
  · split at e <;> omega
  · omega
theorem q_arL {h : z_H} {a n : Nat} (e : q_kd h a = n * 1000 + 200) : ∃ f, h a = some (.inl (2, n, .inr (.inl f))) := by
  unfold q_kd at e
  split at e
  · omega
  · split at e <;> omega
  · split at e <;> omega
  · next t' n' f ho =>
    split at e
    · next q =>
      have e2 : n' = n := by omega
      subst q e2
      exact ⟨f, ho⟩
    · omega
  · split at e <;> omega
  · omega
theorem q_arR {h : z_H} {a t n : Nat} (e : q_kd h a = n * 1000 + 300 + t) (ht : t < 6) : ∃ f, h a = some (.inl (t, n, .inr (.inr (.inr (.inr f))))) := by
  unfold q_kd at e
  split at e
  · omega
  · split at e <;> omega
  · split at e <;> omega
  · split at e <;> omega
  · next t' n' f ho =>
    split at e
    · have e1 : t' = t := by omega
      have e2 : n' = n := by omega
      subst e1 e2
      exact ⟨f, ho⟩
    · omega
  · omega
theorem q_tg0 {fs : List Value} {tg : List Nat} {k : Nat} (e : fs.map q_tg = tg) (hk : tg[k]? = some 0) : ∃ x, fs[k]? = some (.int x) := by
  rw [← e, List.getElem?_map] at hk
  cases hf : fs[k]? with
  | none => rw [hf] at hk; cases hk
  | some v =>
    rw [hf] at hk
    cases v <;> simp [q_tg] at hk
    exact ⟨_, rfl⟩
theorem q_tgL {fs : List Value} {tg : List Nat} {k x : Nat} (e : fs.map q_tg = tg) (hk : tg[k]? = some x) : k < fs.length := by
  rw [← e, List.getElem?_map] at hk
  cases hf : fs[k]? with
  | none => rw [hf] at hk; cases hk
  | some v => exact (List.getElem?_eq_some_iff.mp hf).1
theorem q_in {i : Int32} {n : Nat} (hn : n ≤ 100000) (h0 : 0 ≤ i) (h1 : i < Int32.ofNat n) : ¬ (i < 0 ∨ n ≤ i.toNatClampNeg) := by
  rintro (h | h)
  · exact absurd h (by lia)
  · have e1 : (Int32.ofNat n).toInt = n := by
      rw [Int32.toInt_ofNat_of_lt]; omega
    have e2 := Int32.lt_iff_toInt_lt.mp h1
    rw [e1] at e2
    have e3 : i.toNatClampNeg = i.toInt.toNat := rfl
    rw [e3] at h
    have e4 := Int32.le_iff_toInt_le.mp h0
    have e5 : (0 : Int32).toInt = 0 := rfl
    omega
section QT
variable {L : q_L} {W : Nat → Prop} {h0 : z_H} {π : Nat → Nat → Option Nat} {h : z_H} {a ci k t n : Nat}
theorem q_gI (T : q_T L W h0 π h) (ha : qκ L a = ci + 1) (hc : ci < 13) (ht : (q_tb ci)[k]? = some 0) : gI h a ci k = some (vI h a k) := by
  obtain ⟨fs, e1, e2⟩ := q_obj ((T.1 a).trans ha) hc
  obtain ⟨x, e3⟩ := q_tg0 e2 ht
  simp [gI, gF, vI, e1, e3]
theorem q_gR {q : Nat} (T : q_T L W h0 π h) (ha : qκ L a = ci + 1) (hc : ci < 13) (hq : π a k = some q) : gR h a ci k = some q := by
  obtain ⟨fs, e1, e2⟩ := q_obj ((T.1 a).trans ha) hc
  have e3 := (T.2.2.2.1 a k).trans hq
  simp only [vR, e1] at e3
  simp only [gR, gF, e1, if_true]
  split at e3
  · next x hx => rw [hx]; exact e3
  · cases e3
theorem q_gO (T : q_T L W h0 π h) (ha : qκ L a = ci + 1) (hc : ci < 13) : gO h a ci = some () := by
  obtain ⟨fs, e1, e2⟩ := q_obj ((T.1 a).trans ha) hc
  simp [gO, e1]
theorem q_aN (T : q_T L W h0 π h) (ha : qκ L a = n * 1000 + 100 + t) (ht : t < 6) : aN h a = some (Int32.ofNat n) := by
  obtain ⟨f, e1⟩ := q_arI ((T.1 a).trans ha) ht
  simp [aN, e1, ht]
theorem q_aNR (T : q_T L W h0 π h) (ha : qκ L a = n * 1000 + 300 + t) (ht : t < 6) : aN h a = some (Int32.ofNat n) := by
  obtain ⟨f, e1⟩ := q_arR ((T.1 a).trans ha) ht
  simp [aN, e1, ht]
theorem q_aI {i : Int32} (T : q_T L W h0 π h) (ha : qκ L a = n * 1000 + 100 + t) (ht : t < 6) (hn : n ≤ 100000) (i0 : 0 ≤ i) (i1 : i < Int32.ofNat n) : aI h a t i = some (vA h a i) := by
  obtain ⟨f, e1⟩ := q_arI ((T.1 a).trans ha) ht
  simp only [aI, e1, vA]
  rw [if_pos ⟨trivial, q_in hn i0 i1⟩]
theorem q_aL {i : Int32} (T : q_T L W h0 π h) (ha : qκ L a = n * 1000 + 200) (hn : n ≤ 100000) (i0 : 0 ≤ i) (i1 : i < Int32.ofNat n) : ∃ x, aL h a i = some x := by
  obtain ⟨f, e1⟩ := q_arL ((T.1 a).trans ha)
  simp only [aL, e1]
  rw [if_pos ⟨trivial, q_in hn i0 i1⟩]
  exact ⟨_, rfl⟩
theorem q_aR {i : Int32} {q : Nat} (T : q_T L W h0 π h) (ha : qκ L a = n * 1000 + 300 + t) (ht : t < 6) (hn : n ≤ 100000) (i0 : 0 ≤ i) (i1 : i < Int32.ofNat n) (hq : qθ L a i = some q) : aR h a t i = some q := by
  obtain ⟨f, e1⟩ := q_arR ((T.1 a).trans ha) ht
  have e3 := (T.2.2.2.2.1 a i).trans hq
  simp only [vQ, e1] at e3
  simp only [aR, e1]
  rw [if_pos ⟨trivial, q_in hn i0 i1⟩]
  exact e3
/-- what a write of an int field leaves; of a reference; of an element -/
def q_wI (h : z_H) (b k : Nat) (v : Int32) (h' : z_H) : Prop := (∀ a' k', vI h' a' k' = if a' = b ∧ k' = k then v else vI h a' k') ∧ ∀ a' i, vA h' a' i = vA h a' i
def q_s (h h' : z_H) : Prop := (∀ a' k', vI h' a' k' = vI h a' k') ∧ ∀ a' i, vA h' a' i = vA h a' i
def q_wA (h : z_H) (b : Nat) (c x : Int32) (h' : z_H) : Prop := (∀ a' k', vI h' a' k' = vI h a' k') ∧ ∀ a' j, 0 ≤ j → vA h' a' j = if a' = b ∧ j = c then x else vA h a' j
/-- pointers after a write of one -/
def q_pu (π : Nat → Nat → Option Nat) (a k q : Nat) : Nat → Nat → Option Nat := fun a' k' => if a' = a ∧ k' = k then some q else π a' k'
theorem q_sI {v : Int32} (T : q_T L W h0 π h) (ha : qκ L a = ci + 1) (hc : ci < 13) (ht : (q_tb ci)[k]? = some 0) (w : W a) (r1 : qlo L a k ≤ v) (r2 : v ≤ qhi L a k) : ∃ h', sF h a ci k (.int v) = some h' ∧ q_T L W h0 π h' ∧ q_wI h a k v h' := by
  obtain ⟨fs, e1, e2⟩ := q_obj ((T.1 a).trans ha) hc
  obtain ⟨x, e3⟩ := q_tg0 e2 ht
  have hk := q_tgL e2 ht
  have hI : ∀ a' k', vI (z_up h a (.inr (ci, fs.set k (.int v)))) a' k' = if a' = a ∧ k' = k then v else vI h a' k' := by
    intro a' k'
    unfold vI z_up
    by_cases q : a' = a
    · subst q
      by_cases q2 : k' = k
      · subst q2
        simp [hk]
      · have q3 : k ≠ k' := fun z => q2 z.symm
        simp [q2, q3, e1]
    · simp [q]
  have hA : ∀ a' i, vA (z_up h a (.inr (ci, fs.set k (.int v)))) a' i = vA h a' i := by
    intro a' i
    unfold vA z_up
    by_cases q : a' = a
    · subst q; simp [e1]
    · simp [q]
  have hT : (fs.set k (.int v)).map q_tg = fs.map q_tg := by
    apply List.ext_getElem?
    intro i
    rw [List.getElem?_map, List.getElem?_map]
    by_cases q : k = i
    · subst q
      rw [e3]
      simp [hk, q_tg]
    · rw [List.getElem?_set, if_neg q]
  refine ⟨z_up h a (.inr (ci, fs.set k (.int v))), by simp [sF, e1, hk], ⟨?_, ?_, ?_, ?_, ?_, ?_⟩, hI, hA⟩
  · intro a'
    rw [← T.1 a']
    unfold q_kd z_up
    by_cases q : a' = a
    · subst q
      simp only [if_true, e1, hT]
    · simp [q]
  · intro a' k'
    rw [hI]
    split
    · next q => rw [q.1, q.2]; exact ⟨r1, r2⟩
    · exact T.2.1 _ _
  · intro a' i; rw [hA]; exact T.2.2.1 _ _
  · intro a' k'
    rw [← T.2.2.2.1 a' k']
    unfold vR z_up
    by_cases q : a' = a
    · subst q
      simp only [if_true, e1]
      by_cases q2 : k = k'
      · subst q2
        rw [e3]
        simp [hk]
      · rw [List.getElem?_set, if_neg q2]
    · simp [q]
  · intro a' i
    rw [← T.2.2.2.2.1 a' i]
    unfold vQ z_up
    by_cases q : a' = a
    · subst q; simp [e1]
    · simp [q]
  · intro a' hw
    have q : a' ≠ a := fun z => hw (z ▸ w)
    simp only [z_up, if_neg q]
    exact T.2.2.2.2.2 a' hw
theorem q_sR {q : Nat} (T : q_T L W h0 π h) (ha : qκ L a = ci + 1) (hc : ci < 13) (ht : (q_tb ci)[k]? = some 1) (w : W a) : ∃ h', sF h a ci k (.ref q) = some h' ∧ q_T L W h0 (q_pu π a k q) h' ∧ q_s h h' := by
  obtain ⟨fs, e1, e2⟩ := q_obj ((T.1 a).trans ha) hc
  have hk := q_tgL e2 ht
  have hv : ∃ v, fs[k]? = some v ∧ q_tg v = 1 := by
    rw [← e2, List.getElem?_map] at ht
    cases hf : fs[k]? with
    | none => rw [hf] at ht; cases ht
    | some v => rw [hf] at ht; exact ⟨v, rfl, Option.some.inj ht⟩
  obtain ⟨v, e3, e4⟩ := hv
  have hI : ∀ a' k', vI (z_up h a (.inr (ci, fs.set k (.ref q)))) a' k' = vI h a' k' := by
    intro a' k'
    unfold vI z_up
    by_cases q1 : a' = a
    · subst q1
      by_cases q2 : k' = k
      · subst q2
        simp only [if_true, e1, e3]
        cases v <;> simp [q_tg] at e4 <;> simp [hk]
      · have q3 : k ≠ k' := fun z => q2 z.symm
        simp [q3, e1]
    · simp [q1]
  have hA : ∀ a' i, vA (z_up h a (.inr (ci, fs.set k (.ref q)))) a' i = vA h a' i := by
    intro a' i
    unfold vA z_up
    by_cases q1 : a' = a
    · subst q1; simp [e1]
    · simp [q1]
  have hT : (fs.set k (.ref q)).map q_tg = fs.map q_tg := by
    apply List.ext_getElem?
    intro i
    rw [List.getElem?_map, List.getElem?_map]
    by_cases q : k = i
    · subst q
      rw [e3]
      simp [hk, e4, show q_tg (.ref q) = 1 from rfl]
    · rw [List.getElem?_set, if_neg q]
  refine ⟨z_up h a (.inr (ci, fs.set k (.ref q))), by simp [sF, e1, hk], ⟨?_, ?_, ?_, ?_, ?_, ?_⟩, hI, hA⟩
  · intro a'
    rw [← T.1 a']
    unfold q_kd z_up
    by_cases q1 : a' = a
    · subst q1
      simp only [if_true, e1, hT]
    · simp [q1]
  · intro a' k'; rw [hI]; exact T.2.1 _ _
  · intro a' i; rw [hA]; exact T.2.2.1 _ _
  · intro a' k'
    unfold q_pu
    by_cases q1 : a' = a
    · subst q1
      by_cases q2 : k' = k
      · subst q2
        simp [vR, z_up, hk]
      · have q3 : k ≠ k' := fun z => q2 z.symm
        simp only [q2, and_false, if_false]
        rw [← T.2.2.2.1 a' k']
        simp [vR, z_up, e1, q3]
    · simp only [q1, false_and, if_false]
      rw [← T.2.2.2.1 a' k']
      simp [vR, z_up, q1]
  · intro a' i
    rw [← T.2.2.2.2.1 a' i]
    unfold vQ z_up
    by_cases q1 : a' = a
    · subst q1; simp [e1]
    · simp [q1]
  · intro a' hw
    have q1 : a' ≠ a := fun z => hw (z ▸ w)
    simp only [z_up, if_neg q1]
    exact T.2.2.2.2.2 a' hw
theorem q_clamp {i j : Int32} (hi : 0 ≤ i) (hj : 0 ≤ j) (e : j.toNatClampNeg = i.toNatClampNeg) : j = i := by
  have e1 : i.toNatClampNeg = i.toInt.toNat := rfl
  have e2 : j.toNatClampNeg = j.toInt.toNat := rfl
  have e3 := Int32.le_iff_toInt_le.mp hi
  have e4 := Int32.le_iff_toInt_le.mp hj
  have e5 : (0 : Int32).toInt = 0 := rfl
  apply Int32.toInt_inj.mp
  omega
theorem q_uI {i x : Int32} (T : q_T L W h0 π h) (ha : qκ L a = n * 1000 + 100 + t) (ht : t < 6) (hn : n ≤ 100000) (w : W a) (i0 : 0 ≤ i) (i1 : i < Int32.ofNat n) (r1 : qel L a ≤ x) (r2 : x ≤ qeh L a) : ∃ h', uI h a t i x = some h' ∧ q_T L W h0 π h' ∧ q_wA h a i x h' := by
  obtain ⟨f, e1⟩ := q_arI ((T.1 a).trans ha) ht
  have hI : ∀ a' k', vI (z_up h a (.inl (t, n, .inl (upd f i.toNatClampNeg x)))) a' k' = vI h a' k' := by
    intro a' k'
    unfold vI z_up
    by_cases q1 : a' = a
    · subst q1; simp [e1]
    · simp [q1]
  have hA : ∀ a' j, vA (z_up h a (.inl (t, n, .inl (upd f i.toNatClampNeg x)))) a' j = if a' = a ∧ j.toNatClampNeg = i.toNatClampNeg then x else vA h a' j := by
    intro a' j
    unfold vA z_up
    by_cases q1 : a' = a
    · subst q1; simp [e1, upd]
    · simp [q1]
  refine ⟨z_up h a (.inl (t, n, .inl (upd f i.toNatClampNeg x))), ?_, ⟨?_, ?_, ?_, ?_, ?_, ?_⟩, hI, ?_⟩
  · simp only [uI, e1]
    rw [if_pos ⟨trivial, q_in hn i0 i1⟩]
  · intro a'
    rw [← T.1 a']
    unfold q_kd z_up
    by_cases q1 : a' = a
    · subst q1; simp [e1]
    · simp [q1]
  · intro a' k'; rw [hI]; exact T.2.1 _ _
  · intro a' j
    rw [hA]
    split
    · next q => rw [q.1]; exact ⟨r1, r2⟩
    · exact T.2.2.1 _ _
  · intro a' k'
    rw [← T.2.2.2.1 a' k']
    unfold vR z_up
    by_cases q1 : a' = a
    · subst q1; simp [e1]
    · simp [q1]
  · intro a' i
    rw [← T.2.2.2.2.1 a' i]
    unfold vQ z_up
    by_cases q1 : a' = a
    · subst q1; simp [e1]
    · simp [q1]
  · intro a' hw
    have q1 : a' ≠ a := fun z => hw (z ▸ w)
    simp only [z_up, if_neg q1]
    exact T.2.2.2.2.2 a' hw
  · intro a' j hj
    rw [hA]
    by_cases q1 : a' = a
    · by_cases q2 : j = i
      · simp [q1, q2]
      · have q3 : ¬ j.toNatClampNeg = i.toNatClampNeg := fun z => q2 (q_clamp i0 hj z)
        simp [q1, q2, q3]
    · simp [q1]
theorem q_uL {i : Int32} {x : Int64} (T : q_T L W h0 π h) (ha : qκ L a = n * 1000 + 200) (hn : n ≤ 100000) (w : W a) (i0 : 0 ≤ i) (i1 : i < Int32.ofNat n) : ∃ h', uL h a i x = some h' ∧ q_T L W h0 π h' ∧ q_s h h' := by
  obtain ⟨f, e1⟩ := q_arL ((T.1 a).trans ha)
  have hI : ∀ a' k', vI (z_up h a (.inl (2, n, .inr (.inl (vp_updL f i.toNatClampNeg x))))) a' k' = vI h a' k' := by
    intro a' k'
    unfold vI z_up
    by_cases q1 : a' = a
    · subst q1; simp [e1]
    · simp [q1]
  have hA : ∀ a' j, vA (z_up h a (.inl (2, n, .inr (.inl (vp_updL f i.toNatClampNeg x))))) a' j = vA h a' j := by
    intro a' j
    unfold vA z_up
    by_cases q1 : a' = a
    · subst q1; simp [e1]
    · simp [q1]
  refine ⟨z_up h a (.inl (2, n, .inr (.inl (vp_updL f i.toNatClampNeg x)))), ?_, ⟨?_, ?_, ?_, ?_, ?_, ?_⟩, hI, hA⟩
  · simp only [uL, e1]
    rw [if_pos ⟨trivial, q_in hn i0 i1⟩]
  · intro a'
    rw [← T.1 a']
    unfold q_kd z_up
    by_cases q1 : a' = a
    · subst q1; simp [e1]
    · simp [q1]
  · intro a' k'; rw [hI]; exact T.2.1 _ _
  · intro a' j; rw [hA]; exact T.2.2.1 _ _
  · intro a' k'
    rw [← T.2.2.2.1 a' k']
    unfold vR z_up
    by_cases q1 : a' = a
    · subst q1; simp [e1]
    · simp [q1]
  · intro a' i
    rw [← T.2.2.2.2.1 a' i]
    unfold vQ z_up
    by_cases q1 : a' = a
    · subst q1; simp [e1]
    · simp [q1]
  · intro a' hw
    have q1 : a' ≠ a := fun z => hw (z ▸ w)
    simp only [z_up, if_neg q1]
    exact T.2.2.2.2.2 a' hw
end QT
