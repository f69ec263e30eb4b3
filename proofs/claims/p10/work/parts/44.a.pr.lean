/-- a pattern that is being read: kinds and groups of items from f up to s; g groups, o: one is open; c stars, at p1 and p2; r: a star may come -/
def q_J (kd gr : Int32 → Int32) (f s g o c p1 p2 r : Int32) : Prop :=
  0 ≤ f ∧ f ≤ s ∧ s ≤ 240 ∧ 0 ≤ g ∧ g ≤ 3 ∧ 0 ≤ c ∧ c ≤ 2 ∧ q_V kd gr f s ∧
  (∀ j, f ≤ j → j < s → (kd j = 1 ∨ kd j = 2) → gr j ≤ g) ∧
  (o = 0 → ∀ x, 1 ≤ x → x ≤ g → ∃ j, f ≤ j ∧ j < s ∧ kd j = 2 ∧ gr j = x) ∧
  (o ≠ 0 → 1 ≤ g ∧ (∀ x, 1 ≤ x → x < g → ∃ j, f ≤ j ∧ j < s ∧ kd j = 2 ∧ gr j = x) ∧ (∃ j, f ≤ j ∧ j < s ∧ kd j = 1 ∧ gr j = g) ∧ ∀ j, f ≤ j → j < s → kd j = 2 → gr j < g) ∧
  (1 ≤ c → f ≤ p1 ∧ p1 < s ∧ kd p1 = 0) ∧ (2 ≤ c → p1 < p2 ∧ p2 < s ∧ kd p2 = 0) ∧
  (r ≠ 0 → f < s ∧ kd (s - 1) = 0 ∧ (1 ≤ c → p1 < s - 1))
theorem q_V_eq {kd gr kd' gr' : Int32 → Int32} {f t : Int32} (hf : 0 ≤ f) (V : q_V kd gr f t) (e : ∀ j, 0 ≤ j → j < t → kd' j = kd j ∧ gr' j = gr j) : q_V kd' gr' f t := by
  intro i h1 h2
  have v := V i h1 h2
  have ei := e i (Int32.le_trans hf h1) h2
  rw [ei.1, ei.2]
  refine ⟨fun a j b1 b2 b3 => ?_, fun a => ⟨?_, fun j b1 b2 b3 => ?_⟩, fun a => ?_⟩
  · have ej := e j (Int32.le_trans hf b1) (by lia)
    rw [ej.1] at b3
    rw [ej.2]
    exact v.1 a j b1 b2 b3
  · obtain ⟨j, b1, b2, b3, b4⟩ := (v.2.1 a).1
    have ej := e j (Int32.le_trans hf b1) (by lia)
    exact ⟨j, b1, b2, by rw [ej.1]; exact b3, by rw [ej.2]; exact b4⟩
  · have ej := e j (Int32.le_trans hf b1) (by lia)
    rw [ej.1] at b3
    rw [ej.2]
    exact (v.2.1 a).2 j b1 b2 b3
  · obtain ⟨j, b1, b2, b3, b4⟩ := v.2.2 a
    have ej := e j (Int32.le_trans hf b1) (by lia)
    exact ⟨j, b1, b2, by rw [ej.1]; exact b3, by rw [ej.2]; exact b4⟩
theorem q_V_add {kd gr : Int32 → Int32} {f s : Int32} (hf : 0 ≤ f) (hs : s < 240) (V : q_V kd gr f s) (h : (kd s = 1 → ∀ j, f ≤ j → j < s → (kd j = 1 ∨ kd j = 2) → gr j ≠ gr s) ∧ (kd s = 2 → (∃ j, f ≤ j ∧ j < s ∧ kd j = 1 ∧ gr j = gr s) ∧ ∀ j, f ≤ j → j < s → kd j = 2 → gr j ≠ gr s) ∧ (kd s = 3 → ∃ j, f ≤ j ∧ j < s ∧ kd j = 2 ∧ gr j = gr s)) : q_V kd gr f (s + 1) := by
  intro i h1 h2
  by_cases q : i = s
  · subst q; exact h
  · exact V i h1 (by lia)
theorem q_J_eq {kd gr kd' gr' : Int32 → Int32} {f s g o c p1 p2 r f' s' g' o' c' p1' p2' r' : Int32} (J : q_J kd gr f s g o c p1 p2 r) (e : ∀ j, 0 ≤ j → j < s → kd' j = kd j ∧ gr' j = gr j) (e1 : f' = f) (e2 : s' = s) (e3 : g' = g) (e4 : o' = o) (e5 : c' = c) (e6 : p1' = p1) (e7 : p2' = p2) (e8 : r' = r ∨ r' = 0) : q_J kd' gr' f' s' g' o' c' p1' p2' r' := by
  subst e1 e2 e3 e4 e5 e6 e7
  obtain ⟨a1, a2, a3, a4, a5, a6, a7, V, b1, b2, b3, b4, b5, b6⟩ := J
  refine ⟨a1, a2, a3, a4, a5, a6, a7, q_V_eq a1 V e, ?_, ?_, ?_, ?_, ?_, ?_⟩
  · intro j h1 h2 h3
    have ej := e j (Int32.le_trans a1 h1) h2
    rw [ej.1] at h3
    rw [ej.2]
    exact b1 j h1 h2 h3
  · intro h0 x h1 h2
    obtain ⟨j, c1, c2, c3, c4⟩ := b2 h0 x h1 h2
    have ej := e j (Int32.le_trans a1 c1) c2
    exact ⟨j, c1, c2, by rw [ej.1]; exact c3, by rw [ej.2]; exact c4⟩
  · intro h0
    obtain ⟨d1, d2, d3, d4⟩ := b3 h0
    refine ⟨d1, fun x h1 h2 => ?_, ?_, fun j h1 h2 h3 => ?_⟩
    · obtain ⟨j, c1, c2, c3, c4⟩ := d2 x h1 h2
      have ej := e j (Int32.le_trans a1 c1) c2
      exact ⟨j, c1, c2, by rw [ej.1]; exact c3, by rw [ej.2]; exact c4⟩
    · obtain ⟨j, c1, c2, c3, c4⟩ := d3
      have ej := e j (Int32.le_trans a1 c1) c2
      exact ⟨j, c1, c2, by rw [ej.1]; exact c3, by rw [ej.2]; exact c4⟩
    · have ej := e j (Int32.le_trans a1 h1) h2
      rw [ej.1] at h3
      rw [ej.2]
      exact d4 j h1 h2 h3
  · intro h0
    have z := b4 h0
    exact ⟨z.1, z.2.1, by rw [(e _ (Int32.le_trans a1 z.1) z.2.1).1]; exact z.2.2⟩
  · intro h0
    have z := b5 h0
    have z4 := b4 (by lia)
    exact ⟨z.1, z.2.1, by rw [(e _ (by lia) z.2.1).1]; exact z.2.2⟩
  · intro h0
    have z := b6 (by grind)
    exact ⟨z.1, by rw [(e _ (by lia) (by lia)).1]; exact z.2.1, z.2.2⟩
theorem q_J_one {kd gr : Int32 → Int32} {f s g o c p1 p2 r : Int32} (J : q_J kd gr f s g o c p1 p2 r) (hs : s < 240) (ek : kd s = 0) : q_J kd gr f (s + 1) g o c p1 p2 1 := by
  obtain ⟨a1, a2, a3, a4, a5, a6, a7, V, b1, b2, b3, b4, b5, b6⟩ := J
  have e1 : s + 1 - 1 = s := by lia
  refine ⟨a1, by lia, by lia, a4, a5, a6, a7, q_V_add a1 hs V (by grind), ?_, ?_, ?_, ?_, ?_, ?_⟩
  · intro j h1 h2 h3
    by_cases q : j = s
    · subst q; grind
    · exact b1 j h1 (by lia) h3
  · intro h0 x h1 h2
    obtain ⟨j, c1, c2, c3⟩ := b2 h0 x h1 h2
    exact ⟨j, c1, by lia, c3⟩
  · intro h0
    obtain ⟨d1, d2, d3, d4⟩ := b3 h0
    refine ⟨d1, fun x h1 h2 => ?_, ?_, fun j h1 h2 h3 => ?_⟩
    · obtain ⟨j, c1, c2, c3⟩ := d2 x h1 h2
      exact ⟨j, c1, by lia, c3⟩
    · obtain ⟨j, c1, c2, c3⟩ := d3
      exact ⟨j, c1, by lia, c3⟩
    · by_cases q : j = s
      · subst q; grind
      · exact d4 j h1 (by lia) h3
  · intro h0
    have z := b4 h0
    exact ⟨z.1, by lia, z.2.2⟩
  · intro h0
    have z := b5 h0
    exact ⟨z.1, by lia, z.2.2⟩
  · intro h0
    rw [e1]
    exact ⟨by lia, ek, fun h => by have z := b4 h; lia⟩
theorem q_J_star {kd gr : Int32 → Int32} {f s g o c p1 p2 r : Int32} (J : q_J kd gr f s g o c p1 p2 r) (hr : r ≠ 0) (hc : c < 2) : q_J kd gr f s g o (c + 1) (if c = 0 then s - 1 else p1) (if c = 0 then p2 else s - 1) 0 := by
  obtain ⟨a1, a2, a3, a4, a5, a6, a7, V, b1, b2, b3, b4, b5, b6⟩ := J
  have z := b6 hr
  refine ⟨a1, a2, a3, a4, a5, by lia, by lia, V, b1, b2, b3, ?_, ?_, fun h => absurd rfl h⟩
  · intro _
    split
    · exact ⟨by lia, by lia, z.2.1⟩
    · exact b4 (by lia)
  · intro h
    have q : ¬ c = 0 := by lia
    rw [if_neg q, if_neg q]
    have z2 := z.2.2 (by lia)
    exact ⟨z2, by lia, z.2.1⟩
theorem q_J_open {kd gr : Int32 → Int32} {f s g o c p1 p2 r : Int32} (J : q_J kd gr f s g o c p1 p2 r) (hs : s < 240) (ho : o = 0) (hg : g < 3) (ek : kd s = 1) (eg : gr s = g + 1) : q_J kd gr f (s + 1) (g + 1) 1 c p1 p2 0 := by
  obtain ⟨a1, a2, a3, a4, a5, a6, a7, V, b1, b2, b3, b4, b5, b6⟩ := J
  refine ⟨a1, by lia, by lia, by lia, by lia, a6, a7, q_V_add a1 hs V ⟨fun _ j h1 h2 h3 => ?_, fun h => ?_, fun h => ?_⟩, ?_, fun h => absurd h (by decide), fun _ => ⟨by lia, fun x h1 h2 => ?_, ⟨s, a2, by lia, ek, eg⟩, fun j h1 h2 h3 => ?_⟩, ?_, ?_, fun h => absurd rfl h⟩
  · have z := b1 j h1 h2 h3
    intro e
    rw [e, eg] at z
    lia
  · rw [ek] at h; exact absurd h (by decide)
  · rw [ek] at h; exact absurd h (by decide)
  · intro j h1 h2 h3
    by_cases q : j = s
    · subst q; lia
    · have z := b1 j h1 (by lia) h3
      lia
  · obtain ⟨j, c1, c2, c3⟩ := b2 ho x h1 (by lia)
    exact ⟨j, c1, by lia, c3⟩
  · by_cases q : j = s
    · subst q; rw [ek] at h3; exact absurd h3 (by decide)
    · have z := b1 j h1 (by lia) (Or.inr h3)
      lia
  · intro h0
    have z := b4 h0
    exact ⟨z.1, by lia, z.2.2⟩
  · intro h0
    have z := b5 h0
    exact ⟨z.1, by lia, z.2.2⟩
theorem q_J_close {kd gr : Int32 → Int32} {f s g o c p1 p2 r : Int32} (J : q_J kd gr f s g o c p1 p2 r) (hs : s < 240) (ho : o ≠ 0) (ek : kd s = 2) (eg : gr s = g) : q_J kd gr f (s + 1) g 0 c p1 p2 0 := by
  obtain ⟨a1, a2, a3, a4, a5, a6, a7, V, b1, b2, b3, b4, b5, b6⟩ := J
  obtain ⟨d1, d2, d3, d4⟩ := b3 ho
  refine ⟨a1, by lia, by lia, a4, a5, a6, a7, q_V_add a1 hs V ⟨fun h => ?_, fun h => ⟨?_, fun j h1 h2 h3 => ?_⟩, fun h => ?_⟩, ?_, fun _ x h1 h2 => ?_, fun h => absurd rfl h, ?_, ?_, fun h => absurd rfl h⟩
  · rw [ek] at h; exact absurd h (by decide)
  · rw [eg]; exact d3
  · have z := d4 j h1 h2 h3
    rw [eg]
    intro e
    lia
  · rw [ek] at h; exact absurd h (by decide)
  · intro j h1 h2 h3
    by_cases q : j = s
    · subst q; lia
    · exact b1 j h1 (by lia) h3
  · by_cases q : x = g
    · subst q; exact ⟨s, a2, by lia, ek, eg⟩
    · obtain ⟨j, c1, c2, c3⟩ := d2 x h1 (by lia)
      exact ⟨j, c1, by lia, c3⟩
  · intro h0
    have z := b4 h0
    exact ⟨z.1, by lia, z.2.2⟩
  · intro h0
    have z := b5 h0
    exact ⟨z.1, by lia, z.2.2⟩
theorem q_J_same {kd gr : Int32 → Int32} {f s g o c p1 p2 r x : Int32} (J : q_J kd gr f s g o c p1 p2 r) (hs : s < 240) (hx : 1 ≤ x) (h0 : o = 0 → x ≤ g) (h1 : o ≠ 0 → x < g) (ek : kd s = 3) (eg : gr s = x) : q_J kd gr f (s + 1) g o c p1 p2 0 := by
  obtain ⟨a1, a2, a3, a4, a5, a6, a7, V, b1, b2, b3, b4, b5, b6⟩ := J
  refine ⟨a1, by lia, by lia, a4, a5, a6, a7, q_V_add a1 hs V ⟨fun h => ?_, fun h => ?_, fun h => ?_⟩, ?_, fun ho y h2 h3 => ?_, fun ho => ?_, ?_, ?_, fun h => absurd rfl h⟩
  · rw [ek] at h; exact absurd h (by decide)
  · rw [ek] at h; exact absurd h (by decide)
  · rw [eg]
    by_cases q : o = 0
    · exact b2 q x hx (h0 q)
    · exact (b3 q).2.1 x hx (h1 q)
  · intro j h2 h3 h4
    by_cases q : j = s
    · subst q; rw [ek] at h4; exact absurd h4 (by decide)
    · exact b1 j h2 (by lia) h4
  · obtain ⟨j, c1, c2, c3⟩ := b2 ho y h2 h3
    exact ⟨j, c1, by lia, c3⟩
  · obtain ⟨d1, d2, d3, d4⟩ := b3 ho
    refine ⟨d1, fun y h2 h3 => ?_, ?_, fun j h2 h3 h4 => ?_⟩
    · obtain ⟨j, c1, c2, c3⟩ := d2 y h2 h3
      exact ⟨j, c1, by lia, c3⟩
    · obtain ⟨j, c1, c2, c3⟩ := d3
      exact ⟨j, c1, by lia, c3⟩
    · by_cases q : j = s
      · subst q; rw [ek] at h4; exact absurd h4 (by decide)
      · exact d4 j h2 (by lia) h4
  · intro h2
    have z := b4 h2
    exact ⟨z.1, by lia, z.2.2⟩
  · intro h2
    have z := b5 h2
    exact ⟨z.1, by lia, z.2.2⟩
theorem q_J_end {kd gr : Int32 → Int32} {f s g o c p1 p2 r fs ss : Int32} (J : q_J kd gr f s g o c p1 p2 r) (e1 : fs = if c < 1 then s else p1) (e2 : ss = if c < 2 then s else p2) : q_PV kd gr f fs ss s := by
  obtain ⟨a1, a2, a3, a4, a5, a6, a7, V, b1, b2, b3, b4, b5, b6⟩ := J
  refine ⟨a1, ?_, ?_, ?_, a3, V, ?_, ?_⟩ <;> grind
theorem q_J_one2 {kd gr kd' gr' : Int32 → Int32} {f s g o c p1 p2 r f' s' g' o' c' p1' p2' r' : Int32} (J : q_J kd gr f s g o c p1 p2 r) (e : ∀ j, 0 ≤ j → j < s → kd' j = kd j ∧ gr' j = gr j) (hs : s < 240) (ek : kd' s = 0) (e1 : f' = f) (e2 : s' = s + 1) (e3 : g' = g) (e4 : o' = o) (e5 : c' = c) (e6 : p1' = p1) (e7 : p2' = p2) (e8 : r' = 1) : q_J kd' gr' f' s' g' o' c' p1' p2' r' := by
  subst e1 e2 e3 e4 e5 e6 e7 e8
  exact q_J_one (q_J_eq (kd' := kd') (gr' := gr') J e rfl rfl rfl rfl rfl rfl rfl (Or.inl rfl)) hs ek
theorem q_J_star2 {kd gr kd' gr' : Int32 → Int32} {f s g o c p1 p2 r f' s' g' o' c' p1' p2' r' : Int32} (J : q_J kd gr f s g o c p1 p2 r) (e : ∀ j, 0 ≤ j → j < s → kd' j = kd j ∧ gr' j = gr j) (hr : r ≠ 0) (hc : c < 2) (e1 : f' = f) (e2 : s' = s) (e3 : g' = g) (e4 : o' = o) (e5 : c' = c + 1) (e6 : p1' = if c = 0 then s - 1 else p1) (e7 : p2' = if c = 0 then p2 else s - 1) (e8 : r' = 0) : q_J kd' gr' f' s' g' o' c' p1' p2' r' := by
  subst e1 e2 e3 e4 e5 e6 e7 e8
  exact q_J_star (q_J_eq (kd' := kd') (gr' := gr') J e rfl rfl rfl rfl rfl rfl rfl (Or.inl rfl)) hr hc
theorem q_J_open2 {kd gr kd' gr' : Int32 → Int32} {f s g o c p1 p2 r f' s' g' o' c' p1' p2' r' : Int32} (J : q_J kd gr f s g o c p1 p2 r) (e : ∀ j, 0 ≤ j → j < s → kd' j = kd j ∧ gr' j = gr j) (hs : s < 240) (ho : o = 0) (hg : g < 3) (ek : kd' s = 1) (eg : gr' s = g + 1) (e1 : f' = f) (e2 : s' = s + 1) (e3 : g' = g + 1) (e4 : o' = 1) (e5 : c' = c) (e6 : p1' = p1) (e7 : p2' = p2) (e8 : r' = 0) : q_J kd' gr' f' s' g' o' c' p1' p2' r' := by
  subst e1 e2 e3 e4 e5 e6 e7 e8
  exact q_J_open (q_J_eq (kd' := kd') (gr' := gr') J e rfl rfl rfl rfl rfl rfl rfl (Or.inl rfl)) hs ho hg ek eg
theorem q_J_close2 {kd gr kd' gr' : Int32 → Int32} {f s g o c p1 p2 r f' s' g' o' c' p1' p2' r' : Int32} (J : q_J kd gr f s g o c p1 p2 r) (e : ∀ j, 0 ≤ j → j < s → kd' j = kd j ∧ gr' j = gr j) (hs : s < 240) (ho : o ≠ 0) (ek : kd' s = 2) (eg : gr' s = g) (e1 : f' = f) (e2 : s' = s + 1) (e3 : g' = g) (e4 : o' = 0) (e5 : c' = c) (e6 : p1' = p1) (e7 : p2' = p2) (e8 : r' = 0) : q_J kd' gr' f' s' g' o' c' p1' p2' r' := by
  subst e1 e2 e3 e4 e5 e6 e7 e8
  exact q_J_close (q_J_eq (kd' := kd') (gr' := gr') J e rfl rfl rfl rfl rfl rfl rfl (Or.inl rfl)) hs ho ek eg
theorem q_J_same2 {kd gr kd' gr' : Int32 → Int32} {f s g o c p1 p2 r f' s' g' o' c' p1' p2' r' x : Int32} (J : q_J kd gr f s g o c p1 p2 r) (e : ∀ j, 0 ≤ j → j < s → kd' j = kd j ∧ gr' j = gr j) (hs : s < 240) (hx : 1 ≤ x) (h0 : o = 0 → x ≤ g) (h1 : o ≠ 0 → x < g) (ek : kd' s = 3) (eg : gr' s = x) (e1 : f' = f) (e2 : s' = s + 1) (e3 : g' = g) (e4 : o' = o) (e5 : c' = c) (e6 : p1' = p1) (e7 : p2' = p2) (e8 : r' = 0) : q_J kd' gr' f' s' g' o' c' p1' p2' r' := by
  subst e1 e2 e3 e4 e5 e6 e7 e8
  exact q_J_same (q_J_eq (kd' := kd') (gr' := gr') J e rfl rfl rfl rfl rfl rfl rfl (Or.inl rfl)) hs hx h0 h1 ek eg
theorem q_J_end2 {kd gr kd' gr' : Int32 → Int32} {f s g o c p1 p2 r f' fs ss t : Int32} (J : q_J kd gr f s g o c p1 p2 r) (e : ∀ j, 0 ≤ j → j < s → kd' j = kd j ∧ gr' j = gr j) (e1 : f' = f) (e2 : fs = if c < 1 then s else p1) (e3 : ss = if c < 2 then s else p2) (e4 : t = s) : q_PV kd' gr' f' fs ss t := by
  subst e1 e4
  exact q_J_end (q_J_eq (kd' := kd') (gr' := gr') J e rfl rfl rfl rfl rfl rfl rfl (Or.inl rfl)) e2 e3
theorem q_PV_eq {kd gr kd' gr' : Int32 → Int32} {f fs ss t f' fs' ss' t' : Int32} (P : q_PV kd gr f fs ss t) (e : ∀ j, 0 ≤ j → j < t → kd' j = kd j ∧ gr' j = gr j) (e1 : f' = f) (e2 : fs' = fs) (e3 : ss' = ss) (e4 : t' = t) : q_PV kd' gr' f' fs' ss' t' := by
  subst e1 e2 e3 e4
  obtain ⟨a1, a2, a3, a4, a5, V, b1, b2⟩ := P
  refine ⟨a1, a2, a3, a4, a5, q_V_eq a1 V e, fun h => ?_, fun h => ?_⟩
  · exact ⟨(b1 h).1, by rw [(e _ (by lia) h).1]; exact (b1 h).2⟩
  · rw [(e _ (by lia) h).1]; exact b2 h
theorem q_J_nil {kd gr : Int32 → Int32} {s f o c g p1 p2 r : Int32} (h0 : 0 ≤ s) (h1 : s ≤ 240) (e1 : f = s) (e2 : g = 0) (e3 : o = 0) (e4 : c = 0) (e5 : r = 0) : q_J kd gr f s g o c p1 p2 r := by
  subst e1 e2 e3 e4 e5
  refine ⟨h0, Int32.le_refl _, h1, by decide, by decide, by decide, by decide, fun i a b => ?_, fun j a b => ?_, fun _ x a b => ?_, fun h => absurd rfl h, fun h => absurd h (by decide), fun h => absurd h (by decide), fun h => absurd rfl h⟩
  · exact absurd b (by lia)
  · exact absurd b (by lia)
  · exact absurd b (by lia)
set_option maxHeartbeats 2000000 in
theorem p_Pr_readStar {L : q_L} {W : Nat → Prop} {h0 : z_H} {π : Nat → Nat → Option Nat} {N : Nat} {cu : Nat} {it : Nat} {pt : Nat} {tx : Nat} {h : z_H} {v0 : Nat} (T : q_U L W h0 π h) (kv0 : qκ L v0 = 9) (kcu : qκ L cu = 3) (pcu : π v0 0 = some cu) (kit : qκ L it = 5) (pit : π v0 1 = some it) (kpt : qκ L pt = 8) (ppt : π v0 2 = some pt) (ktx : qκ L tx = 11) (ptx : π cu 0 = some tx) (ctx : qhi L tx 1 = 240) (w0 : W v0) (wc : W cu) (wi : W it) (wi1 : W (it + 1)) (wi2 : W (it + 2)) (wi3 : W (it + 3)) (wi4 : W (it + 4)) (wp : W pt) (J : q_J (vA h (it + 1)) (vA h (it + 2)) (vI h pt 2) (vI h it 4) (vI h pt 6) (vI h v0 5) (vI h v0 4) (vI h pt 4) (vI h pt 5) (vI h v0 6)) (z : vI h it 4 ≤ vI h cu 1) (hat : vI h cu 1 < 240) : qk (f_Pr_readStar N v0 h) (fun r => q_U L W h0 π r.2 ∧ (r.1 = 0 ∨ r.1 = 1) ∧ (r.1 = 1 → q_J (vA r.2 (it + 1)) (vA r.2 (it + 2)) (vI r.2 pt 2) (vI r.2 it 4) (vI r.2 pt 6) (vI r.2 v0 5) (vI r.2 v0 4) (vI r.2 pt 4) (vI r.2 pt 5) (vI r.2 v0 6)) ∧ (r.1 = 1 → vI r.2 it 4 ≤ vI r.2 cu 1) ∧ (∀ a k, ¬ (a = cu ∨ a = it ∨ a = pt ∨ a = v0) → vI r.2 a k = vI h a k) ∧ (∀ a j, 0 ≤ j → ¬ (a = it + 1 ∨ a = it + 2) → vA r.2 a j = vA h a j) ∧ (∀ j, 0 ≤ j → j < vI h it 4 → vA r.2 (it + 1) j = vA h (it + 1) j ∧ vA r.2 (it + 2) j = vA h (it + 2) j) ∧ (vI h it 4 ≤ vI r.2 it 4) ∧ (vI r.2 pt 2 = vI h pt 2)) := by
  have hr_tx := q_rowhi T ktx
  have cit := q_CIt T kit
  have ccu := q_CCur T kcu
  unfold q_C_It at cit
  have tit := T.2.2.2.1 it 4
  have tpt := T.2.2.2.1 pt 6
  have tcu := T.2.2.2.1 cu 1
  rw [ccu.1.1, ccu.1.2] at tcu
  rw [cit.1.1, cit.1.2] at tit
  unfold f_Pr_readStar
  refine r_Pr_6 T kv0 ?_
  intro x1 ex1
  subst ex1
  refine qk_if (fun cc1 => ?_) (fun cc1 => ?_)
  · skip
    unfold f_Pr_readStar_15
    refine r_Pr_0 T kv0 pcu ?_
    refine r_Cur_o T kcu ?_
    refine c_Cur_refuse (v0 := cu) (v1 := 0) T kcu (by first | with_reducible assumption | grind | grind (ematch := 40) (gen := 40) (liaSteps := 300000) | lia) ?_
    intro yr3i2 hr3i2 Tr3i2 gr3i2_0 gr3i2_1 gr3i2_2
    dsimp only
    refine qk_zB (by first | with_reducible assumption | grind | grind (ematch := 40) (gen := 40) (liaSteps := 300000) | lia) ?_
    refine qk_some ?_
    exact ⟨Tr3i2, (by first | with_reducible assumption | grind | grind (ematch := 40) (gen := 40) (liaSteps := 300000) | lia), (by first | with_reducible assumption | (intro yy; first | (exact absurd yy (by grind)) | exact q_J_star2 J (by grind) (by grind) (by grind) (by grind) (by grind) (by grind) (by grind) (by grind) (by grind) (by grind) (by grind)) | grind), (by first | with_reducible assumption | grind | grind (ematch := 40) (gen := 40) (liaSteps := 300000) | lia), (by first | with_reducible assumption | grind | grind (ematch := 40) (gen := 40) (liaSteps := 300000) | lia), (by first | with_reducible assumption | grind | grind (ematch := 40) (gen := 40) (liaSteps := 300000) | lia), (by first | with_reducible assumption | grind | grind (ematch := 40) (gen := 40) (liaSteps := 300000) | lia), (by first | with_reducible assumption | grind | grind (ematch := 40) (gen := 40) (liaSteps := 300000) | lia), (by first | with_reducible assumption | grind | grind (ematch := 40) (gen := 40) (liaSteps := 300000) | lia)⟩
  · skip
    refine r_Pr_4 T kv0 ?_
    intro x3 ex3 lx3 ux3
    subst ex3
    refine qk_if (fun cc3 => ?_) (fun cc3 => ?_)
    · skip
      unfold f_Pr_readStar_15
      refine r_Pr_0 T kv0 pcu ?_
      refine r_Cur_o T kcu ?_
      refine c_Cur_refuse (v0 := cu) (v1 := 0) T kcu (by first | with_reducible assumption | grind | grind (ematch := 40) (gen := 40) (liaSteps := 300000) | lia) ?_
      intro yr3i4 hr3i4 Tr3i4 gr3i4_0 gr3i4_1 gr3i4_2
      dsimp only
      refine qk_zB (by first | with_reducible assumption | grind | grind (ematch := 40) (gen := 40) (liaSteps := 300000) | lia) ?_
      refine qk_some ?_
      exact ⟨Tr3i4, (by first | with_reducible assumption | grind | grind (ematch := 40) (gen := 40) (liaSteps := 300000) | lia), (by first | with_reducible assumption | (intro yy; first | (exact absurd yy (by grind)) | exact q_J_star2 J (by grind) (by grind) (by grind) (by grind) (by grind) (by grind) (by grind) (by grind) (by grind) (by grind) (by grind)) | grind), (by first | with_reducible assumption | grind | grind (ematch := 40) (gen := 40) (liaSteps := 300000) | lia), (by first | with_reducible assumption | grind | grind (ematch := 40) (gen := 40) (liaSteps := 300000) | lia), (by first | with_reducible assumption | grind | grind (ematch := 40) (gen := 40) (liaSteps := 300000) | lia), (by first | with_reducible assumption | grind | grind (ematch := 40) (gen := 40) (liaSteps := 300000) | lia), (by first | with_reducible assumption | grind | grind (ematch := 40) (gen := 40) (liaSteps := 300000) | lia), (by first | with_reducible assumption | grind | grind (ematch := 40) (gen := 40) (liaSteps := 300000) | lia)⟩
    · skip
      refine r_Pr_4 T kv0 ?_
      intro x5 ex5 lx5 ux5
      subst ex5
      refine qk_if (fun cc5 => ?_) (fun cc5 => ?_)
      · skip
        refine r_Pr_2 T kv0 ppt ?_
        refine r_Pr_1 T kv0 pit ?_
        refine r_It_4 T kit ?_
        intro x13 ex13 lx13 ux13
        subst ex13
        refine w_Pt_4 T kpt (by first | with_reducible assumption | grind | grind (ematch := 40) (gen := 40) (liaSteps := 300000) | lia) (by first | with_reducible assumption | grind | grind (ematch := 40) (gen := 40) (liaSteps := 300000) | lia) (by first | with_reducible assumption | grind | grind (ematch := 40) (gen := 40) (liaSteps := 300000) | lia) ?_
        intro h14 Th14 ih14 ah14
        unfold f_Pr_readStar_66
        refine r_Pr_4 Th14 kv0 ?_
        intro x1i6 ex1i6 lx1i6 ux1i6
        subst ex1i6
        refine w_Pr_4 Th14 kv0 (by first | with_reducible assumption | grind | grind (ematch := 40) (gen := 40) (liaSteps := 300000) | lia) (by first | with_reducible assumption | grind | grind (ematch := 40) (gen := 40) (liaSteps := 300000) | lia) (by first | with_reducible assumption | grind | grind (ematch := 40) (gen := 40) (liaSteps := 300000) | lia) ?_
        intro h2i6 Th2i6 ih2i6 ah2i6
        refine w_Pr_6 Th2i6 kv0 (by first | with_reducible assumption | grind | grind (ematch := 40) (gen := 40) (liaSteps := 300000) | lia) ?_
        intro h3i6 Th3i6 ih3i6 ah3i6
        refine r_Pr_0 Th3i6 kv0 pcu ?_
        refine r_Cur_1 Th3i6 kcu ?_
        intro x5i6 ex5i6 lx5i6 ux5i6
        subst ex5i6
        refine w_Cur_1 Th3i6 kcu (by first | with_reducible assumption | grind | grind (ematch := 40) (gen := 40) (liaSteps := 300000) | lia) (q_inc01 (Th3i6.2.2.2.1 _ 1) (q_CCur Th3i6 kcu)) (by first | exact q_inc1 (by first | with_reducible assumption | grind -lia | grind) (q_inc00 (Th3i6.2.2.2.1 _ 1) (q_CCur Th3i6 kcu)) | exact q_inc1b (by first | with_reducible assumption | grind -lia | grind) (q_inc00 (Th3i6.2.2.2.1 _ 1) (q_CCur Th3i6 kcu))) ?_
        intro h6i6 Th6i6 ih6i6 ah6i6
        refine qk_some ?_
        exact ⟨Th6i6, (by first | with_reducible assumption | grind | grind (ematch := 40) (gen := 40) (liaSteps := 300000) | lia), (by first | with_reducible assumption | (intro yy; first | (exact absurd yy (by grind)) | exact q_J_star2 J (by grind) (by grind) (by grind) (by grind) (by grind) (by grind) (by grind) (by grind) (by grind) (by grind) (by grind)) | grind), (by intro yy; exact q_zz (by grind -lia) (by first | grind -lia | grind) z (by first | with_reducible assumption | exact q_lt1 hat (by grind -lia) (by grind -lia) | grind -lia | grind) (by first | grind -lia | grind)), (by first | with_reducible assumption | grind | grind (ematch := 40) (gen := 40) (liaSteps := 300000) | lia), (by first | with_reducible assumption | grind | grind (ematch := 40) (gen := 40) (liaSteps := 300000) | lia), (by first | with_reducible assumption | grind | grind (ematch := 40) (gen := 40) (liaSteps := 300000) | lia), (by first | with_reducible assumption | grind | grind (ematch := 40) (gen := 40) (liaSteps := 300000) | lia), (by first | with_reducible assumption | grind | grind (ematch := 40) (gen := 40) (liaSteps := 300000) | lia)⟩
      · skip
        refine r_Pr_2 T kv0 ppt ?_
        refine r_Pr_1 T kv0 pit ?_
        refine r_It_4 T kit ?_
        intro x9 ex9 lx9 ux9
        subst ex9
        refine w_Pt_5 T kpt (by first | with_reducible assumption | grind | grind (ematch := 40) (gen := 40) (liaSteps := 300000) | lia) (by first | with_reducible assumption | grind | grind (ematch := 40) (gen := 40) (liaSteps := 300000) | lia) (by first | with_reducible assumption | grind | grind (ematch := 40) (gen := 40) (liaSteps := 300000) | lia) ?_
        intro h10 Th10 ih10 ah10
        unfold f_Pr_readStar_66
        refine r_Pr_4 Th10 kv0 ?_
        intro x1i7 ex1i7 lx1i7 ux1i7
        subst ex1i7
        refine w_Pr_4 Th10 kv0 (by first | with_reducible assumption | grind | grind (ematch := 40) (gen := 40) (liaSteps := 300000) | lia) (by first | with_reducible assumption | grind | grind (ematch := 40) (gen := 40) (liaSteps := 300000) | lia) (by first | with_reducible assumption | grind | grind (ematch := 40) (gen := 40) (liaSteps := 300000) | lia) ?_
        intro h2i7 Th2i7 ih2i7 ah2i7
        refine w_Pr_6 Th2i7 kv0 (by first | with_reducible assumption | grind | grind (ematch := 40) (gen := 40) (liaSteps := 300000) | lia) ?_
        intro h3i7 Th3i7 ih3i7 ah3i7
        refine r_Pr_0 Th3i7 kv0 pcu ?_
        refine r_Cur_1 Th3i7 kcu ?_
        intro x5i7 ex5i7 lx5i7 ux5i7
        subst ex5i7
        refine w_Cur_1 Th3i7 kcu (by first | with_reducible assumption | grind | grind (ematch := 40) (gen := 40) (liaSteps := 300000) | lia) (q_inc01 (Th3i7.2.2.2.1 _ 1) (q_CCur Th3i7 kcu)) (by first | exact q_inc1 (by first | with_reducible assumption | grind -lia | grind) (q_inc00 (Th3i7.2.2.2.1 _ 1) (q_CCur Th3i7 kcu)) | exact q_inc1b (by first | with_reducible assumption | grind -lia | grind) (q_inc00 (Th3i7.2.2.2.1 _ 1) (q_CCur Th3i7 kcu))) ?_
        intro h6i7 Th6i7 ih6i7 ah6i7
        refine qk_some ?_
        exact ⟨Th6i7, (by first | with_reducible assumption | grind | grind (ematch := 40) (gen := 40) (liaSteps := 300000) | lia), (by first | with_reducible assumption | (intro yy; first | (exact absurd yy (by grind)) | exact q_J_star2 J (by grind) (by grind) (by grind) (by grind) (by grind) (by grind) (by grind) (by grind) (by grind) (by grind) (by grind)) | grind), (by intro yy; exact q_zz (by grind -lia) (by first | grind -lia | grind) z (by first | with_reducible assumption | exact q_lt1 hat (by grind -lia) (by grind -lia) | grind -lia | grind) (by first | grind -lia | grind)), (by first | with_reducible assumption | grind | grind (ematch := 40) (gen := 40) (liaSteps := 300000) | lia), (by first | with_reducible assumption | grind | grind (ematch := 40) (gen := 40) (liaSteps := 300000) | lia), (by first | with_reducible assumption | grind | grind (ematch := 40) (gen := 40) (liaSteps := 300000) | lia), (by first | with_reducible assumption | grind | grind (ematch := 40) (gen := 40) (liaSteps := 300000) | lia), (by first | with_reducible assumption | grind | grind (ematch := 40) (gen := 40) (liaSteps := 300000) | lia)⟩
theorem c_Pr_readStar {L : q_L} {W : Nat → Prop} {h0 : z_H} {π : Nat → Nat → Option Nat} {N : Nat} {cu : Nat} {it : Nat} {pt : Nat} {tx : Nat} {h : z_H} {v0 : Nat} {β : Type} {f : Int32 × z_H → Option β} {Q : β → Prop} (T : q_U L W h0 π h) (kv0 : qκ L v0 = 9) (kcu : qκ L cu = 3) (pcu : π v0 0 = some cu) (kit : qκ L it = 5) (pit : π v0 1 = some it) (kpt : qκ L pt = 8) (ppt : π v0 2 = some pt) (ktx : qκ L tx = 11) (ptx : π cu 0 = some tx) (ctx : qhi L tx 1 = 240) (w0 : W v0) (wc : W cu) (wi : W it) (wi1 : W (it + 1)) (wi2 : W (it + 2)) (wi3 : W (it + 3)) (wi4 : W (it + 4)) (wp : W pt) (J : q_J (vA h (it + 1)) (vA h (it + 2)) (vI h pt 2) (vI h it 4) (vI h pt 6) (vI h v0 5) (vI h v0 4) (vI h pt 4) (vI h pt 5) (vI h v0 6)) (z : vI h it 4 ≤ vI h cu 1) (hat : vI h cu 1 < 240) (H : ∀ y h', q_U L W h0 π h' → (y = 0 ∨ y = 1) → (y = 1 → q_J (vA h' (it + 1)) (vA h' (it + 2)) (vI h' pt 2) (vI h' it 4) (vI h' pt 6) (vI h' v0 5) (vI h' v0 4) (vI h' pt 4) (vI h' pt 5) (vI h' v0 6)) → (y = 1 → vI h' it 4 ≤ vI h' cu 1) → (∀ a k, ¬ (a = cu ∨ a = it ∨ a = pt ∨ a = v0) → vI h' a k = vI h a k) → (∀ a j, 0 ≤ j → ¬ (a = it + 1 ∨ a = it + 2) → vA h' a j = vA h a j) → (∀ j, 0 ≤ j → j < vI h it 4 → vA h' (it + 1) j = vA h (it + 1) j ∧ vA h' (it + 2) j = vA h (it + 2) j) → (vI h it 4 ≤ vI h' it 4) → (vI h' pt 2 = vI h pt 2) → qk (f (y, h')) Q) : qk (z_b (f_Pr_readStar N v0 h) f) Q := by
  refine qk_b (p_Pr_readStar T kv0 kcu pcu kit pit kpt ppt ktx ptx ctx w0 wc wi wi1 wi2 wi3 wi4 wp J z hat) ?_
  rintro ⟨y, hz⟩ ⟨Tz, g0, g1, g2, g3, g4, g5, g6, g7⟩
  exact H y hz Tz g0 g1 g2 g3 g4 g5 g6 g7

set_option maxHeartbeats 1000000 in
theorem p_Pr_mayEscape {L : q_L} {W : Nat → Prop} {h0 : z_H} {π : Nat → Nat → Option Nat} {N : Nat} {pt : Nat} {h : z_H} {v0 : Nat} (T : q_U L W h0 π h) (kv0 : qκ L v0 = 9) (kpt : qκ L pt = 8) (ppt : π v0 2 = some pt) : qk (f_Pr_mayEscape N v0 h) (fun r => r.2 = h ∧ (r.1 = 0 ∨ r.1 = 1)) := by
  unfold f_Pr_mayEscape
  refine r_Pr_3 T kv0 ?_
  intro x1 ex1
  subst ex1
  refine qk_if (fun cc1 => ?_) (fun cc1 => ?_)
  · skip
    refine qk_some ?_
    exact ⟨rfl, (by first | with_reducible assumption | grind | grind (ematch := 40) (gen := 40) (liaSteps := 300000) | lia)⟩
  · skip
    refine r_Pr_5 T kv0 ?_
    intro x3 ex3
    subst ex3
    refine qk_if (fun cc2 => ?_) (fun cc2 => ?_)
    · skip
      refine r_Pr_2 T kv0 ppt ?_
      refine r_Pt_6 T kpt ?_
      intro x6 ex6 lx6 ux6
      subst ex6
      refine qk_if (fun cc3 => ?_) (fun cc3 => ?_)
      · skip
        refine qk_some ?_
        exact ⟨rfl, (by first | with_reducible assumption | grind | grind (ematch := 40) (gen := 40) (liaSteps := 300000) | lia)⟩
      · skip
        refine qk_some ?_
        exact ⟨rfl, (by first | with_reducible assumption | grind | grind (ematch := 40) (gen := 40) (liaSteps := 300000) | lia)⟩
    · skip
      refine qk_some ?_
      exact ⟨rfl, (by first | with_reducible assumption | grind | grind (ematch := 40) (gen := 40) (liaSteps := 300000) | lia)⟩
theorem c_Pr_mayEscape {L : q_L} {W : Nat → Prop} {h0 : z_H} {π : Nat → Nat → Option Nat} {N : Nat} {pt : Nat} {h : z_H} {v0 : Nat} {β : Type} {f : Int32 × z_H → Option β} {Q : β → Prop} (T : q_U L W h0 π h) (kv0 : qκ L v0 = 9) (kpt : qκ L pt = 8) (ppt : π v0 2 = some pt) (H : ∀ y, (y = 0 ∨ y = 1) → qk (f (y, h)) Q) : qk (z_b (f_Pr_mayEscape N v0 h) f) Q := by
  refine qk_b (p_Pr_mayEscape T kv0 kpt ppt) ?_
  rintro ⟨y, hz⟩ ⟨hy, g0⟩
  try dsimp only at *
  subst hy
  exact H y g0

set_option maxHeartbeats 2000000 in
theorem p_Pr_openGroup {L : q_L} {W : Nat → Prop} {h0 : z_H} {π : Nat → Nat → Option Nat} {N : Nat} {cu : Nat} {it : Nat} {pt : Nat} {tx : Nat} {h : z_H} {v0 : Nat} (T : q_U L W h0 π h) (kv0 : qκ L v0 = 9) (kcu : qκ L cu = 3) (pcu : π v0 0 = some cu) (kit : qκ L it = 5) (pit : π v0 1 = some it) (kpt : qκ L pt = 8) (ppt : π v0 2 = some pt) (ktx : qκ L tx = 11) (ptx : π cu 0 = some tx) (ctx : qhi L tx 1 = 240) (w0 : W v0) (wc : W cu) (wi : W it) (wi1 : W (it + 1)) (wi2 : W (it + 2)) (wi3 : W (it + 3)) (wi4 : W (it + 4)) (wp : W pt) (J : q_J (vA h (it + 1)) (vA h (it + 2)) (vI h pt 2) (vI h it 4) (vI h pt 6) (vI h v0 5) (vI h v0 4) (vI h pt 4) (vI h pt 5) (vI h v0 6)) (z : vI h it 4 ≤ vI h cu 1) (hat : vI h cu 1 + 1 < 240) : qk (f_Pr_openGroup N v0 h) (fun r => q_U L W h0 π r.2 ∧ (r.1 = 0 ∨ r.1 = 1) ∧ (r.1 = 1 → q_J (vA r.2 (it + 1)) (vA r.2 (it + 2)) (vI r.2 pt 2) (vI r.2 it 4) (vI r.2 pt 6) (vI r.2 v0 5) (vI r.2 v0 4) (vI r.2 pt 4) (vI r.2 pt 5) (vI r.2 v0 6)) ∧ (r.1 = 1 → vI r.2 it 4 ≤ vI r.2 cu 1) ∧ (∀ a k, ¬ (a = cu ∨ a = it ∨ a = pt ∨ a = v0) → vI r.2 a k = vI h a k) ∧ (∀ a j, 0 ≤ j → ¬ (a = it + 1 ∨ a = it + 2) → vA r.2 a j = vA h a j) ∧ (∀ j, 0 ≤ j → j < vI h it 4 → vA r.2 (it + 1) j = vA h (it + 1) j ∧ vA r.2 (it + 2) j = vA h (it + 2) j) ∧ (vI h it 4 ≤ vI r.2 it 4) ∧ (vI r.2 pt 2 = vI h pt 2)) := by
  have hr_tx := q_rowhi T ktx
  have cit := q_CIt T kit
  have ccu := q_CCur T kcu
  unfold q_C_It at cit
  have tit := T.2.2.2.1 it 4
  have tpt := T.2.2.2.1 pt 6
  have tcu := T.2.2.2.1 cu 1
  rw [ccu.1.1, ccu.1.2] at tcu
  rw [cit.1.1, cit.1.2] at tit
  unfold f_Pr_openGroup
  refine r_Pr_5 T kv0 ?_
  intro x1 ex1
  subst ex1
  refine qk_if (fun cc1 => ?_) (fun cc1 => ?_)
  · skip
    refine r_Pr_2 T kv0 ppt ?_
    refine r_Pt_6 T kpt ?_
    intro x4 ex4 lx4 ux4
    subst ex4
    refine qk_if (fun cc2 => ?_) (fun cc2 => ?_)
    · skip
      unfold f_Pr_openGroup_18
      refine r_Pr_0 T kv0 pcu ?_
      refine r_Cur_o T kcu ?_
      refine c_Cur_refuse (v0 := cu) (v1 := 0) T kcu (by first | with_reducible assumption | grind | grind (ematch := 40) (gen := 40) (liaSteps := 300000) | lia) ?_
      intro yr3i3 hr3i3 Tr3i3 gr3i3_0 gr3i3_1 gr3i3_2
      dsimp only
      refine qk_zB (by first | with_reducible assumption | grind | grind (ematch := 40) (gen := 40) (liaSteps := 300000) | lia) ?_
      refine qk_some ?_
      exact ⟨Tr3i3, (by first | with_reducible assumption | grind | grind (ematch := 40) (gen := 40) (liaSteps := 300000) | lia), (by first | with_reducible assumption | (intro yy; first | (exact absurd yy (by grind)) | exact q_J_open2 J (by grind) (by grind) (by grind) (by grind) (by grind) (by grind) (by grind) (by grind) (by grind) (by grind) (by grind) (by grind) (by grind) (by grind)) | grind), (by first | with_reducible assumption | grind | grind (ematch := 40) (gen := 40) (liaSteps := 300000) | lia), (by first | with_reducible assumption | grind | grind (ematch := 40) (gen := 40) (liaSteps := 300000) | lia), (by first | with_reducible assumption | grind | grind (ematch := 40) (gen := 40) (liaSteps := 300000) | lia), (by first | with_reducible assumption | grind | grind (ematch := 40) (gen := 40) (liaSteps := 300000) | lia), (by first | with_reducible assumption | grind | grind (ematch := 40) (gen := 40) (liaSteps := 300000) | lia), (by first | with_reducible assumption | grind | grind (ematch := 40) (gen := 40) (liaSteps := 300000) | lia)⟩
    · skip
      refine r_Pr_2 T kv0 ppt ?_
      refine r_Pt_6 T kpt ?_
      intro x7 ex7 lx7 ux7
      subst ex7
      refine w_Pt_6 T kpt (by first | with_reducible assumption | grind | grind (ematch := 40) (gen := 40) (liaSteps := 300000) | lia) (by first | with_reducible assumption | grind | grind (ematch := 40) (gen := 40) (liaSteps := 300000) | lia) (by first | with_reducible assumption | grind | grind (ematch := 40) (gen := 40) (liaSteps := 300000) | lia) ?_
      intro h8 Th8 ih8 ah8
      refine w_Pr_5 Th8 kv0 (by first | with_reducible assumption | grind | grind (ematch := 40) (gen := 40) (liaSteps := 300000) | lia) ?_
      intro h9 Th9 ih9 ah9
      refine w_Pr_6 Th9 kv0 (by first | with_reducible assumption | grind | grind (ematch := 40) (gen := 40) (liaSteps := 300000) | lia) ?_
      intro h10 Th10 ih10 ah10
      refine r_Pr_1 Th10 kv0 pit ?_
      refine r_Pr_2 Th10 kv0 ppt ?_
      refine r_Pt_6 Th10 kpt ?_
      intro x13 ex13 lx13 ux13
      subst ex13
      refine r_It_o Th10 kit ?_
      refine c_It_add (v0 := it) (v1 := 1) (v2 := (vI h10 pt 6)) Th10 kit (by first | with_reducible assumption | grind | grind (ematch := 40) (gen := 40) (liaSteps := 300000) | lia) (by first | with_reducible assumption | grind | grind (ematch := 40) (gen := 40) (liaSteps := 300000) | lia) (by first | with_reducible assumption | grind | grind (ematch := 40) (gen := 40) (liaSteps := 300000) | lia) (by first | with_reducible assumption | grind | grind (ematch := 40) (gen := 40) (liaSteps := 300000) | lia) (by first | with_reducible assumption | grind | grind (ematch := 40) (gen := 40) (liaSteps := 300000) | lia) (by first | with_reducible assumption | grind | grind (ematch := 40) (gen := 40) (liaSteps := 300000) | lia) (by first | with_reducible assumption | grind | grind (ematch := 40) (gen := 40) (liaSteps := 300000) | lia) ?_
      intro r15 Tr15 gr15_0 gr15_1 gr15_2 gr15_3
      refine r_Pr_0 Tr15 kv0 pcu ?_
      refine r_Cur_1 Tr15 kcu ?_
      intro x17 ex17 lx17 ux17
      subst ex17
      refine w_Cur_1 Tr15 kcu (by first | with_reducible assumption | grind | grind (ematch := 40) (gen := 40) (liaSteps := 300000) | lia) (q_inc02 (Tr15.2.2.2.1 _ 1) (q_CCur Tr15 kcu)) (by first | exact q_inc2 (by first | with_reducible assumption | grind -lia | grind) (q_inc00 (Tr15.2.2.2.1 _ 1) (q_CCur Tr15 kcu))) ?_
      intro h18 Th18 ih18 ah18
      refine qk_some ?_
      exact ⟨Th18, (by first | with_reducible assumption | grind | grind (ematch := 40) (gen := 40) (liaSteps := 300000) | lia), (by first | with_reducible assumption | (intro yy; first | (exact absurd yy (by grind)) | exact q_J_open2 J (by grind) (by grind) (by grind) (by grind) (by grind) (by grind) (by grind) (by grind) (by grind) (by grind) (by grind) (by grind) (by grind) (by grind)) | grind), (by intro yy; exact q_zz (by grind -lia) (by first | grind -lia | grind) z (by first | with_reducible assumption | exact q_lt1 hat (by grind -lia) (by grind -lia) | grind -lia | grind) (by first | grind -lia | grind)), (by first | with_reducible assumption | grind | grind (ematch := 40) (gen := 40) (liaSteps := 300000) | lia), (by first | with_reducible assumption | grind | grind (ematch := 40) (gen := 40) (liaSteps := 300000) | lia), (by first | with_reducible assumption | grind | grind (ematch := 40) (gen := 40) (liaSteps := 300000) | lia), (by first | with_reducible assumption | grind | grind (ematch := 40) (gen := 40) (liaSteps := 300000) | lia), (by first | with_reducible assumption | grind | grind (ematch := 40) (gen := 40) (liaSteps := 300000) | lia)⟩
  · skip
    unfold f_Pr_openGroup_18
    refine r_Pr_0 T kv0 pcu ?_
    refine r_Cur_o T kcu ?_
    refine c_Cur_refuse (v0 := cu) (v1 := 0) T kcu (by first | with_reducible assumption | grind | grind (ematch := 40) (gen := 40) (liaSteps := 300000) | lia) ?_
    intro yr3i4 hr3i4 Tr3i4 gr3i4_0 gr3i4_1 gr3i4_2
    dsimp only
    refine qk_zB (by first | with_reducible assumption | grind | grind (ematch := 40) (gen := 40) (liaSteps := 300000) | lia) ?_
    refine qk_some ?_
    exact ⟨Tr3i4, (by first | with_reducible assumption | grind | grind (ematch := 40) (gen := 40) (liaSteps := 300000) | lia), (by first | with_reducible assumption | (intro yy; first | (exact absurd yy (by grind)) | exact q_J_open2 J (by grind) (by grind) (by grind) (by grind) (by grind) (by grind) (by grind) (by grind) (by grind) (by grind) (by grind) (by grind) (by grind) (by grind)) | grind), (by first | with_reducible assumption | grind | grind (ematch := 40) (gen := 40) (liaSteps := 300000) | lia), (by first | with_reducible assumption | grind | grind (ematch := 40) (gen := 40) (liaSteps := 300000) | lia), (by first | with_reducible assumption | grind | grind (ematch := 40) (gen := 40) (liaSteps := 300000) | lia), (by first | with_reducible assumption | grind | grind (ematch := 40) (gen := 40) (liaSteps := 300000) | lia), (by first | with_reducible assumption | grind | grind (ematch := 40) (gen := 40) (liaSteps := 300000) | lia), (by first | with_reducible assumption | grind | grind (ematch := 40) (gen := 40) (liaSteps := 300000) | lia)⟩
theorem c_Pr_openGroup {L : q_L} {W : Nat → Prop} {h0 : z_H} {π : Nat → Nat → Option Nat} {N : Nat} {cu : Nat} {it : Nat} {pt : Nat} {tx : Nat} {h : z_H} {v0 : Nat} {β : Type} {f : Int32 × z_H → Option β} {Q : β → Prop} (T : q_U L W h0 π h) (kv0 : qκ L v0 = 9) (kcu : qκ L cu = 3) (pcu : π v0 0 = some cu) (kit : qκ L it = 5) (pit : π v0 1 = some it) (kpt : qκ L pt = 8) (ppt : π v0 2 = some pt) (ktx : qκ L tx = 11) (ptx : π cu 0 = some tx) (ctx : qhi L tx 1 = 240) (w0 : W v0) (wc : W cu) (wi : W it) (wi1 : W (it + 1)) (wi2 : W (it + 2)) (wi3 : W (it + 3)) (wi4 : W (it + 4)) (wp : W pt) (J : q_J (vA h (it + 1)) (vA h (it + 2)) (vI h pt 2) (vI h it 4) (vI h pt 6) (vI h v0 5) (vI h v0 4) (vI h pt 4) (vI h pt 5) (vI h v0 6)) (z : vI h it 4 ≤ vI h cu 1) (hat : vI h cu 1 + 1 < 240) (H : ∀ y h', q_U L W h0 π h' → (y = 0 ∨ y = 1) → (y = 1 → q_J (vA h' (it + 1)) (vA h' (it + 2)) (vI h' pt 2) (vI h' it 4) (vI h' pt 6) (vI h' v0 5) (vI h' v0 4) (vI h' pt 4) (vI h' pt 5) (vI h' v0 6)) → (y = 1 → vI h' it 4 ≤ vI h' cu 1) → (∀ a k, ¬ (a = cu ∨ a = it ∨ a = pt ∨ a = v0) → vI h' a k = vI h a k) → (∀ a j, 0 ≤ j → ¬ (a = it + 1 ∨ a = it + 2) → vA h' a j = vA h a j) → (∀ j, 0 ≤ j → j < vI h it 4 → vA h' (it + 1) j = vA h (it + 1) j ∧ vA h' (it + 2) j = vA h (it + 2) j) → (vI h it 4 ≤ vI h' it 4) → (vI h' pt 2 = vI h pt 2) → qk (f (y, h')) Q) : qk (z_b (f_Pr_openGroup N v0 h) f) Q := by
  refine qk_b (p_Pr_openGroup T kv0 kcu pcu kit pit kpt ppt ktx ptx ctx w0 wc wi wi1 wi2 wi3 wi4 wp J z hat) ?_
  rintro ⟨y, hz⟩ ⟨Tz, g0, g1, g2, g3, g4, g5, g6, g7⟩
  exact H y hz Tz g0 g1 g2 g3 g4 g5 g6 g7

set_option maxHeartbeats 2000000 in
theorem p_Pr_closeGroup {L : q_L} {W : Nat → Prop} {h0 : z_H} {π : Nat → Nat → Option Nat} {N : Nat} {cu : Nat} {it : Nat} {pt : Nat} {tx : Nat} {h : z_H} {v0 : Nat} (T : q_U L W h0 π h) (kv0 : qκ L v0 = 9) (kcu : qκ L cu = 3) (pcu : π v0 0 = some cu) (kit : qκ L it = 5) (pit : π v0 1 = some it) (kpt : qκ L pt = 8) (ppt : π v0 2 = some pt) (ktx : qκ L tx = 11) (ptx : π cu 0 = some tx) (ctx : qhi L tx 1 = 240) (w0 : W v0) (wc : W cu) (wi : W it) (wi1 : W (it + 1)) (wi2 : W (it + 2)) (wi3 : W (it + 3)) (wi4 : W (it + 4)) (wp : W pt) (J : q_J (vA h (it + 1)) (vA h (it + 2)) (vI h pt 2) (vI h it 4) (vI h pt 6) (vI h v0 5) (vI h v0 4) (vI h pt 4) (vI h pt 5) (vI h v0 6)) (z : vI h it 4 ≤ vI h cu 1) (hat : vI h cu 1 + 1 < 240) : qk (f_Pr_closeGroup N v0 h) (fun r => q_U L W h0 π r.2 ∧ (r.1 = 0 ∨ r.1 = 1) ∧ (r.1 = 1 → q_J (vA r.2 (it + 1)) (vA r.2 (it + 2)) (vI r.2 pt 2) (vI r.2 it 4) (vI r.2 pt 6) (vI r.2 v0 5) (vI r.2 v0 4) (vI r.2 pt 4) (vI r.2 pt 5) (vI r.2 v0 6)) ∧ (r.1 = 1 → vI r.2 it 4 ≤ vI r.2 cu 1) ∧ (∀ a k, ¬ (a = cu ∨ a = it ∨ a = pt ∨ a = v0) → vI r.2 a k = vI h a k) ∧ (∀ a j, 0 ≤ j → ¬ (a = it + 1 ∨ a = it + 2) → vA r.2 a j = vA h a j) ∧ (∀ j, 0 ≤ j → j < vI h it 4 → vA r.2 (it + 1) j = vA h (it + 1) j ∧ vA r.2 (it + 2) j = vA h (it + 2) j) ∧ (vI h it 4 ≤ vI r.2 it 4) ∧ (vI r.2 pt 2 = vI h pt 2)) := by
  have hr_tx := q_rowhi T ktx
  have cit := q_CIt T kit
  have ccu := q_CCur T kcu
  unfold q_C_It at cit
  have tit := T.2.2.2.1 it 4
  have tpt := T.2.2.2.1 pt 6
  have tcu := T.2.2.2.1 cu 1
  rw [ccu.1.1, ccu.1.2] at tcu
  rw [cit.1.1, cit.1.2] at tit
  unfold f_Pr_closeGroup
  refine r_Pr_5 T kv0 ?_
  intro x1 ex1
  subst ex1
  refine qk_if (fun cc1 => ?_) (fun cc1 => ?_)
  · skip
    refine r_Pr_0 T kv0 pcu ?_
    refine r_Cur_o T kcu ?_
    refine c_Cur_refuse (v0 := cu) (v1 := 0) T kcu (by first | with_reducible assumption | grind | grind (ematch := 40) (gen := 40) (liaSteps := 300000) | lia) ?_
    intro yr15 hr15 Tr15 gr15_0 gr15_1 gr15_2
    dsimp only
    refine qk_zB (by first | with_reducible assumption | grind | grind (ematch := 40) (gen := 40) (liaSteps := 300000) | lia) ?_
    refine qk_some ?_
    exact ⟨Tr15, (by first | with_reducible assumption | grind | grind (ematch := 40) (gen := 40) (liaSteps := 300000) | lia), (by first | with_reducible assumption | (intro yy; first | (exact absurd yy (by grind)) | exact q_J_close2 J (by grind) (by grind) (by grind) (by grind) (by grind) (by grind) (by grind) (by grind) (by grind) (by grind) (by grind) (by grind) (by grind)) | grind), (by first | with_reducible assumption | grind | grind (ematch := 40) (gen := 40) (liaSteps := 300000) | lia), (by first | with_reducible assumption | grind | grind (ematch := 40) (gen := 40) (liaSteps := 300000) | lia), (by first | with_reducible assumption | grind | grind (ematch := 40) (gen := 40) (liaSteps := 300000) | lia), (by first | with_reducible assumption | grind | grind (ematch := 40) (gen := 40) (liaSteps := 300000) | lia), (by first | with_reducible assumption | grind | grind (ematch := 40) (gen := 40) (liaSteps := 300000) | lia), (by first | with_reducible assumption | grind | grind (ematch := 40) (gen := 40) (liaSteps := 300000) | lia)⟩
  · skip
    refine w_Pr_5 T kv0 (by first | with_reducible assumption | grind | grind (ematch := 40) (gen := 40) (liaSteps := 300000) | lia) ?_
    intro h3 Th3 ih3 ah3
    refine w_Pr_6 Th3 kv0 (by first | with_reducible assumption | grind | grind (ematch := 40) (gen := 40) (liaSteps := 300000) | lia) ?_
    intro h4 Th4 ih4 ah4
    refine r_Pr_1 Th4 kv0 pit ?_
    refine r_Pr_2 Th4 kv0 ppt ?_
    refine r_Pt_6 Th4 kpt ?_
    intro x7 ex7 lx7 ux7
    subst ex7
    refine r_It_o Th4 kit ?_
    refine c_It_add (v0 := it) (v1 := 2) (v2 := (vI h4 pt 6)) Th4 kit (by first | with_reducible assumption | grind | grind (ematch := 40) (gen := 40) (liaSteps := 300000) | lia) (by first | with_reducible assumption | grind | grind (ematch := 40) (gen := 40) (liaSteps := 300000) | lia) (by first | with_reducible assumption | grind | grind (ematch := 40) (gen := 40) (liaSteps := 300000) | lia) (by first | with_reducible assumption | grind | grind (ematch := 40) (gen := 40) (liaSteps := 300000) | lia) (by first | with_reducible assumption | grind | grind (ematch := 40) (gen := 40) (liaSteps := 300000) | lia) (by first | with_reducible assumption | grind | grind (ematch := 40) (gen := 40) (liaSteps := 300000) | lia) (by first | with_reducible assumption | grind | grind (ematch := 40) (gen := 40) (liaSteps := 300000) | lia) ?_
    intro r9 Tr9 gr9_0 gr9_1 gr9_2 gr9_3
    refine r_Pr_0 Tr9 kv0 pcu ?_
    refine r_Cur_1 Tr9 kcu ?_
    intro x11 ex11 lx11 ux11
    subst ex11
    refine w_Cur_1 Tr9 kcu (by first | with_reducible assumption | grind | grind (ematch := 40) (gen := 40) (liaSteps := 300000) | lia) (q_inc02 (Tr9.2.2.2.1 _ 1) (q_CCur Tr9 kcu)) (by first | exact q_inc2 (by first | with_reducible assumption | grind -lia | grind) (q_inc00 (Tr9.2.2.2.1 _ 1) (q_CCur Tr9 kcu))) ?_
    intro h12 Th12 ih12 ah12
    refine qk_some ?_
    exact ⟨Th12, (by first | with_reducible assumption | grind | grind (ematch := 40) (gen := 40) (liaSteps := 300000) | lia), (by first | with_reducible assumption | (intro yy; first | (exact absurd yy (by grind)) | exact q_J_close2 J (by grind) (by grind) (by grind) (by grind) (by grind) (by grind) (by grind) (by grind) (by grind) (by grind) (by grind) (by grind) (by grind)) | grind), (by intro yy; exact q_zz (by grind -lia) (by first | grind -lia | grind) z (by first | with_reducible assumption | exact q_lt1 hat (by grind -lia) (by grind -lia) | grind -lia | grind) (by first | grind -lia | grind)), (by first | with_reducible assumption | grind | grind (ematch := 40) (gen := 40) (liaSteps := 300000) | lia), (by first | with_reducible assumption | grind | grind (ematch := 40) (gen := 40) (liaSteps := 300000) | lia), (by first | with_reducible assumption | grind | grind (ematch := 40) (gen := 40) (liaSteps := 300000) | lia), (by first | with_reducible assumption | grind | grind (ematch := 40) (gen := 40) (liaSteps := 300000) | lia), (by first | with_reducible assumption | grind | grind (ematch := 40) (gen := 40) (liaSteps := 300000) | lia)⟩
theorem c_Pr_closeGroup {L : q_L} {W : Nat → Prop} {h0 : z_H} {π : Nat → Nat → Option Nat} {N : Nat} {cu : Nat} {it : Nat} {pt : Nat} {tx : Nat} {h : z_H} {v0 : Nat} {β : Type} {f : Int32 × z_H → Option β} {Q : β → Prop} (T : q_U L W h0 π h) (kv0 : qκ L v0 = 9) (kcu : qκ L cu = 3) (pcu : π v0 0 = some cu) (kit : qκ L it = 5) (pit : π v0 1 = some it) (kpt : qκ L pt = 8) (ppt : π v0 2 = some pt) (ktx : qκ L tx = 11) (ptx : π cu 0 = some tx) (ctx : qhi L tx 1 = 240) (w0 : W v0) (wc : W cu) (wi : W it) (wi1 : W (it + 1)) (wi2 : W (it + 2)) (wi3 : W (it + 3)) (wi4 : W (it + 4)) (wp : W pt) (J : q_J (vA h (it + 1)) (vA h (it + 2)) (vI h pt 2) (vI h it 4) (vI h pt 6) (vI h v0 5) (vI h v0 4) (vI h pt 4) (vI h pt 5) (vI h v0 6)) (z : vI h it 4 ≤ vI h cu 1) (hat : vI h cu 1 + 1 < 240) (H : ∀ y h', q_U L W h0 π h' → (y = 0 ∨ y = 1) → (y = 1 → q_J (vA h' (it + 1)) (vA h' (it + 2)) (vI h' pt 2) (vI h' it 4) (vI h' pt 6) (vI h' v0 5) (vI h' v0 4) (vI h' pt 4) (vI h' pt 5) (vI h' v0 6)) → (y = 1 → vI h' it 4 ≤ vI h' cu 1) → (∀ a k, ¬ (a = cu ∨ a = it ∨ a = pt ∨ a = v0) → vI h' a k = vI h a k) → (∀ a j, 0 ≤ j → ¬ (a = it + 1 ∨ a = it + 2) → vA h' a j = vA h a j) → (∀ j, 0 ≤ j → j < vI h it 4 → vA h' (it + 1) j = vA h (it + 1) j ∧ vA h' (it + 2) j = vA h (it + 2) j) → (vI h it 4 ≤ vI h' it 4) → (vI h' pt 2 = vI h pt 2) → qk (f (y, h')) Q) : qk (z_b (f_Pr_closeGroup N v0 h) f) Q := by
  refine qk_b (p_Pr_closeGroup T kv0 kcu pcu kit pit kpt ppt ktx ptx ctx w0 wc wi wi1 wi2 wi3 wi4 wp J z hat) ?_
  rintro ⟨y, hz⟩ ⟨Tz, g0, g1, g2, g3, g4, g5, g6, g7⟩
  exact H y hz Tz g0 g1 g2 g3 g4 g5 g6 g7

set_option maxHeartbeats 2000000 in
theorem p_Pr_readSame {L : q_L} {W : Nat → Prop} {h0 : z_H} {π : Nat → Nat → Option Nat} {N : Nat} {cu : Nat} {it : Nat} {pt : Nat} {tx : Nat} {h : z_H} {v0 : Nat} {v1 : Int32} (T : q_U L W h0 π h) (kv0 : qκ L v0 = 9) (kcu : qκ L cu = 3) (pcu : π v0 0 = some cu) (kit : qκ L it = 5) (pit : π v0 1 = some it) (kpt : qκ L pt = 8) (ppt : π v0 2 = some pt) (ktx : qκ L tx = 11) (ptx : π cu 0 = some tx) (ctx : qhi L tx 1 = 240) (w0 : W v0) (wc : W cu) (wi : W it) (wi1 : W (it + 1)) (wi2 : W (it + 2)) (wi3 : W (it + 3)) (wi4 : W (it + 4)) (wp : W pt) (J : q_J (vA h (it + 1)) (vA h (it + 2)) (vI h pt 2) (vI h it 4) (vI h pt 6) (vI h v0 5) (vI h v0 4) (vI h pt 4) (vI h pt 5) (vI h v0 6)) (z : vI h it 4 ≤ vI h cu 1) (hat : vI h cu 1 + 1 < 240) (b0 : 1 ≤ v1) (b1 : v1 ≤ 3) : qk (f_Pr_readSame N v0 v1 h) (fun r => q_U L W h0 π r.2 ∧ (r.1 = 0 ∨ r.1 = 1) ∧ (r.1 = 1 → q_J (vA r.2 (it + 1)) (vA r.2 (it + 2)) (vI r.2 pt 2) (vI r.2 it 4) (vI r.2 pt 6) (vI r.2 v0 5) (vI r.2 v0 4) (vI r.2 pt 4) (vI r.2 pt 5) (vI r.2 v0 6)) ∧ (r.1 = 1 → vI r.2 it 4 ≤ vI r.2 cu 1) ∧ (∀ a k, ¬ (a = cu ∨ a = it ∨ a = pt ∨ a = v0) → vI r.2 a k = vI h a k) ∧ (∀ a j, 0 ≤ j → ¬ (a = it + 1 ∨ a = it + 2) → vA r.2 a j = vA h a j) ∧ (∀ j, 0 ≤ j → j < vI h it 4 → vA r.2 (it + 1) j = vA h (it + 1) j ∧ vA r.2 (it + 2) j = vA h (it + 2) j) ∧ (vI h it 4 ≤ vI r.2 it 4) ∧ (vI r.2 pt 2 = vI h pt 2)) := by
  have hr_tx := q_rowhi T ktx
  have cit := q_CIt T kit
  have ccu := q_CCur T kcu
  unfold q_C_It at cit
  have tit := T.2.2.2.1 it 4
  have tpt := T.2.2.2.1 pt 6
  have tcu := T.2.2.2.1 cu 1
  rw [ccu.1.1, ccu.1.2] at tcu
  rw [cit.1.1, cit.1.2] at tit
  unfold f_Pr_readSame
  refine r_Pr_5 T kv0 ?_
  intro x1 ex1
  subst ex1
  refine qk_if (fun cc1 => ?_) (fun cc1 => ?_)
  · skip
    refine r_Pr_2 T kv0 ppt ?_
    refine r_Pt_6 T kpt ?_
    intro x4 ex4 lx4 ux4
    subst ex4
    unfold f_Pr_readSame_26
    refine qk_if (fun cc3 => ?_) (fun cc3 => ?_)
    · skip
      unfold f_Pr_readSame_41
      refine r_Pr_0 T kv0 pcu ?_
      refine r_Cur_o T kcu ?_
      refine c_Cur_refuse (v0 := cu) (v1 := 0) T kcu (by first | with_reducible assumption | grind | grind (ematch := 40) (gen := 40) (liaSteps := 300000) | lia) ?_
      intro yr3i4 hr3i4 Tr3i4 gr3i4_0 gr3i4_1 gr3i4_2
      dsimp only
      refine qk_zB (by first | with_reducible assumption | grind | grind (ematch := 40) (gen := 40) (liaSteps := 300000) | lia) ?_
      refine qk_some ?_
      exact ⟨Tr3i4, (by first | with_reducible assumption | grind | grind (ematch := 40) (gen := 40) (liaSteps := 300000) | lia), (by first | with_reducible assumption | (intro yy; first | (exact absurd yy (by grind)) | exact q_J_same2 (x := v1) J (by grind) (by grind) (by grind) (by grind) (by grind) (by grind) (by grind) (by grind) (by grind) (by grind) (by grind) (by grind) (by grind) (by grind) (by grind)) | grind), (by first | with_reducible assumption | grind | grind (ematch := 40) (gen := 40) (liaSteps := 300000) | lia), (by first | with_reducible assumption | grind | grind (ematch := 40) (gen := 40) (liaSteps := 300000) | lia), (by first | with_reducible assumption | grind | grind (ematch := 40) (gen := 40) (liaSteps := 300000) | lia), (by first | with_reducible assumption | grind | grind (ematch := 40) (gen := 40) (liaSteps := 300000) | lia), (by first | with_reducible assumption | grind | grind (ematch := 40) (gen := 40) (liaSteps := 300000) | lia), (by first | with_reducible assumption | grind | grind (ematch := 40) (gen := 40) (liaSteps := 300000) | lia)⟩
    · skip
      refine r_Pr_3 T kv0 ?_
      intro x2i2 ex2i2
      subst ex2i2
      refine qk_if (fun cc5 => ?_) (fun cc5 => ?_)
      · skip
        unfold f_Pr_readSame_41
        refine r_Pr_0 T kv0 pcu ?_
        refine r_Cur_o T kcu ?_
        refine c_Cur_refuse (v0 := cu) (v1 := 0) T kcu (by first | with_reducible assumption | grind | grind (ematch := 40) (gen := 40) (liaSteps := 300000) | lia) ?_
        intro yr3i6 hr3i6 Tr3i6 gr3i6_0 gr3i6_1 gr3i6_2
        dsimp only
        refine qk_zB (by first | with_reducible assumption | grind | grind (ematch := 40) (gen := 40) (liaSteps := 300000) | lia) ?_
        refine qk_some ?_
        exact ⟨Tr3i6, (by first | with_reducible assumption | grind | grind (ematch := 40) (gen := 40) (liaSteps := 300000) | lia), (by first | with_reducible assumption | (intro yy; first | (exact absurd yy (by grind)) | exact q_J_same2 (x := v1) J (by grind) (by grind) (by grind) (by grind) (by grind) (by grind) (by grind) (by grind) (by grind) (by grind) (by grind) (by grind) (by grind) (by grind) (by grind)) | grind), (by first | with_reducible assumption | grind | grind (ematch := 40) (gen := 40) (liaSteps := 300000) | lia), (by first | with_reducible assumption | grind | grind (ematch := 40) (gen := 40) (liaSteps := 300000) | lia), (by first | with_reducible assumption | grind | grind (ematch := 40) (gen := 40) (liaSteps := 300000) | lia), (by first | with_reducible assumption | grind | grind (ematch := 40) (gen := 40) (liaSteps := 300000) | lia), (by first | with_reducible assumption | grind | grind (ematch := 40) (gen := 40) (liaSteps := 300000) | lia), (by first | with_reducible assumption | grind | grind (ematch := 40) (gen := 40) (liaSteps := 300000) | lia)⟩
      · skip
        refine r_Pr_3 T kv0 ?_
        intro x4i2 ex4i2
        subst ex4i2
        refine w_Pr_3 T kv0 (by first | with_reducible assumption | grind | grind (ematch := 40) (gen := 40) (liaSteps := 300000) | lia) ?_
        intro h5i2 Th5i2 ih5i2 ah5i2
        refine w_Pr_6 Th5i2 kv0 (by first | with_reducible assumption | grind | grind (ematch := 40) (gen := 40) (liaSteps := 300000) | lia) ?_
        intro h6i2 Th6i2 ih6i2 ah6i2
        refine r_Pr_1 Th6i2 kv0 pit ?_
        refine r_It_o Th6i2 kit ?_
        refine c_It_add (v0 := it) (v1 := 3) (v2 := v1) Th6i2 kit (by first | with_reducible assumption | grind | grind (ematch := 40) (gen := 40) (liaSteps := 300000) | lia) (by first | with_reducible assumption | grind | grind (ematch := 40) (gen := 40) (liaSteps := 300000) | lia) (by first | with_reducible assumption | grind | grind (ematch := 40) (gen := 40) (liaSteps := 300000) | lia) (by first | with_reducible assumption | grind | grind (ematch := 40) (gen := 40) (liaSteps := 300000) | lia) (by first | with_reducible assumption | grind | grind (ematch := 40) (gen := 40) (liaSteps := 300000) | lia) (by first | with_reducible assumption | grind | grind (ematch := 40) (gen := 40) (liaSteps := 300000) | lia) (by first | with_reducible assumption | grind | grind (ematch := 40) (gen := 40) (liaSteps := 300000) | lia) ?_
        intro r9i2 Tr9i2 gr9i2_0 gr9i2_1 gr9i2_2 gr9i2_3
        refine r_Pr_0 Tr9i2 kv0 pcu ?_
        refine r_Cur_1 Tr9i2 kcu ?_
        intro x11i2 ex11i2 lx11i2 ux11i2
        subst ex11i2
        refine w_Cur_1 Tr9i2 kcu (by first | with_reducible assumption | grind | grind (ematch := 40) (gen := 40) (liaSteps := 300000) | lia) (q_inc02 (Tr9i2.2.2.2.1 _ 1) (q_CCur Tr9i2 kcu)) (by first | exact q_inc2 (by first | with_reducible assumption | grind -lia | grind) (q_inc00 (Tr9i2.2.2.2.1 _ 1) (q_CCur Tr9i2 kcu))) ?_
        intro h12i2 Th12i2 ih12i2 ah12i2
        refine qk_some ?_
        exact ⟨Th12i2, (by first | with_reducible assumption | grind | grind (ematch := 40) (gen := 40) (liaSteps := 300000) | lia), (by first | with_reducible assumption | (intro yy; first | (exact absurd yy (by grind)) | exact q_J_same2 (x := v1) J (by grind) (by grind) (by grind) (by grind) (by grind) (by grind) (by grind) (by grind) (by grind) (by grind) (by grind) (by grind) (by grind) (by grind) (by grind)) | grind), (by intro yy; exact q_zz (by grind -lia) (by first | grind -lia | grind) z (by first | with_reducible assumption | exact q_lt1 hat (by grind -lia) (by grind -lia) | grind -lia | grind) (by first | grind -lia | grind)), (by first | with_reducible assumption | grind | grind (ematch := 40) (gen := 40) (liaSteps := 300000) | lia), (by first | with_reducible assumption | grind | grind (ematch := 40) (gen := 40) (liaSteps := 300000) | lia), (by first | with_reducible assumption | grind | grind (ematch := 40) (gen := 40) (liaSteps := 300000) | lia), (by first | with_reducible assumption | grind | grind (ematch := 40) (gen := 40) (liaSteps := 300000) | lia), (by first | with_reducible assumption | grind | grind (ematch := 40) (gen := 40) (liaSteps := 300000) | lia)⟩
  · skip
    refine r_Pr_2 T kv0 ppt ?_
    refine r_Pt_6 T kpt ?_
    intro x6 ex6 lx6 ux6
    subst ex6
    unfold f_Pr_readSame_26
    refine qk_if (fun cc8 => ?_) (fun cc8 => ?_)
    · skip
      unfold f_Pr_readSame_41
      refine r_Pr_0 T kv0 pcu ?_
      refine r_Cur_o T kcu ?_
      refine c_Cur_refuse (v0 := cu) (v1 := 0) T kcu (by first | with_reducible assumption | grind | grind (ematch := 40) (gen := 40) (liaSteps := 300000) | lia) ?_
      intro yr3i9 hr3i9 Tr3i9 gr3i9_0 gr3i9_1 gr3i9_2
      dsimp only
      refine qk_zB (by first | with_reducible assumption | grind | grind (ematch := 40) (gen := 40) (liaSteps := 300000) | lia) ?_
      refine qk_some ?_
      exact ⟨Tr3i9, (by first | with_reducible assumption | grind | grind (ematch := 40) (gen := 40) (liaSteps := 300000) | lia), (by first | with_reducible assumption | (intro yy; first | (exact absurd yy (by grind)) | exact q_J_same2 (x := v1) J (by grind) (by grind) (by grind) (by grind) (by grind) (by grind) (by grind) (by grind) (by grind) (by grind) (by grind) (by grind) (by grind) (by grind) (by grind)) | grind), (by first | with_reducible assumption | grind | grind (ematch := 40) (gen := 40) (liaSteps := 300000) | lia), (by first | with_reducible assumption | grind | grind (ematch := 40) (gen := 40) (liaSteps := 300000) | lia), (by first | with_reducible assumption | grind | grind (ematch := 40) (gen := 40) (liaSteps := 300000) | lia), (by first | with_reducible assumption | grind | grind (ematch := 40) (gen := 40) (liaSteps := 300000) | lia), (by first | with_reducible assumption | grind | grind (ematch := 40) (gen := 40) (liaSteps := 300000) | lia), (by first | with_reducible assumption | grind | grind (ematch := 40) (gen := 40) (liaSteps := 300000) | lia)⟩
    · skip
      refine r_Pr_3 T kv0 ?_
      intro x2i7 ex2i7
      subst ex2i7
      refine qk_if (fun cc10 => ?_) (fun cc10 => ?_)
      · skip
        unfold f_Pr_readSame_41
        refine r_Pr_0 T kv0 pcu ?_
        refine r_Cur_o T kcu ?_
        refine c_Cur_refuse (v0 := cu) (v1 := 0) T kcu (by first | with_reducible assumption | grind | grind (ematch := 40) (gen := 40) (liaSteps := 300000) | lia) ?_
        intro yr3i11 hr3i11 Tr3i11 gr3i11_0 gr3i11_1 gr3i11_2
        dsimp only
        refine qk_zB (by first | with_reducible assumption | grind | grind (ematch := 40) (gen := 40) (liaSteps := 300000) | lia) ?_
        refine qk_some ?_
        exact ⟨Tr3i11, (by first | with_reducible assumption | grind | grind (ematch := 40) (gen := 40) (liaSteps := 300000) | lia), (by first | with_reducible assumption | (intro yy; first | (exact absurd yy (by grind)) | exact q_J_same2 (x := v1) J (by grind) (by grind) (by grind) (by grind) (by grind) (by grind) (by grind) (by grind) (by grind) (by grind) (by grind) (by grind) (by grind) (by grind) (by grind)) | grind), (by first | with_reducible assumption | grind | grind (ematch := 40) (gen := 40) (liaSteps := 300000) | lia), (by first | with_reducible assumption | grind | grind (ematch := 40) (gen := 40) (liaSteps := 300000) | lia), (by first | with_reducible assumption | grind | grind (ematch := 40) (gen := 40) (liaSteps := 300000) | lia), (by first | with_reducible assumption | grind | grind (ematch := 40) (gen := 40) (liaSteps := 300000) | lia), (by first | with_reducible assumption | grind | grind (ematch := 40) (gen := 40) (liaSteps := 300000) | lia), (by first | with_reducible assumption | grind | grind (ematch := 40) (gen := 40) (liaSteps := 300000) | lia)⟩
      · skip
        refine r_Pr_3 T kv0 ?_
        intro x4i7 ex4i7
        subst ex4i7
        refine w_Pr_3 T kv0 (by first | with_reducible assumption | grind | grind (ematch := 40) (gen := 40) (liaSteps := 300000) | lia) ?_
        intro h5i7 Th5i7 ih5i7 ah5i7
        refine w_Pr_6 Th5i7 kv0 (by first | with_reducible assumption | grind | grind (ematch := 40) (gen := 40) (liaSteps := 300000) | lia) ?_
        intro h6i7 Th6i7 ih6i7 ah6i7
        refine r_Pr_1 Th6i7 kv0 pit ?_
        refine r_It_o Th6i7 kit ?_
        refine c_It_add (v0 := it) (v1 := 3) (v2 := v1) Th6i7 kit (by first | with_reducible assumption | grind | grind (ematch := 40) (gen := 40) (liaSteps := 300000) | lia) (by first | with_reducible assumption | grind | grind (ematch := 40) (gen := 40) (liaSteps := 300000) | lia) (by first | with_reducible assumption | grind | grind (ematch := 40) (gen := 40) (liaSteps := 300000) | lia) (by first | with_reducible assumption | grind | grind (ematch := 40) (gen := 40) (liaSteps := 300000) | lia) (by first | with_reducible assumption | grind | grind (ematch := 40) (gen := 40) (liaSteps := 300000) | lia) (by first | with_reducible assumption | grind | grind (ematch := 40) (gen := 40) (liaSteps := 300000) | lia) (by first | with_reducible assumption | grind | grind (ematch := 40) (gen := 40) (liaSteps := 300000) | lia) ?_
        intro r9i7 Tr9i7 gr9i7_0 gr9i7_1 gr9i7_2 gr9i7_3
        refine r_Pr_0 Tr9i7 kv0 pcu ?_
        refine r_Cur_1 Tr9i7 kcu ?_
        intro x11i7 ex11i7 lx11i7 ux11i7
        subst ex11i7
        refine w_Cur_1 Tr9i7 kcu (by first | with_reducible assumption | grind | grind (ematch := 40) (gen := 40) (liaSteps := 300000) | lia) (q_inc02 (Tr9i7.2.2.2.1 _ 1) (q_CCur Tr9i7 kcu)) (by first | exact q_inc2 (by first | with_reducible assumption | grind -lia | grind) (q_inc00 (Tr9i7.2.2.2.1 _ 1) (q_CCur Tr9i7 kcu))) ?_
        intro h12i7 Th12i7 ih12i7 ah12i7
        refine qk_some ?_
        exact ⟨Th12i7, (by first | with_reducible assumption | grind | grind (ematch := 40) (gen := 40) (liaSteps := 300000) | lia), (by first | with_reducible assumption | (intro yy; first | (exact absurd yy (by grind)) | exact q_J_same2 (x := v1) J (by grind) (by grind) (by grind) (by grind) (by grind) (by grind) (by grind) (by grind) (by grind) (by grind) (by grind) (by grind) (by grind) (by grind) (by grind)) | grind), (by intro yy; exact q_zz (by grind -lia) (by first | grind -lia | grind) z (by first | with_reducible assumption | exact q_lt1 hat (by grind -lia) (by grind -lia) | grind -lia | grind) (by first | grind -lia | grind)), (by first | with_reducible assumption | grind | grind (ematch := 40) (gen := 40) (liaSteps := 300000) | lia), (by first | with_reducible assumption | grind | grind (ematch := 40) (gen := 40) (liaSteps := 300000) | lia), (by first | with_reducible assumption | grind | grind (ematch := 40) (gen := 40) (liaSteps := 300000) | lia), (by first | with_reducible assumption | grind | grind (ematch := 40) (gen := 40) (liaSteps := 300000) | lia), (by first | with_reducible assumption | grind | grind (ematch := 40) (gen := 40) (liaSteps := 300000) | lia)⟩
theorem c_Pr_readSame {L : q_L} {W : Nat → Prop} {h0 : z_H} {π : Nat → Nat → Option Nat} {N : Nat} {cu : Nat} {it : Nat} {pt : Nat} {tx : Nat} {h : z_H} {v0 : Nat} {v1 : Int32} {β : Type} {f : Int32 × z_H → Option β} {Q : β → Prop} (T : q_U L W h0 π h) (kv0 : qκ L v0 = 9) (kcu : qκ L cu = 3) (pcu : π v0 0 = some cu) (kit : qκ L it = 5) (pit : π v0 1 = some it) (kpt : qκ L pt = 8) (ppt : π v0 2 = some pt) (ktx : qκ L tx = 11) (ptx : π cu 0 = some tx) (ctx : qhi L tx 1 = 240) (w0 : W v0) (wc : W cu) (wi : W it) (wi1 : W (it + 1)) (wi2 : W (it + 2)) (wi3 : W (it + 3)) (wi4 : W (it + 4)) (wp : W pt) (J : q_J (vA h (it + 1)) (vA h (it + 2)) (vI h pt 2) (vI h it 4) (vI h pt 6) (vI h v0 5) (vI h v0 4) (vI h pt 4) (vI h pt 5) (vI h v0 6)) (z : vI h it 4 ≤ vI h cu 1) (hat : vI h cu 1 + 1 < 240) (b0 : 1 ≤ v1) (b1 : v1 ≤ 3) (H : ∀ y h', q_U L W h0 π h' → (y = 0 ∨ y = 1) → (y = 1 → q_J (vA h' (it + 1)) (vA h' (it + 2)) (vI h' pt 2) (vI h' it 4) (vI h' pt 6) (vI h' v0 5) (vI h' v0 4) (vI h' pt 4) (vI h' pt 5) (vI h' v0 6)) → (y = 1 → vI h' it 4 ≤ vI h' cu 1) → (∀ a k, ¬ (a = cu ∨ a = it ∨ a = pt ∨ a = v0) → vI h' a k = vI h a k) → (∀ a j, 0 ≤ j → ¬ (a = it + 1 ∨ a = it + 2) → vA h' a j = vA h a j) → (∀ j, 0 ≤ j → j < vI h it 4 → vA h' (it + 1) j = vA h (it + 1) j ∧ vA h' (it + 2) j = vA h (it + 2) j) → (vI h it 4 ≤ vI h' it 4) → (vI h' pt 2 = vI h pt 2) → qk (f (y, h')) Q) : qk (z_b (f_Pr_readSame N v0 v1 h) f) Q := by
  refine qk_b (p_Pr_readSame T kv0 kcu pcu kit pit kpt ppt ktx ptx ctx w0 wc wi wi1 wi2 wi3 wi4 wp J z hat b0 b1) ?_
  rintro ⟨y, hz⟩ ⟨Tz, g0, g1, g2, g3, g4, g5, g6, g7⟩
  exact H y hz Tz g0 g1 g2 g3 g4 g5 g6 g7

set_option maxHeartbeats 2000000 in
theorem p_Pr_addOne {L : q_L} {W : Nat → Prop} {h0 : z_H} {π : Nat → Nat → Option Nat} {N : Nat} {cu : Nat} {it : Nat} {pt : Nat} {tx : Nat} {h : z_H} {v0 : Nat} (T : q_U L W h0 π h) (kv0 : qκ L v0 = 9) (kcu : qκ L cu = 3) (pcu : π v0 0 = some cu) (kit : qκ L it = 5) (pit : π v0 1 = some it) (kpt : qκ L pt = 8) (ppt : π v0 2 = some pt) (ktx : qκ L tx = 11) (ptx : π cu 0 = some tx) (ctx : qhi L tx 1 = 240) (w0 : W v0) (wc : W cu) (wi : W it) (wi1 : W (it + 1)) (wi2 : W (it + 2)) (wi3 : W (it + 3)) (wi4 : W (it + 4)) (wp : W pt) (J : q_J (vA h (it + 1)) (vA h (it + 2)) (vI h pt 2) (vI h it 4) (vI h pt 6) (vI h v0 5) (vI h v0 4) (vI h pt 4) (vI h pt 5) (vI h v0 6)) (z : vI h it 4 ≤ vI h cu 1) (hat : vI h cu 1 < 240) : qk (f_Pr_addOne N v0 h) (fun r => q_U L W h0 π r.2 ∧ (r.1 = 0 ∨ r.1 = 1) ∧ (r.1 = 1 → q_J (vA r.2 (it + 1)) (vA r.2 (it + 2)) (vI r.2 pt 2) (vI r.2 it 4) (vI r.2 pt 6) (vI r.2 v0 5) (vI r.2 v0 4) (vI r.2 pt 4) (vI r.2 pt 5) (vI r.2 v0 6)) ∧ (vI r.2 cu 1 = vI h cu 1) ∧ (r.1 = 1 → vI r.2 it 4 = vI h it 4 + 1) ∧ (∀ a k, ¬ (a = cu ∨ a = it ∨ a = pt ∨ a = v0) → vI r.2 a k = vI h a k) ∧ (∀ a j, 0 ≤ j → ¬ (a = it + 1 ∨ a = it + 2) → vA r.2 a j = vA h a j) ∧ (∀ j, 0 ≤ j → j < vI h it 4 → vA r.2 (it + 1) j = vA h (it + 1) j ∧ vA r.2 (it + 2) j = vA h (it + 2) j) ∧ (vI h it 4 ≤ vI r.2 it 4) ∧ (vI r.2 pt 2 = vI h pt 2)) := by
  have hr_tx := q_rowhi T ktx
  have cit := q_CIt T kit
  have ccu := q_CCur T kcu
  unfold q_C_It at cit
  have tit := T.2.2.2.1 it 4
  have tpt := T.2.2.2.1 pt 6
  have tcu := T.2.2.2.1 cu 1
  rw [ccu.1.1, ccu.1.2] at tcu
  rw [cit.1.1, cit.1.2] at tit
  unfold f_Pr_addOne
  refine r_Pr_3 T kv0 ?_
  intro x1 ex1
  subst ex1
  refine qk_if (fun cc1 => ?_) (fun cc1 => ?_)
  · skip
    refine r_Pr_0 T kv0 pcu ?_
    refine r_Cur_o T kcu ?_
    refine c_Cur_refuse (v0 := cu) (v1 := 0) T kcu (by first | with_reducible assumption | grind | grind (ematch := 40) (gen := 40) (liaSteps := 300000) | lia) ?_
    intro yr11 hr11 Tr11 gr11_0 gr11_1 gr11_2
    dsimp only
    refine qk_zB (by first | with_reducible assumption | grind | grind (ematch := 40) (gen := 40) (liaSteps := 300000) | lia) ?_
    refine qk_some ?_
    exact ⟨Tr11, (by first | with_reducible assumption | grind | grind (ematch := 40) (gen := 40) (liaSteps := 300000) | lia), (by first | with_reducible assumption | (intro yy; first | (exact absurd yy (by grind)) | exact q_J_one2 J (by grind) (by grind) (by grind) (by grind) (by grind) (by grind) (by grind) (by grind) (by grind) (by grind) (by grind)) | grind), (by first | with_reducible assumption | grind | grind (ematch := 40) (gen := 40) (liaSteps := 300000) | lia), (by first | with_reducible assumption | grind | grind (ematch := 40) (gen := 40) (liaSteps := 300000) | lia), (by first | with_reducible assumption | grind | grind (ematch := 40) (gen := 40) (liaSteps := 300000) | lia), (by first | with_reducible assumption | grind | grind (ematch := 40) (gen := 40) (liaSteps := 300000) | lia), (by first | with_reducible assumption | grind | grind (ematch := 40) (gen := 40) (liaSteps := 300000) | lia), (by first | with_reducible assumption | grind | grind (ematch := 40) (gen := 40) (liaSteps := 300000) | lia), (by first | with_reducible assumption | grind | grind (ematch := 40) (gen := 40) (liaSteps := 300000) | lia)⟩
  · skip
    refine r_Pr_1 T kv0 pit ?_
    refine r_It_o T kit ?_
    refine c_It_add (v0 := it) (v1 := 0) (v2 := 0) T kit (by first | with_reducible assumption | grind | grind (ematch := 40) (gen := 40) (liaSteps := 300000) | lia) (by first | with_reducible assumption | grind | grind (ematch := 40) (gen := 40) (liaSteps := 300000) | lia) (by first | with_reducible assumption | grind | grind (ematch := 40) (gen := 40) (liaSteps := 300000) | lia) (by first | with_reducible assumption | grind | grind (ematch := 40) (gen := 40) (liaSteps := 300000) | lia) (by first | with_reducible assumption | grind | grind (ematch := 40) (gen := 40) (liaSteps := 300000) | lia) (by first | with_reducible assumption | grind | grind (ematch := 40) (gen := 40) (liaSteps := 300000) | lia) (by first | with_reducible assumption | grind | grind (ematch := 40) (gen := 40) (liaSteps := 300000) | lia) ?_
    intro r5 Tr5 gr5_0 gr5_1 gr5_2 gr5_3
    refine r_Pr_3 Tr5 kv0 ?_
    intro x6 ex6
    subst ex6
    refine w_Pr_3 Tr5 kv0 (by first | with_reducible assumption | grind | grind (ematch := 40) (gen := 40) (liaSteps := 300000) | lia) ?_
    intro h7 Th7 ih7 ah7
    refine w_Pr_6 Th7 kv0 (by first | with_reducible assumption | grind | grind (ematch := 40) (gen := 40) (liaSteps := 300000) | lia) ?_
    intro h8 Th8 ih8 ah8
    refine qk_some ?_
    exact ⟨Th8, (by first | with_reducible assumption | grind | grind (ematch := 40) (gen := 40) (liaSteps := 300000) | lia), (by first | with_reducible assumption | (intro yy; first | (exact absurd yy (by grind)) | exact q_J_one2 J (by grind) (by grind) (by grind) (by grind) (by grind) (by grind) (by grind) (by grind) (by grind) (by grind) (by grind)) | grind), (by first | with_reducible assumption | grind | grind (ematch := 40) (gen := 40) (liaSteps := 300000) | lia), (by first | with_reducible assumption | grind | grind (ematch := 40) (gen := 40) (liaSteps := 300000) | lia), (by first | with_reducible assumption | grind | grind (ematch := 40) (gen := 40) (liaSteps := 300000) | lia), (by first | with_reducible assumption | grind | grind (ematch := 40) (gen := 40) (liaSteps := 300000) | lia), (by first | with_reducible assumption | grind | grind (ematch := 40) (gen := 40) (liaSteps := 300000) | lia), (by first | with_reducible assumption | grind | grind (ematch := 40) (gen := 40) (liaSteps := 300000) | lia), (by first | with_reducible assumption | grind | grind (ematch := 40) (gen := 40) (liaSteps := 300000) | lia)⟩
theorem c_Pr_addOne {L : q_L} {W : Nat → Prop} {h0 : z_H} {π : Nat → Nat → Option Nat} {N : Nat} {cu : Nat} {it : Nat} {pt : Nat} {tx : Nat} {h : z_H} {v0 : Nat} {β : Type} {f : Int32 × z_H → Option β} {Q : β → Prop} (T : q_U L W h0 π h) (kv0 : qκ L v0 = 9) (kcu : qκ L cu = 3) (pcu : π v0 0 = some cu) (kit : qκ L it = 5) (pit : π v0 1 = some it) (kpt : qκ L pt = 8) (ppt : π v0 2 = some pt) (ktx : qκ L tx = 11) (ptx : π cu 0 = some tx) (ctx : qhi L tx 1 = 240) (w0 : W v0) (wc : W cu) (wi : W it) (wi1 : W (it + 1)) (wi2 : W (it + 2)) (wi3 : W (it + 3)) (wi4 : W (it + 4)) (wp : W pt) (J : q_J (vA h (it + 1)) (vA h (it + 2)) (vI h pt 2) (vI h it 4) (vI h pt 6) (vI h v0 5) (vI h v0 4) (vI h pt 4) (vI h pt 5) (vI h v0 6)) (z : vI h it 4 ≤ vI h cu 1) (hat : vI h cu 1 < 240) (H : ∀ y h', q_U L W h0 π h' → (y = 0 ∨ y = 1) → (y = 1 → q_J (vA h' (it + 1)) (vA h' (it + 2)) (vI h' pt 2) (vI h' it 4) (vI h' pt 6) (vI h' v0 5) (vI h' v0 4) (vI h' pt 4) (vI h' pt 5) (vI h' v0 6)) → (vI h' cu 1 = vI h cu 1) → (y = 1 → vI h' it 4 = vI h it 4 + 1) → (∀ a k, ¬ (a = cu ∨ a = it ∨ a = pt ∨ a = v0) → vI h' a k = vI h a k) → (∀ a j, 0 ≤ j → ¬ (a = it + 1 ∨ a = it + 2) → vA h' a j = vA h a j) → (∀ j, 0 ≤ j → j < vI h it 4 → vA h' (it + 1) j = vA h (it + 1) j ∧ vA h' (it + 2) j = vA h (it + 2) j) → (vI h it 4 ≤ vI h' it 4) → (vI h' pt 2 = vI h pt 2) → qk (f (y, h')) Q) : qk (z_b (f_Pr_addOne N v0 h) f) Q := by
  refine qk_b (p_Pr_addOne T kv0 kcu pcu kit pit kpt ppt ktx ptx ctx w0 wc wi wi1 wi2 wi3 wi4 wp J z hat) ?_
  rintro ⟨y, hz⟩ ⟨Tz, g0, g1, g2, g3, g4, g5, g6, g7, g8⟩
  exact H y hz Tz g0 g1 g2 g3 g4 g5 g6 g7 g8
