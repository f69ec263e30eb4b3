/-- the items of a pattern of the reference: a group's end stands behind its begin, what is said again behind its end -/
def q_VM (kd gr : Int32 → Int32) (f t : Int32) : Prop := ∀ i, f ≤ i → i < t →
  (3 ≤ kd i → 1 ≤ gr i ∧ gr i ≤ 3) ∧ (kd i = 5 → ∃ j, f ≤ j ∧ j < i ∧ kd j = 4 ∧ gr j = gr i) ∧ (kd i = 3 → ∃ j, f ≤ j ∧ j < i ∧ kd j = 5 ∧ gr j = gr i) ∧ (kd i = 4 → ∀ j, f ≤ j → j < i → kd j = 5 → gr j ≠ gr i)
/-- a pattern in the making: g groups begun, o: one is open, r: the last may be starred -/
def q_JM (kd gr : Int32 → Int32) (f s g o r : Int32) : Prop :=
  0 ≤ f ∧ f ≤ s ∧ s ≤ 520 ∧ 0 ≤ g ∧ g ≤ 3 ∧ (q_VM kd gr f s ∧ ∀ j, f ≤ j → j < s → 3 ≤ kd j → gr j ≤ g) ∧ (o ≠ 0 → 1 ≤ g) ∧ (∀ v, 1 ≤ v → v ≤ g → ∃ j, f ≤ j ∧ j < s ∧ kd j = 4 ∧ gr j = v) ∧ (∀ v, 1 ≤ v → v ≤ g → (o = 0 ∨ v < g) → ∃ j, f ≤ j ∧ j < s ∧ kd j = 5 ∧ gr j = v) ∧ (r ≠ 0 → f < s)
theorem q_VM_eq {kd gr kd' gr' : Int32 → Int32} {f t : Int32} (V : q_VM kd gr f t) (h0 : 0 ≤ f) (e : ∀ j, 0 ≤ j → j < t → kd' j = kd j ∧ gr' j = gr j) : q_VM kd' gr' f t := by
  intro i h1 h2
  obtain ⟨a1, a2, a3, a4⟩ := V i h1 h2
  have ei := e i (by lia) h2
  rw [ei.1, ei.2]
  refine ⟨a1, fun b => ?_, fun b => ?_, fun b j c1 c2 c3 => ?_⟩
  · obtain ⟨j, c1, c2, c3, c4⟩ := a2 b
    have ej := e j (by lia) (by lia)
    exact ⟨j, c1, c2, ej.1.trans c3, ej.2.trans c4⟩
  · obtain ⟨j, c1, c2, c3, c4⟩ := a3 b
    have ej := e j (by lia) (by lia)
    exact ⟨j, c1, c2, ej.1.trans c3, ej.2.trans c4⟩
  · have ej := e j (by lia) (by lia)
    rw [ej.1] at c3
    rw [ej.2]
    exact a4 b j c1 c2 c3
theorem q_JM_eq {kd gr kd' gr' : Int32 → Int32} {f s g o r f' s' g' o' r' : Int32} (J : q_JM kd gr f s g o r) (e : ∀ j, 0 ≤ j → j < s → kd' j = kd j ∧ gr' j = gr j) (e1 : f' = f) (e2 : s' = s) (e3 : g' = g) (e4 : o' = o) (e5 : r' = r ∨ r' = 0) : q_JM kd' gr' f' s' g' o' r' := by
  subst e1 e2 e3 e4
  obtain ⟨a1, a2, a3, a4, a5, V, a6, a7, a8, a9⟩ := J
  refine ⟨a1, a2, a3, a4, a5, ⟨q_VM_eq V.1 a1 e, fun j b1 b2 b3 => by have ej := e j (by lia) b2; rw [ej.1] at b3; rw [ej.2]; exact V.2 j b1 b2 b3⟩, a6, fun v b1 b2 => ?_, fun v b1 b2 b3 => ?_, fun b => a9 (by grind)⟩
  · obtain ⟨j, c1, c2, c3, c4⟩ := a7 v b1 b2
    have ej := e j (by lia) c2
    exact ⟨j, c1, c2, ej.1.trans c3, ej.2.trans c4⟩
  · obtain ⟨j, c1, c2, c3, c4⟩ := a8 v b1 b2 b3
    have ej := e j (by lia) c2
    exact ⟨j, c1, c2, ej.1.trans c3, ej.2.trans c4⟩
/-- one item more; what it may be -/
theorem q_JM_add {kd gr kd' gr' : Int32 → Int32} {f s g o r f' s' g' o' r' k x : Int32} (J : q_JM kd gr f s g o r) (e : ∀ j, 0 ≤ j → j < s → kd' j = kd j ∧ gr' j = gr j) (hs : s < 520) (ek : kd' s = k) (eg : gr' s = x) (e1 : f' = f) (e2 : s' = s + 1)
    (H : (k < 3 ∧ g' = g ∧ o' = o) ∨ (k = 3 ∧ 1 ≤ x ∧ x ≤ g ∧ (o = 0 ∨ x < g) ∧ g' = g ∧ o' = o) ∨ (k = 4 ∧ o = 0 ∧ g < 3 ∧ x = g + 1 ∧ g' = g + 1 ∧ o' ≠ 0) ∨ (k = 5 ∧ o ≠ 0 ∧ x = g ∧ g' = g ∧ o' = 0)) : q_JM kd' gr' f' s' g' o' r' := by
  subst e1 e2
  have J' := q_JM_eq (kd' := kd') (gr' := gr') J e rfl rfl rfl rfl (Or.inl rfl)
  obtain ⟨a1, a2, a3, a4, a5, ⟨V, VG⟩, a6, a7, a8, a9⟩ := J'
  clear J
  have old4 : ∀ v, 1 ≤ v → v ≤ g → ∃ j, f' ≤ j ∧ j < s + 1 ∧ kd' j = 4 ∧ gr' j = v := fun v b1 b2 => by
    obtain ⟨j, c1, c2, c3, c4⟩ := a7 v b1 b2
    exact ⟨j, c1, by lia, c3, c4⟩
  have old5 : ∀ v, 1 ≤ v → v ≤ g → (o = 0 ∨ v < g) → ∃ j, f' ≤ j ∧ j < s + 1 ∧ kd' j = 5 ∧ gr' j = v := fun v b1 b2 b3 => by
    obtain ⟨j, c1, c2, c3, c4⟩ := a8 v b1 b2 b3
    exact ⟨j, c1, by lia, c3, c4⟩
  have VV : (3 ≤ kd' s → 1 ≤ gr' s ∧ gr' s ≤ 3) → (kd' s = 5 → ∃ j, f' ≤ j ∧ j < s ∧ kd' j = 4 ∧ gr' j = gr' s) → (kd' s = 3 → ∃ j, f' ≤ j ∧ j < s ∧ kd' j = 5 ∧ gr' j = gr' s) → (kd' s = 4 → ∀ j, f' ≤ j → j < s → kd' j = 5 → gr' j ≠ gr' s) → q_VM kd' gr' f' (s + 1) := by
    intro b1 b2 b3 b4 i i1 i2
    by_cases q : i = s
    · subst q; exact ⟨b1, b2, b3, b4⟩
    · exact V i i1 (by lia)
  clear V
  have VN : ∀ g2, g ≤ g2 → (3 ≤ kd' s → gr' s ≤ g2) → ∀ j, f' ≤ j → j < s + 1 → 3 ≤ kd' j → gr' j ≤ g2 := by
    intro g2 b1 b2 j j1 j2 j3
    by_cases q : j = s
    · subst q; exact b2 j3
    · exact Int32.le_trans (VG j j1 (by lia) j3) b1
  rcases H with ⟨k1, k2, k3⟩ | ⟨k1, k2, k3, k4, k5, k6⟩ | ⟨k1, k2, k3, k4, k5, k6⟩ | ⟨k1, k2, k3, k4, k5⟩
  · subst k2 k3
    refine ⟨a1, by lia, by lia, a4, a5, ⟨VV (fun b => absurd b (by lia)) (fun b => absurd b (by lia)) (fun b => absurd b (by lia)) (fun b => absurd b (by lia)), VN _ (Int32.le_refl _) (fun b => absurd b (by lia))⟩, a6, old4, old5, fun _ => by lia⟩
  · subst k5 k6
    refine ⟨a1, by lia, by lia, a4, a5, ⟨VV (fun b => ⟨by lia, by lia⟩) (fun b => absurd b (by lia)) (fun b => ?_) (fun b => absurd b (by lia)), VN _ (Int32.le_refl _) (fun b => by rw [eg]; exact k3)⟩, a6, old4, old5, fun _ => by lia⟩
    obtain ⟨j, c1, c2, c3, c4⟩ := a8 x k2 k3 k4
    exact ⟨j, c1, c2, c3, c4.trans eg.symm⟩
  · subst k5
    refine ⟨a1, by lia, by lia, by lia, by lia, ⟨VV (fun b => ⟨by lia, by lia⟩) (fun b => absurd b (by lia)) (fun b => absurd b (by lia)) (fun b j j1 j2 j3 => fun z => ?_), VN _ (by lia) (fun b => by lia)⟩, fun _ => by lia, fun v b1 b2 => ?_, fun v b1 b2 b3 => ?_, fun _ => by lia⟩
    · have y := VG j j1 j2 (by rw [j3]; decide)
      rw [z, eg, k4] at y
      exact absurd y (by lia)
    · by_cases q : v = g + 1
      · exact ⟨s, a2, by lia, ek.trans k1, by rw [eg, k4, q]⟩
      · exact old4 v b1 (by lia)
    · exact old5 v b1 (by rcases b3 with b | b; exact absurd b k6; lia) (Or.inl k2)
  · subst k4
    refine ⟨a1, by lia, by lia, a4, a5, ⟨VV (fun b => ⟨by have := a6 k2; lia, by lia⟩) (fun b => ?_) (fun b => absurd b (by lia)) (fun b => absurd b (by lia)), VN _ (Int32.le_refl _) (fun b => by rw [eg, k3]; exact Int32.le_refl _)⟩, fun b => absurd k5 b, old4, fun v b1 b2 b3 => ?_, fun _ => by lia⟩
    · obtain ⟨j, c1, c2, c3, c4⟩ := a7 g' (a6 k2) (Int32.le_refl _)
      exact ⟨j, c1, c2, c3, by rw [c4, eg, k3]⟩
    · by_cases q : v = g'
      · exact ⟨s, a2, by lia, ek.trans k1, by rw [eg, k3, q]⟩
      · exact old5 v b1 b2 (Or.inr (by lia))
theorem q_JM_nil {kd gr : Int32 → Int32} {f s g o r : Int32} (h0 : 0 ≤ s) (h1 : s ≤ 520) (e1 : f = s) (e2 : g = 0) (e3 : o = 0) (e4 : r = 0) : q_JM kd gr f s g o r := by
  subst e1 e2 e3 e4
  exact ⟨h0, Int32.le_refl _, h1, by decide, by decide, ⟨fun i a b => absurd b (by lia), fun j a b => absurd b (by lia)⟩, fun b => absurd rfl b, fun v b1 b2 => absurd b2 (by lia), fun v b1 b2 => absurd b2 (by lia), fun b => absurd rfl b⟩
set_option maxHeartbeats 1000000 in
theorem p_Mod_in {L : q_L} {W : Nat → Prop} {h0 : z_H} {π : Nat → Nat → Option Nat} {N : Nat} {h : z_H} {v0 : Int32} {v1 : Int32} {v2 : Int32} (T : q_U L W h0 π h)   : qk (f_Mod_in N v0 v1 v2 h) (fun r => r.2 = h ∧ (r.1 = 0 ∨ r.1 = 1) ∧ (r.1 = 0 ↔ (v0 < v1 ∨ v2 < v0))) := by
  unfold f_Mod_in
  refine qk_if (fun cc1 => ?_) (fun cc1 => ?_)
  · skip
    refine qk_some ?_
    exact ⟨rfl, (by first | with_reducible assumption | grind | lia), (by first | with_reducible assumption | grind | lia)⟩
  · skip
    refine qk_if (fun cc2 => ?_) (fun cc2 => ?_)
    · skip
      refine qk_some ?_
      exact ⟨rfl, (by first | with_reducible assumption | grind | lia), (by first | with_reducible assumption | grind | lia)⟩
    · skip
      refine qk_some ?_
      exact ⟨rfl, (by first | with_reducible assumption | grind | lia), (by first | with_reducible assumption | grind | lia)⟩
theorem c_Mod_in {L : q_L} {W : Nat → Prop} {h0 : z_H} {π : Nat → Nat → Option Nat} {N : Nat} {h : z_H} {v0 : Int32} {v1 : Int32} {v2 : Int32} {β : Type} {f : Int32 × z_H → Option β} {Q : β → Prop} (T : q_U L W h0 π h)   (H : ∀ y, (y = 0 ∨ y = 1) → (y = 0 ↔ (v0 < v1 ∨ v2 < v0)) → qk (f (y, h)) Q) : qk (z_b (f_Mod_in N v0 v1 v2 h) f) Q := by
  refine qk_b (p_Mod_in T  ) ?_
  rintro ⟨y, hz⟩ ⟨hy, g0, g1⟩
  try dsimp only at *
  subst hy
  exact H y g0 g1

set_option maxHeartbeats 1000000 in
theorem p_Mod_thrown {L : q_L} {W : Nat → Prop} {h0 : z_H} {π : Nat → Nat → Option Nat} {N : Nat} {h : z_H} {v0 : Nat} (T : q_U L W h0 π h) (kv0 : q_M L π v0)  : qk (f_Mod_thrown N v0 h) (fun r => r.2 = h ∧ (r.1 = vI h v0 6)) := by
  unfold f_Mod_thrown
  refine r_Mo_6 T kv0 ?_
  intro x1 ex1
  subst ex1
  refine qk_some ?_
  exact ⟨rfl, (by first | with_reducible assumption | grind | lia)⟩
theorem c_Mod_thrown {L : q_L} {W : Nat → Prop} {h0 : z_H} {π : Nat → Nat → Option Nat} {N : Nat} {h : z_H} {v0 : Nat} {β : Type} {f : Int32 × z_H → Option β} {Q : β → Prop} (T : q_U L W h0 π h) (kv0 : q_M L π v0)  (H : ∀ y, (y = vI h v0 6) → qk (f (y, h)) Q) : qk (z_b (f_Mod_thrown N v0 h) f) Q := by
  refine qk_b (p_Mod_thrown T kv0 ) ?_
  rintro ⟨y, hz⟩ ⟨hy, g0⟩
  try dsimp only at *
  subst hy
  exact H y g0

set_option maxHeartbeats 1000000 in
theorem p_Mod_fail {L : q_L} {W : Nat → Prop} {h0 : z_H} {π : Nat → Nat → Option Nat} {N : Nat} {h : z_H} {v0 : Nat} {v1 : Int32} (T : q_U L W h0 π h) (kv0 : q_M L π v0) (wM : ∀ a, v0 ≤ a → a < v0 + 46 → W a) : qk (f_Mod_fail N v0 v1 h) (fun r => q_U L W h0 π r.2 ∧ (r.1 = 0) ∧ (∀ a k, vI r.2 a k = if a = v0 ∧ k = 6 then v1 else vI h a k) ∧ (∀ a j, vA r.2 a j = vA h a j)) := by
  unfold f_Mod_fail
  refine w_Mo_6 T kv0 (by first | with_reducible assumption | grind | lia) ?_
  intro h1 Th1 ih1 ah1
  refine qk_some ?_
  exact ⟨Th1, (by first | with_reducible assumption | grind | lia), (by first | with_reducible assumption | grind | lia), (by intro a j ; rw [ah1])⟩
theorem c_Mod_fail {L : q_L} {W : Nat → Prop} {h0 : z_H} {π : Nat → Nat → Option Nat} {N : Nat} {h : z_H} {v0 : Nat} {v1 : Int32} {β : Type} {f : Int32 × z_H → Option β} {Q : β → Prop} (T : q_U L W h0 π h) (kv0 : q_M L π v0) (wM : ∀ a, v0 ≤ a → a < v0 + 46 → W a) (H : ∀ y h', q_U L W h0 π h' → (y = 0) → (∀ a k, vI h' a k = if a = v0 ∧ k = 6 then v1 else vI h a k) → (∀ a j, vA h' a j = vA h a j) → qk (f (y, h')) Q) : qk (z_b (f_Mod_fail N v0 v1 h) f) Q := by
  refine qk_b (p_Mod_fail T kv0 wM) ?_
  rintro ⟨y, hz⟩ ⟨Tz, g0, g1, g2⟩
  exact H y hz Tz g0 g1 g2

set_option maxHeartbeats 1000000 in
theorem p_Mod_here {L : q_L} {W : Nat → Prop} {h0 : z_H} {π : Nat → Nat → Option Nat} {N : Nat} {h : z_H} {v0 : Nat} (T : q_U L W h0 π h) (kv0 : q_M L π v0)  : qk (f_Mod_here N v0 h) (fun r => r.2 = h ∧ (-1 ≤ r.1 ∧ r.1 ≤ 126) ∧ (r.1 = -1 → vI h v0 3 ≤ vI h v0 41) ∧ (r.1 ≠ -1 → vI h v0 41 < vI h v0 3) ∧ (r.1 ≠ -1 → vI h v0 41 < 240)) := by
  unfold f_Mod_here
  refine r_Mo_41 T kv0 ?_
  intro x1 ex1 lx1 ux1
  subst ex1
  refine r_Mo_3 T kv0 ?_
  intro x2 ex2 lx2 ux2
  subst ex2
  refine qk_if (fun cc1 => ?_) (fun cc1 => ?_)
  · skip
    refine qk_some ?_
    exact ⟨rfl, (by first | with_reducible assumption | grind | lia), (by first | with_reducible assumption | grind | lia), (by first | with_reducible assumption | grind | lia), (by first | with_reducible assumption | grind | lia)⟩
  · skip
    refine r_Mo_0 T kv0 ?_
    refine r_Mo_41 T kv0 ?_
    intro x5 ex5 lx5 ux5
    subst ex5
    refine r_Mo_e1 T kv0 (by first | with_reducible assumption | grind | lia) (by first | with_reducible assumption | grind | lia) ?_
    intro x6 ex6 lx6 ux6
    subst ex6
    refine qk_some ?_
    exact ⟨rfl, (by first | with_reducible assumption | grind | lia), (by first | with_reducible assumption | grind | lia), (by first | with_reducible assumption | grind | lia), (by first | with_reducible assumption | grind | lia)⟩
theorem c_Mod_here {L : q_L} {W : Nat → Prop} {h0 : z_H} {π : Nat → Nat → Option Nat} {N : Nat} {h : z_H} {v0 : Nat} {β : Type} {f : Int32 × z_H → Option β} {Q : β → Prop} (T : q_U L W h0 π h) (kv0 : q_M L π v0)  (H : ∀ y, (-1 ≤ y ∧ y ≤ 126) → (y = -1 → vI h v0 3 ≤ vI h v0 41) → (y ≠ -1 → vI h v0 41 < vI h v0 3) → (y ≠ -1 → vI h v0 41 < 240) → qk (f (y, h)) Q) : qk (z_b (f_Mod_here N v0 h) f) Q := by
  refine qk_b (p_Mod_here T kv0 ) ?_
  rintro ⟨y, hz⟩ ⟨hy, g0, g1, g2, g3⟩
  try dsimp only at *
  subst hy
  exact H y g0 g1 g2 g3

set_option maxHeartbeats 1000000 in
theorem p_Mod_behind {L : q_L} {W : Nat → Prop} {h0 : z_H} {π : Nat → Nat → Option Nat} {N : Nat} {h : z_H} {v0 : Nat} (T : q_U L W h0 π h) (kv0 : q_M L π v0)  : qk (f_Mod_behind N v0 h) (fun r => r.2 = h ∧ (-1 ≤ r.1 ∧ r.1 ≤ 126) ∧ (r.1 ≠ -1 → vI h v0 41 + 1 < vI h v0 3)) := by
  unfold f_Mod_behind
  refine r_Mo_41 T kv0 ?_
  intro x1 ex1 lx1 ux1
  subst ex1
  refine r_Mo_3 T kv0 ?_
  intro x2 ex2 lx2 ux2
  subst ex2
  refine qk_if (fun cc1 => ?_) (fun cc1 => ?_)
  · skip
    refine qk_some ?_
    exact ⟨rfl, (by first | with_reducible assumption | grind | lia), (by first | with_reducible assumption | grind | lia)⟩
  · skip
    refine r_Mo_0 T kv0 ?_
    refine r_Mo_41 T kv0 ?_
    intro x5 ex5 lx5 ux5
    subst ex5
    refine r_Mo_e1 T kv0 (by first | with_reducible assumption | grind | lia) (by first | with_reducible assumption | grind | lia) ?_
    intro x6 ex6 lx6 ux6
    subst ex6
    refine qk_some ?_
    exact ⟨rfl, (by first | with_reducible assumption | grind | lia), (by first | with_reducible assumption | grind | lia)⟩
theorem c_Mod_behind {L : q_L} {W : Nat → Prop} {h0 : z_H} {π : Nat → Nat → Option Nat} {N : Nat} {h : z_H} {v0 : Nat} {β : Type} {f : Int32 × z_H → Option β} {Q : β → Prop} (T : q_U L W h0 π h) (kv0 : q_M L π v0)  (H : ∀ y, (-1 ≤ y ∧ y ≤ 126) → (y ≠ -1 → vI h v0 41 + 1 < vI h v0 3) → qk (f (y, h)) Q) : qk (z_b (f_Mod_behind N v0 h) f) Q := by
  refine qk_b (p_Mod_behind T kv0 ) ?_
  rintro ⟨y, hz⟩ ⟨hy, g0, g1⟩
  try dsimp only at *
  subst hy
  exact H y g0 g1

set_option maxHeartbeats 1000000 in
theorem p_Mod_wrong {L : q_L} {W : Nat → Prop} {h0 : z_H} {π : Nat → Nat → Option Nat} {N : Nat} {h : z_H} {v0 : Nat} {v1 : Int32} (T : q_U L W h0 π h) (kv0 : q_M L π v0) (wM : ∀ a, v0 ≤ a → a < v0 + 46 → W a) : qk (f_Mod_wrong N v0 v1 h) (fun r => q_U L W h0 π r ∧ (∀ a k, ¬ (a = v0 ∧ (k = 5 ∨ k = 48)) → vI r a k = vI h a k) ∧ (vI r v0 48 = 1) ∧ (∀ a j, vA r a j = vA h a j)) := by
  unfold f_Mod_wrong
  refine r_Mo_48 T kv0 ?_
  intro x1 ex1
  subst ex1
  refine qk_if (fun cc1 => ?_) (fun cc1 => ?_)
  · skip
    refine w_Mo_5 T kv0 (by first | with_reducible assumption | grind | lia) ?_
    intro h3 Th3 ih3 ah3
    unfold f_Mod_wrong_12
    refine w_Mo_48 Th3 kv0 (by first | with_reducible assumption | grind | lia) ?_
    intro h1i2 Th1i2 ih1i2 ah1i2
    refine qk_some ?_
    exact ⟨Th1i2, (by intro a k n0; rw [ih1i2, if_neg (by omega), ih3, if_neg (by omega)]), (by first | with_reducible assumption | grind | lia), (by intro a j ; rw [ah1i2, ah3])⟩
  · skip
    unfold f_Mod_wrong_12
    refine w_Mo_48 T kv0 (by first | with_reducible assumption | grind | lia) ?_
    intro h1i3 Th1i3 ih1i3 ah1i3
    refine qk_some ?_
    exact ⟨Th1i3, (by intro a k n0; rw [ih1i3, if_neg (by omega)]), (by first | with_reducible assumption | grind | lia), (by intro a j ; rw [ah1i3])⟩
theorem c_Mod_wrong {L : q_L} {W : Nat → Prop} {h0 : z_H} {π : Nat → Nat → Option Nat} {N : Nat} {h : z_H} {v0 : Nat} {v1 : Int32} {β : Type} {f : z_H → Option β} {Q : β → Prop} (T : q_U L W h0 π h) (kv0 : q_M L π v0) (wM : ∀ a, v0 ≤ a → a < v0 + 46 → W a) (H : ∀ h', q_U L W h0 π h' → (∀ a k, ¬ (a = v0 ∧ (k = 5 ∨ k = 48)) → vI h' a k = vI h a k) → (vI h' v0 48 = 1) → (∀ a j, vA h' a j = vA h a j) → qk (f h') Q) : qk (z_b (f_Mod_wrong N v0 v1 h) f) Q := by
  refine qk_b (p_Mod_wrong T kv0 wM) ?_
  rintro hz ⟨Tz, g0, g1, g2⟩
  exact H hz Tz g0 g1 g2

set_option maxHeartbeats 1000000 in
theorem p_Mod_expect {L : q_L} {W : Nat → Prop} {h0 : z_H} {π : Nat → Nat → Option Nat} {N : Nat} {h : z_H} {v0 : Nat} {v1 : Int32} (T : q_U L W h0 π h) (kv0 : q_M L π v0) (wM : ∀ a, v0 ≤ a → a < v0 + 46 → W a) (b0 : v1 ≠ -1) : qk (f_Mod_expect N v0 v1 h) (fun r => q_U L W h0 π r ∧ (∀ a k, ¬ (a = v0 ∧ (k = 5 ∨ k = 48 ∨ k = 41)) → vI r a k = vI h a k) ∧ (∀ a j, vA r a j = vA h a j) ∧ (vI r v0 48 = 0 → vI h v0 48 = 0 ∧ vI r v0 41 = vI h v0 41 + 1 ∧ vI h v0 41 < vI h v0 3) ∧ (vI r v0 48 ≠ 0 → vI r v0 41 = vI h v0 41)) := by
  unfold f_Mod_expect
  refine r_Mo_48 T kv0 ?_
  intro x1 ex1
  subst ex1
  refine qk_if (fun cc1 => ?_) (fun cc1 => ?_)
  · skip
    refine r_Mo_o T kv0 ?_
    refine c_Mod_here (v0 := v0) T kv0 ?_
    intro yr4 gr4_0 gr4_1 gr4_2 gr4_3
    dsimp only
    refine qk_if (fun cc2 => ?_) (fun cc2 => ?_)
    · skip
      refine r_Mo_41 T kv0 ?_
      intro x9 ex9 lx9 ux9
      subst ex9
      refine w_Mo_41 T kv0 (by first | with_reducible assumption | grind | lia) (by first | with_reducible assumption | grind | lia) (by first | with_reducible assumption | grind | lia) ?_
      intro h10 Th10 ih10 ah10
      refine qk_some ?_
      exact ⟨Th10, (by intro a k n0; rw [ih10, if_neg (by omega)]), (by intro a j ; rw [ah10]), (by first | with_reducible assumption | grind | lia), (by first | with_reducible assumption | grind | lia)⟩
    · skip
      refine r_Mo_41 T kv0 ?_
      intro x6 ex6 lx6 ux6
      subst ex6
      refine r_Mo_o T kv0 ?_
      refine c_Mod_wrong (v0 := v0) (v1 := (vI h v0 41)) T kv0 (by first | with_reducible assumption | grind | lia) ?_
      intro r8 Tr8 gr8_0 gr8_1 gr8_2
      refine qk_some ?_
      exact ⟨Tr8, (by intro a k n0; rw [gr8_0 a k (by omega)]), (by intro a j ; rw [gr8_2 a j]), (by first | with_reducible assumption | grind | lia), (by first | with_reducible assumption | grind | lia)⟩
  · skip
    refine qk_some ?_
    exact ⟨T, (by intro a k n0; rfl), (by intro a j ; rfl), (by first | with_reducible assumption | grind | lia), (by first | with_reducible assumption | grind | lia)⟩
theorem c_Mod_expect {L : q_L} {W : Nat → Prop} {h0 : z_H} {π : Nat → Nat → Option Nat} {N : Nat} {h : z_H} {v0 : Nat} {v1 : Int32} {β : Type} {f : z_H → Option β} {Q : β → Prop} (T : q_U L W h0 π h) (kv0 : q_M L π v0) (wM : ∀ a, v0 ≤ a → a < v0 + 46 → W a) (b0 : v1 ≠ -1) (H : ∀ h', q_U L W h0 π h' → (∀ a k, ¬ (a = v0 ∧ (k = 5 ∨ k = 48 ∨ k = 41)) → vI h' a k = vI h a k) → (∀ a j, vA h' a j = vA h a j) → (vI h' v0 48 = 0 → vI h v0 48 = 0 ∧ vI h' v0 41 = vI h v0 41 + 1 ∧ vI h v0 41 < vI h v0 3) → (vI h' v0 48 ≠ 0 → vI h' v0 41 = vI h v0 41) → qk (f h') Q) : qk (z_b (f_Mod_expect N v0 v1 h) f) Q := by
  refine qk_b (p_Mod_expect T kv0 wM b0) ?_
  rintro hz ⟨Tz, g0, g1, g2, g3⟩
  exact H hz Tz g0 g1 g2 g3

set_option maxHeartbeats 1000000 in
theorem p_Mod_keep {L : q_L} {W : Nat → Prop} {h0 : z_H} {π : Nat → Nat → Option Nat} {N : Nat} {h : z_H} {v0 : Nat} {v1 : Int32} (T : q_U L W h0 π h) (kv0 : q_M L π v0) (wM : ∀ a, v0 ≤ a → a < v0 + 46 → W a) (b0 : -1 ≤ v1) (b1 : v1 ≤ 203) (b2 : vA h (v0 + 22) (vI h v0 42) ≤ 260) : qk (f_Mod_keep N v0 v1 h) (fun r => q_U L W h0 π r ∧ (∀ a k, vI r a k = vI h a k) ∧ (∀ a j, 0 ≤ j → vA r a j = if a = v0 + 22 ∧ j = vI h v0 42 then vA h (v0 + 22) (vI h v0 42) + 1 else if a = v0 + 28 ∧ j = 300 * vI h v0 42 + vA h (v0 + 22) (vI h v0 42) then v1 else vA h a j)) := by
  have rg_half := g_Mo_42 T kv0
  unfold f_Mod_keep
  refine r_Mo_33 T kv0 ?_
  refine r_Mo_42 T kv0 ?_
  intro x2 ex2 lx2 ux2
  subst ex2
  refine r_Mo_27 T kv0 ?_
  refine r_Mo_42 T kv0 ?_
  intro x4 ex4 lx4 ux4
  subst ex4
  refine r_Mo_e22 T kv0 (by first | with_reducible assumption | grind | lia) (by first | with_reducible assumption | grind | lia) ?_
  intro x5 ex5 lx5 ux5
  subst ex5
  refine w_Mo_e28 T kv0 (by first | with_reducible assumption | grind | lia) (by first | with_reducible assumption | grind | lia) (by first | with_reducible assumption | grind | lia) (by first | with_reducible assumption | grind | lia) (by first | with_reducible assumption | grind | lia) ?_
  intro h6 Th6 ih6 ah6
  refine r_Mo_27 Th6 kv0 ?_
  refine r_Mo_42 Th6 kv0 ?_
  intro x8 ex8 lx8 ux8
  subst ex8
  refine r_Mo_e22 Th6 kv0 (by first | with_reducible assumption | grind | lia) (by first | with_reducible assumption | grind | lia) ?_
  intro x9 ex9 lx9 ux9
  subst ex9
  refine w_Mo_e22 Th6 kv0 (by first | with_reducible assumption | grind | lia) (by first | with_reducible assumption | grind | lia) (by first | with_reducible assumption | grind | lia) (by first | with_reducible assumption | grind | lia) (by first | with_reducible assumption | grind | lia) ?_
  intro h10 Th10 ih10 ah10
  refine qk_some ?_
  exact ⟨Th10, (by intro a k ; rw [ih10, ih6]), (by first | with_reducible assumption | grind | lia)⟩
theorem c_Mod_keep {L : q_L} {W : Nat → Prop} {h0 : z_H} {π : Nat → Nat → Option Nat} {N : Nat} {h : z_H} {v0 : Nat} {v1 : Int32} {β : Type} {f : z_H → Option β} {Q : β → Prop} (T : q_U L W h0 π h) (kv0 : q_M L π v0) (wM : ∀ a, v0 ≤ a → a < v0 + 46 → W a) (b0 : -1 ≤ v1) (b1 : v1 ≤ 203) (b2 : vA h (v0 + 22) (vI h v0 42) ≤ 260) (H : ∀ h', q_U L W h0 π h' → (∀ a k, vI h' a k = vI h a k) → (∀ a j, 0 ≤ j → vA h' a j = if a = v0 + 22 ∧ j = vI h v0 42 then vA h (v0 + 22) (vI h v0 42) + 1 else if a = v0 + 28 ∧ j = 300 * vI h v0 42 + vA h (v0 + 22) (vI h v0 42) then v1 else vA h a j) → qk (f h') Q) : qk (z_b (f_Mod_keep N v0 v1 h) f) Q := by
  refine qk_b (p_Mod_keep T kv0 wM b0 b1 b2) ?_
  rintro hz ⟨Tz, g0, g1⟩
  exact H hz Tz g0 g1

set_option maxHeartbeats 1000000 in
theorem p_Mod_stored {L : q_L} {W : Nat → Prop} {h0 : z_H} {π : Nat → Nat → Option Nat} {N : Nat} {h : z_H} {v0 : Nat} (T : q_U L W h0 π h) (kv0 : q_M L π v0)  : qk (f_Mod_stored N v0 h) (fun r => r.2 = h ∧ (r.1 = 300 * vI h v0 42 + vA h (v0 + 22) (vI h v0 42))) := by
  unfold f_Mod_stored
  refine r_Mo_42 T kv0 ?_
  intro x1 ex1 lx1 ux1
  subst ex1
  refine r_Mo_27 T kv0 ?_
  refine r_Mo_42 T kv0 ?_
  intro x3 ex3 lx3 ux3
  subst ex3
  refine r_Mo_e22 T kv0 (by first | with_reducible assumption | grind | lia) (by first | with_reducible assumption | grind | lia) ?_
  intro x4 ex4 lx4 ux4
  subst ex4
  refine qk_some ?_
  exact ⟨rfl, (by first | with_reducible assumption | grind | lia)⟩
theorem c_Mod_stored {L : q_L} {W : Nat → Prop} {h0 : z_H} {π : Nat → Nat → Option Nat} {N : Nat} {h : z_H} {v0 : Nat} {β : Type} {f : Int32 × z_H → Option β} {Q : β → Prop} (T : q_U L W h0 π h) (kv0 : q_M L π v0)  (H : ∀ y, (y = 300 * vI h v0 42 + vA h (v0 + 22) (vI h v0 42)) → qk (f (y, h)) Q) : qk (z_b (f_Mod_stored N v0 h) f) Q := by
  refine qk_b (p_Mod_stored T kv0 ) ?_
  rintro ⟨y, hz⟩ ⟨hy, g0⟩
  try dsimp only at *
  subst hy
  exact H y g0

set_option maxHeartbeats 2000000 in
theorem p_Mod_addItem {L : q_L} {W : Nat → Prop} {h0 : z_H} {π : Nat → Nat → Option Nat} {N : Nat} {h : z_H} {v0 : Nat} {v1 : Int32} {v2 : Int32} {v3 : Int32} (T : q_U L W h0 π h) (kv0 : q_M L π v0) (wM : ∀ a, v0 ≤ a → a < v0 + 46 → W a) (bd : vI h v0 48 = 0) (b0 : 0 ≤ v1) (b1 : v1 ≤ 5) (itb : vA h (v0 + 21) (vI h v0 42) ≤ 245) : qk (f_Mod_addItem N v0 v1 v2 v3 h) (fun r => q_U L W h0 π r ∧ (∀ a k, ¬ (a = v0 ∧ (k = 5 ∨ k = 46 ∨ k = 48 ∨ k = 50)) → vI r a k = vI h a k) ∧ (∀ a j, 0 ≤ j → ¬ (a = v0 + 21 ∨ a = v0 + 26 ∨ a = v0 + 27 ∨ a = v0 + 29) → vA r a j = vA h a j) ∧ (∀ j, 0 ≤ j → j ≠ vI h v0 42 → vA r (v0 + 21) j = vA h (v0 + 21) j) ∧ (∀ j, 0 ≤ j → j ≠ (260 * vI h v0 42 + vA h (v0 + 21) (vI h v0 42)) → vA r (v0 + 26) j = vA h (v0 + 26) j ∧ vA r (v0 + 27) j = vA h (v0 + 27) j) ∧ (vI r v0 48 = 0 → vA r (v0 + 26) (260 * vI h v0 42 + vA h (v0 + 21) (vI h v0 42)) = v1 ∧ vA r (v0 + 27) (260 * vI h v0 42 + vA h (v0 + 21) (vI h v0 42)) = v2 ∧ vA r (v0 + 21) (vI h v0 42) = vA h (v0 + 21) (vI h v0 42) + 1) ∧ (vI r v0 48 ≠ 0 → vA r (v0 + 21) (vI h v0 42) = vA h (v0 + 21) (vI h v0 42))) := by
  have rg_half := g_Mo_42 T kv0
  have re_items := g_Mo_e21 T kv0 (vI h v0 42)
  unfold f_Mod_addItem
  refine qk_if (fun cc1 => ?_) (fun cc1 => ?_)
  · skip
    unfold f_Mod_addItem_10
    refine qk_if (fun _ => ?_) (fun cc3 => absurd (by decide) cc3)
    unfold f_Mod_addItem_32
    refine qk_if (fun _ => ?_) (fun cc5 => absurd (by decide) cc5)
    unfold f_Mod_addItem_47
    refine r_Mo_42 T kv0 ?_
    intro x1i6 ex1i6 lx1i6 ux1i6
    subst ex1i6
    refine r_Mo_26 T kv0 ?_
    refine r_Mo_42 T kv0 ?_
    intro x3i6 ex3i6 lx3i6 ux3i6
    subst ex3i6
    refine r_Mo_e21 T kv0 (by first | with_reducible assumption | grind | lia) (by first | with_reducible assumption | grind | lia) ?_
    intro x4i6 ex4i6 lx4i6 ux4i6
    subst ex4i6
    refine qk_bs ?_
    refine r_Mo_31 T kv0 ?_
    refine w_Mo_e26 T kv0 (by first | with_reducible assumption | grind | lia) (by first | with_reducible assumption | grind | lia) (by first | with_reducible assumption | grind | lia) (by first | with_reducible assumption | grind | lia) (by first | with_reducible assumption | grind | lia) ?_
    intro h7i6 Th7i6 ih7i6 ah7i6
    refine r_Mo_32 Th7i6 kv0 ?_
    refine w_Mo_e27 Th7i6 kv0 (by first | with_reducible assumption | grind | lia) (by first | with_reducible assumption | grind | lia) (by first | with_reducible assumption | grind | lia) ?_
    intro h9i6 Th9i6 ih9i6 ah9i6
    refine r_Mo_34 Th9i6 kv0 ?_
    refine w_Mo_e29 Th9i6 kv0 (by first | with_reducible assumption | grind | lia) (by first | with_reducible assumption | grind | lia) (by first | with_reducible assumption | grind | lia) ?_
    intro h11i6 Th11i6 ih11i6 ah11i6
    refine r_Mo_37 Th11i6 kv0 ?_
    refine w_Mo_e32 Th11i6 kv0 (by first | with_reducible assumption | grind | lia) (by first | with_reducible assumption | grind | lia) (by first | with_reducible assumption | grind | lia) ?_
    intro h13i6 Th13i6 ih13i6 ah13i6
    refine r_Mo_38 Th13i6 kv0 ?_
    refine w_Mo_e33 Th13i6 kv0 (by first | with_reducible assumption | grind | lia) (by first | with_reducible assumption | grind | lia) (by first | with_reducible assumption | grind | lia) ?_
    intro h15i6 Th15i6 ih15i6 ah15i6
    refine r_Mo_26 Th15i6 kv0 ?_
    refine r_Mo_42 Th15i6 kv0 ?_
    intro x17i6 ex17i6 lx17i6 ux17i6
    subst ex17i6
    refine r_Mo_e21 Th15i6 kv0 (by first | with_reducible assumption | grind | lia) (by first | with_reducible assumption | grind | lia) ?_
    intro x18i6 ex18i6 lx18i6 ux18i6
    subst ex18i6
    refine w_Mo_e21 Th15i6 kv0 (by first | with_reducible assumption | grind | lia) (by first | with_reducible assumption | grind | lia) (by first | with_reducible assumption | grind | lia) (by first | with_reducible assumption | grind | lia) (by first | with_reducible assumption | grind | lia) ?_
    intro h19i6 Th19i6 ih19i6 ah19i6
    refine qk_if (fun cc7 => ?_) (fun cc7 => ?_)
    · skip
      refine w_Mo_50 Th19i6 kv0 (by first | with_reducible assumption | grind | lia) ?_
      intro h21i6 Th21i6 ih21i6 ah21i6
      refine qk_some ?_
      exact ⟨Th21i6, (by intro a k n0; rw [ih21i6, if_neg (by omega), ih19i6, ih15i6, ih13i6, ih11i6, ih9i6, ih7i6]), (by intro a j j0 n0; rw [ah21i6, ah19i6 a j j0, if_neg (by omega), ah15i6, ah13i6, ah11i6 a j j0, if_neg (by omega), ah9i6 a j j0, if_neg (by omega), ah7i6 a j j0, if_neg (by omega)]), (by first | with_reducible assumption | grind | lia), (by first | with_reducible assumption | grind | lia), (by first | with_reducible assumption | grind | lia), (by first | with_reducible assumption | grind | lia)⟩
    · skip
      refine w_Mo_50 Th19i6 kv0 (by first | with_reducible assumption | grind | lia) ?_
      intro h22i6 Th22i6 ih22i6 ah22i6
      refine qk_some ?_
      exact ⟨Th22i6, (by intro a k n0; rw [ih22i6, if_neg (by omega), ih19i6, ih15i6, ih13i6, ih11i6, ih9i6, ih7i6]), (by intro a j j0 n0; rw [ah22i6, ah19i6 a j j0, if_neg (by omega), ah15i6, ah13i6, ah11i6 a j j0, if_neg (by omega), ah9i6 a j j0, if_neg (by omega), ah7i6 a j j0, if_neg (by omega)]), (by first | with_reducible assumption | grind | lia), (by first | with_reducible assumption | grind | lia), (by first | with_reducible assumption | grind | lia), (by first | with_reducible assumption | grind | lia)⟩
  · skip
    unfold f_Mod_addItem_10
    refine qk_if (fun cc9 => absurd cc9 (by decide)) (fun _ => ?_)
    refine r_Mo_46 T kv0 ?_
    intro x2i8 ex2i8
    subst ex2i8
    refine qk_if (fun cc10 => ?_) (fun cc10 => ?_)
    · skip
      refine r_Mo_o T kv0 ?_
      refine c_Mod_wrong (v0 := v0) (v1 := v3) T kv0 (by first | with_reducible assumption | grind | lia) ?_
      intro r5i8 Tr5i8 gr5i8_0 gr5i8_1 gr5i8_2
      refine qk_some ?_
      exact ⟨Tr5i8, (by intro a k n0; rw [gr5i8_0 a k (by omega)]), (by intro a j j0 n0; rw [gr5i8_2 a j]), (by first | with_reducible assumption | grind | lia), (by first | with_reducible assumption | grind | lia), (by first | with_reducible assumption | grind | lia), (by first | with_reducible assumption | grind | lia)⟩
    · skip
      unfold f_Mod_addItem_32
      refine qk_if (fun cc12 => absurd cc12 (by decide)) (fun _ => ?_)
      refine r_Mo_46 T kv0 ?_
      intro x2i11 ex2i11
      subst ex2i11
      refine w_Mo_46 T kv0 (by first | with_reducible assumption | grind | lia) ?_
      intro h3i11 Th3i11 ih3i11 ah3i11
      unfold f_Mod_addItem_47
      refine r_Mo_42 Th3i11 kv0 ?_
      intro x1i13 ex1i13 lx1i13 ux1i13
      subst ex1i13
      refine r_Mo_26 Th3i11 kv0 ?_
      refine r_Mo_42 Th3i11 kv0 ?_
      intro x3i13 ex3i13 lx3i13 ux3i13
      subst ex3i13
      refine r_Mo_e21 Th3i11 kv0 (by first | with_reducible assumption | grind | lia) (by first | with_reducible assumption | grind | lia) ?_
      intro x4i13 ex4i13 lx4i13 ux4i13
      subst ex4i13
      refine qk_bs ?_
      refine r_Mo_31 Th3i11 kv0 ?_
      refine w_Mo_e26 Th3i11 kv0 (by first | with_reducible assumption | grind | lia) (by first | with_reducible assumption | grind | lia) (by first | with_reducible assumption | grind | lia) (by first | with_reducible assumption | grind | lia) (by first | with_reducible assumption | grind | lia) ?_
      intro h7i13 Th7i13 ih7i13 ah7i13
      refine r_Mo_32 Th7i13 kv0 ?_
      refine w_Mo_e27 Th7i13 kv0 (by first | with_reducible assumption | grind | lia) (by first | with_reducible assumption | grind | lia) (by first | with_reducible assumption | grind | lia) ?_
      intro h9i13 Th9i13 ih9i13 ah9i13
      refine r_Mo_34 Th9i13 kv0 ?_
      refine w_Mo_e29 Th9i13 kv0 (by first | with_reducible assumption | grind | lia) (by first | with_reducible assumption | grind | lia) (by first | with_reducible assumption | grind | lia) ?_
      intro h11i13 Th11i13 ih11i13 ah11i13
      refine r_Mo_37 Th11i13 kv0 ?_
      refine w_Mo_e32 Th11i13 kv0 (by first | with_reducible assumption | grind | lia) (by first | with_reducible assumption | grind | lia) (by first | with_reducible assumption | grind | lia) ?_
      intro h13i13 Th13i13 ih13i13 ah13i13
      refine r_Mo_38 Th13i13 kv0 ?_
      refine w_Mo_e33 Th13i13 kv0 (by first | with_reducible assumption | grind | lia) (by first | with_reducible assumption | grind | lia) (by first | with_reducible assumption | grind | lia) ?_
      intro h15i13 Th15i13 ih15i13 ah15i13
      refine r_Mo_26 Th15i13 kv0 ?_
      refine r_Mo_42 Th15i13 kv0 ?_
      intro x17i13 ex17i13 lx17i13 ux17i13
      subst ex17i13
      refine r_Mo_e21 Th15i13 kv0 (by first | with_reducible assumption | grind | lia) (by first | with_reducible assumption | grind | lia) ?_
      intro x18i13 ex18i13 lx18i13 ux18i13
      subst ex18i13
      refine w_Mo_e21 Th15i13 kv0 (by first | with_reducible assumption | grind | lia) (by first | with_reducible assumption | grind | lia) (by first | with_reducible assumption | grind | lia) (by first | with_reducible assumption | grind | lia) (by first | with_reducible assumption | grind | lia) ?_
      intro h19i13 Th19i13 ih19i13 ah19i13
      refine qk_if (fun cc14 => ?_) (fun cc14 => ?_)
      · skip
        refine w_Mo_50 Th19i13 kv0 (by first | with_reducible assumption | grind | lia) ?_
        intro h21i13 Th21i13 ih21i13 ah21i13
        refine qk_some ?_
        exact ⟨Th21i13, (by intro a k n0; rw [ih21i13, if_neg (by omega), ih19i13, ih15i13, ih13i13, ih11i13, ih9i13, ih7i13, ih3i11, if_neg (by omega)]), (by intro a j j0 n0; rw [ah21i13, ah19i13 a j j0, if_neg (by omega), ah15i13, ah13i13, ah11i13 a j j0, if_neg (by omega), ah9i13 a j j0, if_neg (by omega), ah7i13 a j j0, if_neg (by omega), ah3i11]), (by first | with_reducible assumption | grind | lia), (by first | with_reducible assumption | grind | lia), (by first | with_reducible assumption | grind | lia), (by first | with_reducible assumption | grind | lia)⟩
      · skip
        refine w_Mo_50 Th19i13 kv0 (by first | with_reducible assumption | grind | lia) ?_
        intro h22i13 Th22i13 ih22i13 ah22i13
        refine qk_some ?_
        exact ⟨Th22i13, (by intro a k n0; rw [ih22i13, if_neg (by omega), ih19i13, ih15i13, ih13i13, ih11i13, ih9i13, ih7i13, ih3i11, if_neg (by omega)]), (by intro a j j0 n0; rw [ah22i13, ah19i13 a j j0, if_neg (by omega), ah15i13, ah13i13, ah11i13 a j j0, if_neg (by omega), ah9i13 a j j0, if_neg (by omega), ah7i13 a j j0, if_neg (by omega), ah3i11]), (by first | with_reducible assumption | grind | lia), (by first | with_reducible assumption | grind | lia), (by first | with_reducible assumption | grind | lia), (by first | with_reducible assumption | grind | lia)⟩
theorem c_Mod_addItem {L : q_L} {W : Nat → Prop} {h0 : z_H} {π : Nat → Nat → Option Nat} {N : Nat} {h : z_H} {v0 : Nat} {v1 : Int32} {v2 : Int32} {v3 : Int32} {β : Type} {f : z_H → Option β} {Q : β → Prop} (T : q_U L W h0 π h) (kv0 : q_M L π v0) (wM : ∀ a, v0 ≤ a → a < v0 + 46 → W a) (bd : vI h v0 48 = 0) (b0 : 0 ≤ v1) (b1 : v1 ≤ 5) (itb : vA h (v0 + 21) (vI h v0 42) ≤ 245) (H : ∀ h', q_U L W h0 π h' → (∀ a k, ¬ (a = v0 ∧ (k = 5 ∨ k = 46 ∨ k = 48 ∨ k = 50)) → vI h' a k = vI h a k) → (∀ a j, 0 ≤ j → ¬ (a = v0 + 21 ∨ a = v0 + 26 ∨ a = v0 + 27 ∨ a = v0 + 29) → vA h' a j = vA h a j) → (∀ j, 0 ≤ j → j ≠ vI h v0 42 → vA h' (v0 + 21) j = vA h (v0 + 21) j) → (∀ j, 0 ≤ j → j ≠ (260 * vI h v0 42 + vA h (v0 + 21) (vI h v0 42)) → vA h' (v0 + 26) j = vA h (v0 + 26) j ∧ vA h' (v0 + 27) j = vA h (v0 + 27) j) → (vI h' v0 48 = 0 → vA h' (v0 + 26) (260 * vI h v0 42 + vA h (v0 + 21) (vI h v0 42)) = v1 ∧ vA h' (v0 + 27) (260 * vI h v0 42 + vA h (v0 + 21) (vI h v0 42)) = v2 ∧ vA h' (v0 + 21) (vI h v0 42) = vA h (v0 + 21) (vI h v0 42) + 1) → (vI h' v0 48 ≠ 0 → vA h' (v0 + 21) (vI h v0 42) = vA h (v0 + 21) (vI h v0 42)) → qk (f h') Q) : qk (z_b (f_Mod_addItem N v0 v1 v2 v3 h) f) Q := by
  refine qk_b (p_Mod_addItem T kv0 wM bd b0 b1 itb) ?_
  rintro hz ⟨Tz, g0, g1, g2, g3, g4, g5⟩
  exact H hz Tz g0 g1 g2 g3 g4 g5
