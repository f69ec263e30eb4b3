/-- items of a pattern: groups are opened once, closed once, behind their opening; what is said again was closed -/
def q_V (kd gr : Int32 → Int32) (f t : Int32) : Prop := ∀ i, f ≤ i → i < t →
  (kd i = 1 → ∀ j, f ≤ j → j < i → (kd j = 1 ∨ kd j = 2) → gr j ≠ gr i) ∧
  (kd i = 2 → (∃ j, f ≤ j ∧ j < i ∧ kd j = 1 ∧ gr j = gr i) ∧ ∀ j, f ≤ j → j < i → kd j = 2 → gr j ≠ gr i) ∧
  (kd i = 3 → ∃ j, f ≤ j ∧ j < i ∧ kd j = 2 ∧ gr j = gr i)
/-- what was tried of the groups up to an item, at a place -/
def q_S (kd gr tb te : Int32 → Int32) (f i p : Int32) : Prop := ∀ j, f ≤ j → j < i → (kd j = 1 → 0 ≤ tb (gr j) ∧ tb (gr j) ≤ p) ∧ (kd j = 2 → 0 ≤ tb (gr j) ∧ tb (gr j) ≤ te (gr j) ∧ te (gr j) ≤ p)
theorem q_S_eq {kd gr tb te tb' te' : Int32 → Int32} {f i p p' : Int32} (hf : 0 ≤ f) (hg : ∀ j, 0 ≤ j → 0 ≤ gr j) (S : q_S kd gr tb te f i p) (hp : p ≤ p') (e1 : ∀ j, 0 ≤ j → tb' j = tb j) (e2 : ∀ j, 0 ≤ j → te' j = te j) : q_S kd gr tb' te' f i p' := by
  intro j h1 h2
  have s := S j h1 h2
  have g := hg j (Int32.le_trans hf h1)
  rw [e1 _ g, e2 _ g]
  grind
theorem q_S_open {kd gr tb te tb' te' : Int32 → Int32} {f t i b p q : Int32} (hf : 0 ≤ f) (hg : ∀ j, 0 ≤ j → 0 ≤ gr j) (V : q_V kd gr f t) (h1 : f ≤ i) (h2 : i < t) (hk : kd i = 1) (hb : b ≤ i) (S : q_S kd gr tb te f b p) (e1 : ∀ j, 0 ≤ j → tb' j = if j = gr i then q else tb j) (e2 : ∀ j, 0 ≤ j → te' j = te j) : q_S kd gr tb' te' f b p := by
  intro j a1 a2
  have s := S j a1 a2
  have g := hg j (Int32.le_trans hf a1)
  rw [e1 _ g, e2 _ g]
  have v := (V i h1 h2).1 hk j a1 (by lia)
  grind
theorem q_S_open1 {kd gr tb te tb' te' : Int32 → Int32} {f t i p : Int32} (hf : 0 ≤ f) (hg : ∀ j, 0 ≤ j → 0 ≤ gr j) (V : q_V kd gr f t) (h1 : f ≤ i) (h2 : i < t) (ht : t ≤ 240) (hk : kd i = 1) (hp : 0 ≤ p) (S : q_S kd gr tb te f i p) (e1 : ∀ j, 0 ≤ j → tb' j = if j = gr i then p else tb j) (e2 : ∀ j, 0 ≤ j → te' j = te j) : q_S kd gr tb' te' f (i + 1) p := by
  have S' := q_S_open hf hg V h1 h2 hk (Int32.le_refl i) S e1 e2
  intro j a1 a2
  by_cases q : j = i
  · subst q
    have g := hg j (Int32.le_trans hf a1)
    rw [e1 _ g]
    grind
  · exact S' j a1 (by lia)
theorem q_S_close {kd gr tb te tb' te' : Int32 → Int32} {f t i b p q : Int32} (hf : 0 ≤ f) (hg : ∀ j, 0 ≤ j → 0 ≤ gr j) (V : q_V kd gr f t) (h1 : f ≤ i) (h2 : i < t) (hk : kd i = 2) (hb : b ≤ i) (S : q_S kd gr tb te f b p) (e1 : ∀ j, 0 ≤ j → te' j = if j = gr i then q else te j) (e2 : ∀ j, 0 ≤ j → tb' j = tb j) : q_S kd gr tb' te' f b p := by
  intro j a1 a2
  have s := S j a1 a2
  have g := hg j (Int32.le_trans hf a1)
  rw [e1 _ g, e2 _ g]
  have v := ((V i h1 h2).2.1 hk).2 j a1 (by lia)
  grind
theorem q_S_close1 {kd gr tb te tb' te' : Int32 → Int32} {f t i p : Int32} (hf : 0 ≤ f) (hg : ∀ j, 0 ≤ j → 0 ≤ gr j) (V : q_V kd gr f t) (h1 : f ≤ i) (h2 : i < t) (ht : t ≤ 240) (hk : kd i = 2) (S : q_S kd gr tb te f i p) (e1 : ∀ j, 0 ≤ j → te' j = if j = gr i then p else te j) (e2 : ∀ j, 0 ≤ j → tb' j = tb j) : q_S kd gr tb' te' f (i + 1) p := by
  have S' := q_S_close hf hg V h1 h2 hk (Int32.le_refl i) S e1 e2
  intro j a1 a2
  by_cases q : j = i
  · subst q
    have g := hg j (Int32.le_trans hf a1)
    obtain ⟨j0, b1, b2, b3, b4⟩ := ((V j h1 h2).2.1 hk).1
    have s := (S j0 b1 b2).1 b3
    rw [b4] at s
    rw [e1 _ g, e2 _ g]
    grind
  · exact S' j a1 (by lia)
theorem q_S_one {kd gr tb te : Int32 → Int32} {f i p : Int32} (hi : i ≤ 240) (hk : kd i ≠ 1 ∧ kd i ≠ 2) (S : q_S kd gr tb te f i p) : q_S kd gr tb te f (i + 1) p := by
  intro j a1 a2
  by_cases q : j = i
  · subst q; grind
  · exact S j a1 (by lia)
theorem q_S_same {kd gr tb te : Int32 → Int32} {f t i p : Int32} (V : q_V kd gr f t) (h1 : f ≤ i) (h2 : i < t) (hk : kd i = 3) (S : q_S kd gr tb te f i p) : 0 ≤ tb (gr i) ∧ tb (gr i) ≤ te (gr i) ∧ te (gr i) ≤ p := by
  obtain ⟨j, b1, b2, b3, b4⟩ := (V i h1 h2).2.2 hk
  have s := (S j b1 b2).2 b3
  rw [b4] at s
  exact s
theorem q_S_mono {kd gr tb te : Int32 → Int32} {f i p p' : Int32} (S : q_S kd gr tb te f i p) (hp : p ≤ p') : q_S kd gr tb te f i p' := by
  intro j h1 h2
  have s := S j h1 h2
  grind
theorem q_neIM {L : q_L} {W : Nat → Prop} {h0 : z_H} {π : Nat → Nat → Option Nat} {h : z_H} {it v0 : Nat} (T : q_U L W h0 π h) (ki : qκ L it = 5) (km : qκ L v0 = 6) : it + 1 ≠ v0 + 3 ∧ it + 1 ≠ v0 + 4 ∧ it + 2 ≠ v0 + 3 ∧ it + 2 ≠ v0 + 4 := by
  have cma := q_CMa T km
  have cit := q_CIt T ki
  unfold q_C_Ma at cma
  unfold q_C_It at cit
  refine ⟨?_, ?_, ?_, ?_⟩ <;> intro e <;> have e1 := congrArg (qκ L) e <;> grind
theorem q_neIM8 {L : q_L} {W : Nat → Prop} {h0 : z_H} {π : Nat → Nat → Option Nat} {h : z_H} {it v0 : Nat} (T : q_U L W h0 π h) (ki : qκ L it = 5) (km : qκ L v0 = 6) : it + 1 ≠ v0 + 1 ∧ it + 1 ≠ v0 + 2 ∧ it + 1 ≠ v0 + 3 ∧ it + 1 ≠ v0 + 4 ∧ it + 2 ≠ v0 + 1 ∧ it + 2 ≠ v0 + 2 ∧ it + 2 ≠ v0 + 3 ∧ it + 2 ≠ v0 + 4 := by
  have cma := q_CMa T km
  have cit := q_CIt T ki
  unfold q_C_Ma at cma
  unfold q_C_It at cit
  refine ⟨?_, ?_, ?_, ?_, ?_, ?_, ?_, ?_⟩ <;> intro e <;> have e1 := congrArg (qκ L) e <;> grind
theorem q_z0 {x : Int32} (h : x = 0) : x ≠ 1 ∧ x ≠ 2 := by subst h; decide
theorem q_S_nil {kd gr tb te : Int32 → Int32} {f p : Int32} : q_S kd gr tb te f f p := fun j a b => absurd b (by lia)
theorem q_c4 {v4 v5 ln : Int32} (c4 : (v4 = -1 ∧ v5 = -1) ∨ (0 ≤ v4 ∧ v4 ≤ ln ∧ v4 ≤ v5 ∧ v5 ≤ ln + 1)) (c1 : ¬ v5 < 0) (c2 : ¬ ln < v5) (h6 : ln ≤ 600) : (v4 = -1 ∧ v5 + 1 = -1) ∨ (0 ≤ v4 ∧ v4 ≤ ln ∧ v4 ≤ v5 + 1 ∧ v5 + 1 ≤ ln + 1) := by
  rcases c4 with ⟨a, b⟩ | ⟨a, b, c, d⟩
  · exact absurd b (by lia)
  · exact Or.inr ⟨a, b, by lia, by lia⟩
set_option maxHeartbeats 1000000 in
theorem p_Ma_standsAgain_36_n {L : q_L} {W : Nat → Prop} {h0 : z_H} {π : Nat → Nat → Option Nat} {N : Nat} {tx : Nat} {lo : Nat → Int32} (hqn : q_Q lo 601) : ∀ (n : Nat) (v0 : Nat) (v2 : Int32) (v3 : Int32) (v4 : Int32) (v5 : Int32) (h : z_H), q_U L W h0 π h → qκ L v0 = 6 → (qκ L tx = 11) → (π v0 4 = some tx) → (0 ≤ v2) → (0 ≤ v3) → (0 ≤ v5) → (v5 ≤ 600) → (v4 ≤ 600) → (v2 ≤ 600) → (v3 ≤ 600) → (v2 + v4 ≤ vI h tx 1) → (v3 + v4 ≤ vI h tx 1) → (vI h tx 1 ≤ qhi L tx 1) → (-600 ≤ v4) → (lo n ≤ v5) → qk (f_Ma_standsAgain_36 N  n v0 v2 v3 v4 v5 h) (fun r => r.2 = h ∧ (r.1 = 0 ∨ r.1 = 1)) := by
  intro n
  induction n with
  | zero => intro v0 v2 v3 v4 v5 h T kv0 ktx ptx b0 b1 b2 b3 b4 b5 b6 b7 b8 b9 bx hms; have hr_tx := q_rowhi T ktx; have hz := hqn.1; exact absurd hms (by grind)
  | succ n ih =>
    intro v0 v2 v3 v4 v5 h T kv0 ktx ptx b0 b1 b2 b3 b4 b5 b6 b7 b8 b9 bx hms
    obtain ⟨hq1, hq2, hq3⟩ := hqn.2 n
    rw [f_Ma_standsAgain_36]
    have hr_tx := q_rowhi T ktx
    refine qk_if (fun cc1 => ?_) (fun cc1 => ?_)
    · skip
      refine qk_some ?_
      exact ⟨rfl, (by clear ih; first | with_reducible assumption | grind | grind (ematch := 40) (gen := 40) (liaSteps := 300000) | lia)⟩
    · skip
      refine r_Ma_4 T kv0 ptx ?_
      refine r_Row_0 T ktx ?_
      refine r_Row_e1 T ktx (by clear ih; first | with_reducible assumption | grind | grind (ematch := 40) (gen := 40) (liaSteps := 300000) | lia) (by clear ih; first | with_reducible assumption | grind | grind (ematch := 40) (gen := 40) (liaSteps := 300000) | lia) ?_
      intro x4 ex4 lx4 ux4
      subst ex4
      refine r_Ma_4 T kv0 ptx ?_
      refine r_Row_0 T ktx ?_
      refine r_Row_e1 T ktx (by clear ih; first | with_reducible assumption | grind | grind (ematch := 40) (gen := 40) (liaSteps := 300000) | lia) (by clear ih; first | with_reducible assumption | grind | grind (ematch := 40) (gen := 40) (liaSteps := 300000) | lia) ?_
      intro x7 ex7 lx7 ux7
      subst ex7
      refine qk_if (fun cc2 => ?_) (fun cc2 => ?_)
      · skip
        refine qk_bs ?_
        refine qk_mono (ih (v0) (v2) (v3) (v4) ((v5 + 1)) h T kv0 ktx ptx (by clear ih; first | with_reducible assumption | grind | grind (ematch := 40) (gen := 40) (liaSteps := 300000) | lia) (by clear ih; first | with_reducible assumption | grind | grind (ematch := 40) (gen := 40) (liaSteps := 300000) | lia) (by clear ih; first | with_reducible assumption | grind | grind (ematch := 40) (gen := 40) (liaSteps := 300000) | lia) (by clear ih; first | with_reducible assumption | grind | grind (ematch := 40) (gen := 40) (liaSteps := 300000) | lia) (by clear ih; first | with_reducible assumption | grind | grind (ematch := 40) (gen := 40) (liaSteps := 300000) | lia) (by clear ih; first | with_reducible assumption | grind | grind (ematch := 40) (gen := 40) (liaSteps := 300000) | lia) (by clear ih; first | with_reducible assumption | grind | grind (ematch := 40) (gen := 40) (liaSteps := 300000) | lia) (by clear ih; first | with_reducible assumption | grind | grind (ematch := 40) (gen := 40) (liaSteps := 300000) | lia) (by clear ih; first | with_reducible assumption | grind | grind (ematch := 40) (gen := 40) (liaSteps := 300000) | lia) (by clear ih; first | with_reducible assumption | grind | grind (ematch := 40) (gen := 40) (liaSteps := 300000) | lia) (by clear ih; first | with_reducible assumption | grind | grind (ematch := 40) (gen := 40) (liaSteps := 300000) | lia) (by clear ih; first | with_reducible assumption | grind | grind (ematch := 40) (gen := 40) (liaSteps := 300000) | lia)) ?_
        rintro ⟨y, hz⟩ ⟨rfl, g0⟩
        try dsimp only at *
        exact ⟨rfl, (by clear ih; first | with_reducible assumption | grind | grind (ematch := 40) (gen := 40) (liaSteps := 300000) | lia)⟩
      · skip
        refine qk_some ?_
        exact ⟨rfl, (by clear ih; first | with_reducible assumption | grind | grind (ematch := 40) (gen := 40) (liaSteps := 300000) | lia)⟩
theorem p_Ma_standsAgain_36 {L : q_L} {W : Nat → Prop} {h0 : z_H} {π : Nat → Nat → Option Nat} {N : Nat} {tx : Nat} {h : z_H} {v0 : Nat} {v2 : Int32} {v3 : Int32} {v4 : Int32} {v5 : Int32} (T : q_U L W h0 π h) (kv0 : qκ L v0 = 6) (ktx : qκ L tx = 11) (ptx : π v0 4 = some tx) (b0 : 0 ≤ v2) (b1 : 0 ≤ v3) (b2 : 0 ≤ v5) (b3 : v5 ≤ 600) (b4 : v4 ≤ 600) (b5 : v2 ≤ 600) (b6 : v3 ≤ 600) (b7 : v2 + v4 ≤ vI h tx 1) (b8 : v3 + v4 ≤ vI h tx 1) (b9 : vI h tx 1 ≤ qhi L tx 1) (bx : -600 ≤ v4) (hN : 100000 ≤ N) : qk (f_Ma_standsAgain_36 N  N v0 v2 v3 v4 v5 h) (fun r => r.2 = h ∧ (r.1 = 0 ∨ r.1 = 1)) := by
  have hq := q_qnN hN
  have hr_tx := q_rowhi T ktx
  refine p_Ma_standsAgain_36_n (q_lo (M := 601) (by decide) (by decide)) N v0 v2 v3 v4 v5 h T kv0 ktx ptx b0 b1 b2 b3 b4 b5 b6 b7 b8 b9 bx ?_ 
  show 601 - q_n N ≤ _
  rw [hq]
  lia

set_option maxHeartbeats 1000000 in
theorem p_Ma_standsAgain {L : q_L} {W : Nat → Prop} {h0 : z_H} {π : Nat → Nat → Option Nat} {N : Nat} {tx : Nat} {h : z_H} {v0 : Nat} {v1 : Int32} {v2 : Int32} (T : q_U L W h0 π h) (kv0 : qκ L v0 = 6) (ktx : qκ L tx = 11) (ptx : π v0 4 = some tx) (b0 : 0 ≤ v1) (b1 : v1 ≤ 3) (b2 : 0 ≤ v2) (b3 : v2 ≤ vI h tx 1) (b4 : vA h (v0 + 3) v1 ≤ vA h (v0 + 4) v1) (b5 : vA h (v0 + 4) v1 ≤ vI h tx 1) (hN : 100000 ≤ N) : qk (f_Ma_standsAgain N v0 v1 v2 h) (fun r => r.2 = h ∧ (r.1 = 0 ∨ r.1 = 1) ∧ (r.1 = 1 → vA h (v0 + 4) v1 - vA h (v0 + 3) v1 ≤ vI h tx 1 - v2)) := by
  have hr_tx := q_rowhi T ktx
  unfold f_Ma_standsAgain
  refine r_Ma_7 T kv0 ?_
  refine r_Ma_e3 T kv0 (by first | with_reducible assumption | grind | grind (ematch := 40) (gen := 40) (liaSteps := 300000) | lia) (by first | with_reducible assumption | grind | grind (ematch := 40) (gen := 40) (liaSteps := 300000) | lia) ?_
  intro x2 ex2 lx2 ux2
  subst ex2
  refine r_Ma_8 T kv0 ?_
  refine r_Ma_e4 T kv0 (by first | with_reducible assumption | grind | grind (ematch := 40) (gen := 40) (liaSteps := 300000) | lia) (by first | with_reducible assumption | grind | grind (ematch := 40) (gen := 40) (liaSteps := 300000) | lia) ?_
  intro x4 ex4 lx4 ux4
  subst ex4
  refine qk_bs ?_
  refine r_Ma_4 T kv0 ptx ?_
  refine r_Row_1 T ktx ?_
  intro x7 ex7 lx7 ux7 mx7
  subst ex7
  refine qk_if (fun cc1 => ?_) (fun cc1 => ?_)
  · skip
    refine qk_mono (p_Ma_standsAgain_36 (v0 := v0) (v2 := v2) (v3 := (vA h (v0 + 3) v1)) (v4 := ((vA h (v0 + 4) v1) - (vA h (v0 + 3) v1))) (v5 := 0) (tx := tx) T kv0 ktx ptx (by first | with_reducible assumption | grind | grind (ematch := 40) (gen := 40) (liaSteps := 300000) | lia) (by first | with_reducible assumption | grind | grind (ematch := 40) (gen := 40) (liaSteps := 300000) | lia) (by first | with_reducible assumption | grind | grind (ematch := 40) (gen := 40) (liaSteps := 300000) | lia) (by first | with_reducible assumption | grind | grind (ematch := 40) (gen := 40) (liaSteps := 300000) | lia) (by first | with_reducible assumption | grind | grind (ematch := 40) (gen := 40) (liaSteps := 300000) | lia) (by first | with_reducible assumption | grind | grind (ematch := 40) (gen := 40) (liaSteps := 300000) | lia) (by first | with_reducible assumption | grind | grind (ematch := 40) (gen := 40) (liaSteps := 300000) | lia) (by first | with_reducible assumption | grind | grind (ematch := 40) (gen := 40) (liaSteps := 300000) | lia) (by first | with_reducible assumption | grind | grind (ematch := 40) (gen := 40) (liaSteps := 300000) | lia) (by first | with_reducible assumption | grind | grind (ematch := 40) (gen := 40) (liaSteps := 300000) | lia) (by first | with_reducible assumption | grind | grind (ematch := 40) (gen := 40) (liaSteps := 300000) | lia) (by first | with_reducible assumption | grind | grind (ematch := 40) (gen := 40) (liaSteps := 300000) | lia)) ?_
    rintro ⟨y, hz⟩ ⟨rfl, g0⟩
    try dsimp only at *
    exact ⟨rfl, (by first | with_reducible assumption | grind | grind (ematch := 40) (gen := 40) (liaSteps := 300000) | lia), (by first | with_reducible assumption | grind | grind (ematch := 40) (gen := 40) (liaSteps := 300000) | lia)⟩
  · skip
    refine qk_some ?_
    exact ⟨rfl, (by first | with_reducible assumption | grind | grind (ematch := 40) (gen := 40) (liaSteps := 300000) | lia), (by first | with_reducible assumption | grind | grind (ematch := 40) (gen := 40) (liaSteps := 300000) | lia)⟩
theorem c_Ma_standsAgain {L : q_L} {W : Nat → Prop} {h0 : z_H} {π : Nat → Nat → Option Nat} {N : Nat} {tx : Nat} {h : z_H} {v0 : Nat} {v1 : Int32} {v2 : Int32} {β : Type} {f : Int32 × z_H → Option β} {Q : β → Prop} (T : q_U L W h0 π h) (kv0 : qκ L v0 = 6) (ktx : qκ L tx = 11) (ptx : π v0 4 = some tx) (b0 : 0 ≤ v1) (b1 : v1 ≤ 3) (b2 : 0 ≤ v2) (b3 : v2 ≤ vI h tx 1) (b4 : vA h (v0 + 3) v1 ≤ vA h (v0 + 4) v1) (b5 : vA h (v0 + 4) v1 ≤ vI h tx 1) (hN : 100000 ≤ N) (H : ∀ y, (y = 0 ∨ y = 1) → (y = 1 → vA h (v0 + 4) v1 - vA h (v0 + 3) v1 ≤ vI h tx 1 - v2) → qk (f (y, h)) Q) : qk (z_b (f_Ma_standsAgain N v0 v1 v2 h) f) Q := by
  refine qk_b (p_Ma_standsAgain T kv0 ktx ptx b0 b1 b2 b3 b4 b5 hN) ?_
  rintro ⟨y, hz⟩ ⟨hy, g0, g1⟩
  try dsimp only at *
  subst hy
  exact H y g0 g1

set_option maxHeartbeats 1000000 in
theorem p_Ma_repeats {L : q_L} {W : Nat → Prop} {h0 : z_H} {π : Nat → Nat → Option Nat} {N : Nat} {it : Nat} {pt : Nat} {tx : Nat} {h : z_H} {v0 : Nat} {v1 : Int32} {v2 : Int32} (T : q_U L W h0 π h) (kv0 : qκ L v0 = 6) (kit : qκ L it = 5) (pit : π v0 2 = some it) (kpt : qκ L pt = 8) (ppt : π v0 3 = some pt) (ktx : qκ L tx = 11) (ptx : π v0 4 = some tx) (b0 : 0 ≤ v1) (b2 : 0 ≤ v2) (b3 : v2 < vI h tx 1) : qk (f_Ma_repeats N v0 v1 v2 h) (fun r => r.2 = h ∧ (r.1 = 0 ∨ r.1 = 1)) := by
  have hr_tx := q_rowhi T ktx
  unfold f_Ma_repeats
  refine r_Ma_3 T kv0 ppt ?_
  refine r_Pt_3 T kpt ?_
  intro x2 ex2 lx2 ux2
  subst ex2
  refine qk_if (fun cc1 => ?_) (fun cc1 => ?_)
  · skip
    refine qk_some ?_
    exact ⟨rfl, (by first | with_reducible assumption | grind | grind (ematch := 40) (gen := 40) (liaSteps := 300000) | lia)⟩
  · skip
    refine r_Ma_2 T kv0 pit ?_
    refine r_Ma_4 T kv0 ptx ?_
    refine r_Row_0 T ktx ?_
    refine r_Row_e1 T ktx (by first | with_reducible assumption | grind | grind (ematch := 40) (gen := 40) (liaSteps := 300000) | lia) (by first | with_reducible assumption | grind | grind (ematch := 40) (gen := 40) (liaSteps := 300000) | lia) ?_
    intro x7 ex7 lx7 ux7
    subst ex7
    refine r_It_o T kit ?_
    refine c_It_takes (v0 := it) (v1 := v1) (v2 := (vA h (tx + 1) v2)) T kit (by first | with_reducible assumption | grind | grind (ematch := 40) (gen := 40) (liaSteps := 300000) | lia) (by first | with_reducible assumption | grind | grind (ematch := 40) (gen := 40) (liaSteps := 300000) | lia) ?_
    intro yr9 gr9_0
    dsimp only
    refine qk_if (fun cc2 => ?_) (fun cc2 => ?_)
    · skip
      refine qk_some ?_
      exact ⟨rfl, (by first | with_reducible assumption | grind | grind (ematch := 40) (gen := 40) (liaSteps := 300000) | lia)⟩
    · skip
      refine qk_some ?_
      exact ⟨rfl, (by first | with_reducible assumption | grind | grind (ematch := 40) (gen := 40) (liaSteps := 300000) | lia)⟩
theorem c_Ma_repeats {L : q_L} {W : Nat → Prop} {h0 : z_H} {π : Nat → Nat → Option Nat} {N : Nat} {it : Nat} {pt : Nat} {tx : Nat} {h : z_H} {v0 : Nat} {v1 : Int32} {v2 : Int32} {β : Type} {f : Int32 × z_H → Option β} {Q : β → Prop} (T : q_U L W h0 π h) (kv0 : qκ L v0 = 6) (kit : qκ L it = 5) (pit : π v0 2 = some it) (kpt : qκ L pt = 8) (ppt : π v0 3 = some pt) (ktx : qκ L tx = 11) (ptx : π v0 4 = some tx) (b0 : 0 ≤ v1) (b2 : 0 ≤ v2) (b3 : v2 < vI h tx 1) (H : ∀ y, (y = 0 ∨ y = 1) → qk (f (y, h)) Q) : qk (z_b (f_Ma_repeats N v0 v1 v2 h) f) Q := by
  refine qk_b (p_Ma_repeats T kv0 kit pit kpt ppt ktx ptx b0 b2 b3) ?_
  rintro ⟨y, hz⟩ ⟨hy, g0⟩
  try dsimp only at *
  subst hy
  exact H y g0

set_option maxHeartbeats 1000000 in
theorem p_Ma_keepIfLongest_47_n {L : q_L} {W : Nat → Prop} {h0 : z_H} {π : Nat → Nat → Option Nat} {N : Nat} {pt : Nat} {lo : Nat → Int32} (hqn : q_Q lo 5) : ∀ (n : Nat) (v0 : Nat) (v3 : Int32) (h : z_H), q_U L W h0 π h → qκ L v0 = 6 → (qκ L pt = 8) → (π v0 3 = some pt) → (W (v0 + 1)) → (W (v0 + 2)) → (1 ≤ v3) → (v3 ≤ 4) → (lo n ≤ v3) → qk (f_Ma_keepIfLongest_47 N  n v0 v3 h) (fun r => q_U L W h0 π r ∧ (∀ a k, vI r a k = vI h a k) ∧ (∀ a j, 0 ≤ j → ¬ (a = v0 + 1 ∨ a = v0 + 2) → vA r a j = vA h a j)) := by
  intro n
  induction n with
  | zero => intro v0 v3 h T kv0 kpt ppt w1 w2 b0 b1 hms; have hz := hqn.1; exact absurd hms (by grind)
  | succ n ih =>
    intro v0 v3 h T kv0 kpt ppt w1 w2 b0 b1 hms
    obtain ⟨hq1, hq2, hq3⟩ := hqn.2 n
    rw [f_Ma_keepIfLongest_47]
    refine r_Ma_3 T kv0 ppt ?_
    refine r_Pt_6 T kpt ?_
    intro x2 ex2 lx2 ux2
    subst ex2
    refine qk_if (fun cc1 => ?_) (fun cc1 => ?_)
    · skip
      refine qk_some ?_
      exact ⟨T, (by clear ih; first | with_reducible assumption | grind | grind (ematch := 40) (gen := 40) (liaSteps := 300000) | lia), (by clear ih; first | with_reducible assumption | grind | grind (ematch := 40) (gen := 40) (liaSteps := 300000) | lia)⟩
    · skip
      refine r_Ma_5 T kv0 ?_
      refine r_Ma_7 T kv0 ?_
      refine r_Ma_e3 T kv0 (by clear ih; first | with_reducible assumption | grind | grind (ematch := 40) (gen := 40) (liaSteps := 300000) | lia) (by clear ih; first | with_reducible assumption | grind | grind (ematch := 40) (gen := 40) (liaSteps := 300000) | lia) ?_
      intro x6 ex6 lx6 ux6
      subst ex6
      refine w_Ma_e1 T kv0 (by clear ih; first | with_reducible assumption | grind | grind (ematch := 40) (gen := 40) (liaSteps := 300000) | lia) (by clear ih; first | with_reducible assumption | grind | grind (ematch := 40) (gen := 40) (liaSteps := 300000) | lia) (by clear ih; first | with_reducible assumption | grind | grind (ematch := 40) (gen := 40) (liaSteps := 300000) | lia) (by clear ih; first | with_reducible assumption | grind | grind (ematch := 40) (gen := 40) (liaSteps := 300000) | lia) (by clear ih; first | with_reducible assumption | grind | grind (ematch := 40) (gen := 40) (liaSteps := 300000) | lia) ?_
      intro h7 Th7 ih7 ah7
      refine r_Ma_6 Th7 kv0 ?_
      refine r_Ma_8 Th7 kv0 ?_
      refine r_Ma_e4 Th7 kv0 (by clear ih; first | with_reducible assumption | grind | grind (ematch := 40) (gen := 40) (liaSteps := 300000) | lia) (by clear ih; first | with_reducible assumption | grind | grind (ematch := 40) (gen := 40) (liaSteps := 300000) | lia) ?_
      intro x10 ex10 lx10 ux10
      subst ex10
      refine w_Ma_e2 Th7 kv0 (by clear ih; first | with_reducible assumption | grind | grind (ematch := 40) (gen := 40) (liaSteps := 300000) | lia) (by clear ih; first | with_reducible assumption | grind | grind (ematch := 40) (gen := 40) (liaSteps := 300000) | lia) (by clear ih; first | with_reducible assumption | grind | grind (ematch := 40) (gen := 40) (liaSteps := 300000) | lia) (by clear ih; first | with_reducible assumption | grind | grind (ematch := 40) (gen := 40) (liaSteps := 300000) | lia) (by clear ih; first | with_reducible assumption | grind | grind (ematch := 40) (gen := 40) (liaSteps := 300000) | lia) ?_
      intro h11 Th11 ih11 ah11
      refine qk_bs ?_
      refine qk_mono (ih (v0) ((v3 + 1)) h11 Th11 kv0 kpt ppt (by clear ih; first | with_reducible assumption | grind | grind (ematch := 40) (gen := 40) (liaSteps := 300000) | lia) (by clear ih; first | with_reducible assumption | grind | grind (ematch := 40) (gen := 40) (liaSteps := 300000) | lia) (by clear ih; first | with_reducible assumption | grind | grind (ematch := 40) (gen := 40) (liaSteps := 300000) | lia) (by clear ih; first | with_reducible assumption | grind | grind (ematch := 40) (gen := 40) (liaSteps := 300000) | lia) (by clear ih; first | with_reducible assumption | grind | grind (ematch := 40) (gen := 40) (liaSteps := 300000) | lia)) ?_
      rintro hz ⟨Tz, g0, g1⟩
      try dsimp only at *
      exact ⟨Tz, (by clear ih; first | with_reducible assumption | grind | grind (ematch := 40) (gen := 40) (liaSteps := 300000) | lia), (by clear ih; first | with_reducible assumption | grind | grind (ematch := 40) (gen := 40) (liaSteps := 300000) | lia)⟩
theorem p_Ma_keepIfLongest_47 {L : q_L} {W : Nat → Prop} {h0 : z_H} {π : Nat → Nat → Option Nat} {N : Nat} {pt : Nat} {h : z_H} {v0 : Nat} {v3 : Int32} (T : q_U L W h0 π h) (kv0 : qκ L v0 = 6) (kpt : qκ L pt = 8) (ppt : π v0 3 = some pt) (w1 : W (v0 + 1)) (w2 : W (v0 + 2)) (b0 : 1 ≤ v3) (b1 : v3 ≤ 4) (hN : 100000 ≤ N) : qk (f_Ma_keepIfLongest_47 N  N v0 v3 h) (fun r => q_U L W h0 π r ∧ (∀ a k, vI r a k = vI h a k) ∧ (∀ a j, 0 ≤ j → ¬ (a = v0 + 1 ∨ a = v0 + 2) → vA r a j = vA h a j)) := by
  have hq := q_qnN hN
  refine p_Ma_keepIfLongest_47_n (q_lo (M := 5) (by decide) (by decide)) N v0 v3 h T kv0 kpt ppt w1 w2 b0 b1 ?_ 
  show 5 - q_n N ≤ _
  rw [hq]
  lia

set_option maxHeartbeats 1000000 in
theorem p_Ma_keepIfLongest {L : q_L} {W : Nat → Prop} {h0 : z_H} {π : Nat → Nat → Option Nat} {N : Nat} {pt : Nat} {tx : Nat} {h : z_H} {v0 : Nat} {v1 : Int32} {v2 : Int32} (T : q_U L W h0 π h) (kv0 : qκ L v0 = 6) (kpt : qκ L pt = 8) (ppt : π v0 3 = some pt) (ktx : qκ L tx = 11) (ptx : π v0 4 = some tx) (w0 : W v0) (w1 : W (v0 + 1)) (w2 : W (v0 + 2)) (b0 : 0 ≤ v1) (b1 : v1 ≤ 600) (b2 : -1 ≤ v2) (b3 : v2 ≤ 600) (hN : 100000 ≤ N) : qk (f_Ma_keepIfLongest N v0 v1 v2 h) (fun r => q_U L W h0 π r ∧ (∀ a k, ¬ (a = v0 ∧ (k = 0 ∨ k = 1)) → vI r a k = vI h a k) ∧ (vI r v0 1 = vI h v0 1 ∨ (vI r v0 1 = v2 ∧ 0 ≤ v2)) ∧ (∀ a j, 0 ≤ j → ¬ (a = v0 + 1 ∨ a = v0 + 2) → vA r a j = vA h a j)) := by
  have hr_tx := q_rowhi T ktx
  unfold f_Ma_keepIfLongest
  refine qk_if (fun cc1 => ?_) (fun cc1 => ?_)
  · skip
    refine qk_some ?_
    exact ⟨T, (by first | with_reducible assumption | grind | grind (ematch := 40) (gen := 40) (liaSteps := 300000) | lia), (by first | with_reducible assumption | grind | grind (ematch := 40) (gen := 40) (liaSteps := 300000) | lia), (by first | with_reducible assumption | grind | grind (ematch := 40) (gen := 40) (liaSteps := 300000) | lia)⟩
  · skip
    refine r_Ma_1 T kv0 ?_
    intro x2 ex2 lx2 ux2
    subst ex2
    refine qk_if (fun cc2 => ?_) (fun cc2 => ?_)
    · skip
      refine qk_some ?_
      exact ⟨T, (by first | with_reducible assumption | grind | grind (ematch := 40) (gen := 40) (liaSteps := 300000) | lia), (by first | with_reducible assumption | grind | grind (ematch := 40) (gen := 40) (liaSteps := 300000) | lia), (by first | with_reducible assumption | grind | grind (ematch := 40) (gen := 40) (liaSteps := 300000) | lia)⟩
    · skip
      refine r_Ma_3 T kv0 ppt ?_
      refine r_Pt_1 T kpt ?_
      intro x5 ex5
      subst ex5
      refine qk_if (fun cc3 => ?_) (fun cc3 => ?_)
      · skip
        unfold f_Ma_keepIfLongest_35
        refine w_Ma_0 T kv0 (by first | with_reducible assumption | grind | grind (ematch := 40) (gen := 40) (liaSteps := 300000) | lia) (by first | with_reducible assumption | grind | grind (ematch := 40) (gen := 40) (liaSteps := 300000) | lia) (by first | with_reducible assumption | grind | grind (ematch := 40) (gen := 40) (liaSteps := 300000) | lia) ?_
        intro h1i4 Th1i4 ih1i4 ah1i4
        refine w_Ma_1 Th1i4 kv0 (by first | with_reducible assumption | grind | grind (ematch := 40) (gen := 40) (liaSteps := 300000) | lia) (by first | with_reducible assumption | grind | grind (ematch := 40) (gen := 40) (liaSteps := 300000) | lia) (by first | with_reducible assumption | grind | grind (ematch := 40) (gen := 40) (liaSteps := 300000) | lia) ?_
        intro h2i4 Th2i4 ih2i4 ah2i4
        refine qk_mono (p_Ma_keepIfLongest_47 (v0 := v0) (v3 := 1) (pt := pt) Th2i4 kv0 kpt ppt (by first | with_reducible assumption | grind | grind (ematch := 40) (gen := 40) (liaSteps := 300000) | lia) (by first | with_reducible assumption | grind | grind (ematch := 40) (gen := 40) (liaSteps := 300000) | lia) (by first | with_reducible assumption | grind | grind (ematch := 40) (gen := 40) (liaSteps := 300000) | lia) (by first | with_reducible assumption | grind | grind (ematch := 40) (gen := 40) (liaSteps := 300000) | lia) (by first | with_reducible assumption | grind | grind (ematch := 40) (gen := 40) (liaSteps := 300000) | lia)) ?_
        rintro hz ⟨Tz, g0, g1⟩
        try dsimp only at *
        exact ⟨Tz, (by first | with_reducible assumption | grind | grind (ematch := 40) (gen := 40) (liaSteps := 300000) | lia), (by first | with_reducible assumption | grind | grind (ematch := 40) (gen := 40) (liaSteps := 300000) | lia), (by first | with_reducible assumption | grind | grind (ematch := 40) (gen := 40) (liaSteps := 300000) | lia)⟩
      · skip
        refine r_Ma_4 T kv0 ptx ?_
        refine r_Row_1 T ktx ?_
        intro x8 ex8 lx8 ux8 mx8
        subst ex8
        refine qk_if (fun cc6 => ?_) (fun cc6 => ?_)
        · skip
          unfold f_Ma_keepIfLongest_35
          refine w_Ma_0 T kv0 (by first | with_reducible assumption | grind | grind (ematch := 40) (gen := 40) (liaSteps := 300000) | lia) (by first | with_reducible assumption | grind | grind (ematch := 40) (gen := 40) (liaSteps := 300000) | lia) (by first | with_reducible assumption | grind | grind (ematch := 40) (gen := 40) (liaSteps := 300000) | lia) ?_
          intro h1i7 Th1i7 ih1i7 ah1i7
          refine w_Ma_1 Th1i7 kv0 (by first | with_reducible assumption | grind | grind (ematch := 40) (gen := 40) (liaSteps := 300000) | lia) (by first | with_reducible assumption | grind | grind (ematch := 40) (gen := 40) (liaSteps := 300000) | lia) (by first | with_reducible assumption | grind | grind (ematch := 40) (gen := 40) (liaSteps := 300000) | lia) ?_
          intro h2i7 Th2i7 ih2i7 ah2i7
          refine qk_mono (p_Ma_keepIfLongest_47 (v0 := v0) (v3 := 1) (pt := pt) Th2i7 kv0 kpt ppt (by first | with_reducible assumption | grind | grind (ematch := 40) (gen := 40) (liaSteps := 300000) | lia) (by first | with_reducible assumption | grind | grind (ematch := 40) (gen := 40) (liaSteps := 300000) | lia) (by first | with_reducible assumption | grind | grind (ematch := 40) (gen := 40) (liaSteps := 300000) | lia) (by first | with_reducible assumption | grind | grind (ematch := 40) (gen := 40) (liaSteps := 300000) | lia) (by first | with_reducible assumption | grind | grind (ematch := 40) (gen := 40) (liaSteps := 300000) | lia)) ?_
          rintro hz ⟨Tz, g0, g1⟩
          try dsimp only at *
          exact ⟨Tz, (by first | with_reducible assumption | grind | grind (ematch := 40) (gen := 40) (liaSteps := 300000) | lia), (by first | with_reducible assumption | grind | grind (ematch := 40) (gen := 40) (liaSteps := 300000) | lia), (by first | with_reducible assumption | grind | grind (ematch := 40) (gen := 40) (liaSteps := 300000) | lia)⟩
        · skip
          refine qk_some ?_
          exact ⟨T, (by first | with_reducible assumption | grind | grind (ematch := 40) (gen := 40) (liaSteps := 300000) | lia), (by first | with_reducible assumption | grind | grind (ematch := 40) (gen := 40) (liaSteps := 300000) | lia), (by first | with_reducible assumption | grind | grind (ematch := 40) (gen := 40) (liaSteps := 300000) | lia)⟩
theorem c_Ma_keepIfLongest {L : q_L} {W : Nat → Prop} {h0 : z_H} {π : Nat → Nat → Option Nat} {N : Nat} {pt : Nat} {tx : Nat} {h : z_H} {v0 : Nat} {v1 : Int32} {v2 : Int32} {β : Type} {f : z_H → Option β} {Q : β → Prop} (T : q_U L W h0 π h) (kv0 : qκ L v0 = 6) (kpt : qκ L pt = 8) (ppt : π v0 3 = some pt) (ktx : qκ L tx = 11) (ptx : π v0 4 = some tx) (w0 : W v0) (w1 : W (v0 + 1)) (w2 : W (v0 + 2)) (b0 : 0 ≤ v1) (b1 : v1 ≤ 600) (b2 : -1 ≤ v2) (b3 : v2 ≤ 600) (hN : 100000 ≤ N) (H : ∀ h', q_U L W h0 π h' → (∀ a k, ¬ (a = v0 ∧ (k = 0 ∨ k = 1)) → vI h' a k = vI h a k) → (vI h' v0 1 = vI h v0 1 ∨ (vI h' v0 1 = v2 ∧ 0 ≤ v2)) → (∀ a j, 0 ≤ j → ¬ (a = v0 + 1 ∨ a = v0 + 2) → vA h' a j = vA h a j) → qk (f h') Q) : qk (z_b (f_Ma_keepIfLongest N v0 v1 v2 h) f) Q := by
  refine qk_b (p_Ma_keepIfLongest T kv0 kpt ppt ktx ptx w0 w1 w2 b0 b1 b2 b3 hN) ?_
  rintro hz ⟨Tz, g0, g1, g2⟩
  exact H hz Tz g0 g1 g2
