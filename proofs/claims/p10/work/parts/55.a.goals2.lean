/-! the reference's parser: what holds of the commands of a half -/
def q_LB (h : z_H) (v0 : Nat) (hf : Int32) : Prop := ∀ i, 0 ≤ i → i ≤ 25 → vA h (v0 + 34) i = -1 ∨ (40 * hf ≤ vA h (v0 + 34) i ∧ vA h (v0 + 34) i ≤ 40 * hf + 39)
def q_GO (h : z_H) (v0 : Nat) (hf n : Int32) : Prop := ∀ k, n ≤ k → k < vA h (v0 + 19) hf → vA h (v0 + 4) (40 * hf + k) = 98 ∨ vA h (v0 + 4) (40 * hf + k) = 116 → vA h (v0 + 13) (40 * hf + k) ≤ 25
def q_CS (h : z_H) (v0 : Nat) (hf : Int32) : Prop := ∀ k, 0 ≤ k → k < vA h (v0 + 19) hf → q_CM h v0 hf (40 * hf + k)
def q_BL (h : z_H) (v0 : Nat) (hf d : Int32) : Prop := (∀ i, 0 ≤ i → i < d → 40 * hf ≤ vA h (v0 + 35) i ∧ vA h (v0 + 35) i < 40 * hf + vA h (v0 + 19) hf ∧ vA h (v0 + 4) (vA h (v0 + 35) i) = 123) ∧ (∀ k, 0 ≤ k → k < vA h (v0 + 19) hf → vA h (v0 + 4) (40 * hf + k) = 123 → 0 ≤ vA h (v0 + 13) (40 * hf + k) ∨ ∃ i, 0 ≤ i ∧ i < d ∧ vA h (v0 + 35) i = 40 * hf + k)
def q_LV (h : z_H) (v0 : Nat) (hl : Int32) : Prop := ∀ k, 0 ≤ k → k < vA h (v0 + 19) hl → q_CM h v0 hl (40 * hl + k) ∧ (vA h (v0 + 4) (40 * hl + k) = 123 → 0 ≤ vA h (v0 + 13) (40 * hl + k))
theorem q_hf {hf : Int32} (f0 : 0 ≤ hf) (f1 : hf ≤ 1) : hf = 0 ∨ hf = 1 := by lia
theorem q_40k {hf k : Int32} (f0 : 0 ≤ hf) (f1 : hf ≤ 1) (k0 : 0 ≤ k) (k1 : k ≤ 40) : 0 ≤ 40 * hf + k := by
  rcases q_hf f0 f1 with z | z <;> subst z <;> lia
theorem q_40n {hf k n : Int32} (f0 : 0 ≤ hf) (f1 : hf ≤ 1) (k0 : 0 ≤ k) (k1 : k ≤ 40) (n0 : 0 ≤ n) (n1 : n ≤ 40) (ne : k ≠ n) : 40 * hf + k ≠ 40 * hf + n := by
  rcases q_hf f0 f1 with z | z <;> subst z <;> lia
section QPA
variable {h h' : z_H} {v0 : Nat} {hf hl n q s : Int32}
theorem q_LB_eq (L : q_LB h v0 hf) (e : ∀ j, 0 ≤ j → vA h' (v0 + 34) j = vA h (v0 + 34) j) : q_LB h' v0 hf := by
  intro i i0 i1
  rw [e i i0]; exact L i i0 i1
theorem q_GO_eq (G : q_GO h v0 hf n) (f0 : 0 ≤ hf) (f1 : hf ≤ 1) (n0 : 0 ≤ n) (n1 : n < 40) (m : vA h (v0 + 19) hf ≤ 40) (e19 : vA h' (v0 + 19) hf = vA h (v0 + 19) hf) (e4 : ∀ j, 0 ≤ j → vA h' (v0 + 4) j = vA h (v0 + 4) j) (e13 : ∀ j, 0 ≤ j → j ≠ 40 * hf + n → vA h' (v0 + 13) j = vA h (v0 + 13) j) : q_GO h' v0 hf (n + 1) := by
  intro k k0 k1 nm
  rw [e19] at k1
  have k2 : n ≤ k := by lia
  have k3 : 0 ≤ k := by lia
  have k4 : k ≤ 40 := by lia
  have kn : k ≠ n := by lia
  have j0 := q_40k f0 f1 k3 k4
  rw [e4 _ j0] at nm
  rw [e13 _ j0 (q_40n f0 f1 k3 k4 n0 (Int32.le_of_lt n1) kn)]
  exact G k k2 k1 nm
/-- what a walk of the reference may read, the same -/
theorem q_PX_own (P : q_PX h v0 hf q) (f0 : 0 ≤ hf) (f1 : hf ≤ 1) (eX : ∀ j, 0 ≤ j → (j < (260 * hf + vA h (v0 + 21) hf) ∨ 260 * hf + 260 ≤ j) → vA h' (v0 + 26) j = vA h (v0 + 26) j ∧ vA h' (v0 + 27) j = vA h (v0 + 27) j) (eQ : ∀ j, 0 ≤ j → (j < (130 * hf + vA h (v0 + 20) hf) ∨ 130 * hf + 130 ≤ j) → vA h' (v0 + 23) j = vA h (v0 + 23) j ∧ vA h' (v0 + 24) j = vA h (v0 + 24) j ∧ vA h' (v0 + 25) j = vA h (v0 + 25) j) (i0 : 0 ≤ vA h (v0 + 21) hf) (im : vA h (v0 + 21) hf ≤ vA h' (v0 + 21) hf) (i1 : vA h' (v0 + 21) hf ≤ 259) (p0 : 0 ≤ vA h (v0 + 20) hf) (pm : vA h (v0 + 20) hf ≤ vA h' (v0 + 20) hf) (p1 : vA h' (v0 + 20) hf ≤ 130) : q_PX h' v0 hf q := by
  have q0 : 0 ≤ q := Int32.le_trans (by rcases q_hf f0 f1 with z | z <;> subst z <;> decide) P.2.2.2.1
  have z := eQ q q0 (Or.inl P.2.2.1)
  refine q_PX_eq P f0 f1 z.1 z.2.1 (fun j j0 _ j2 => eX j j0 (Or.inl j2)) ?_ ?_
  · rcases q_hf f0 f1 with z | z <;> subst z <;> lia
  · rcases q_hf f0 f1 with z | z <;> subst z <;> lia
theorem q_PX_oth (P : q_PX h v0 hl q) (f0 : 0 ≤ hf) (f1 : hf ≤ 1) (lh : hl = 1 - hf) (eX : ∀ j, 0 ≤ j → (j < (260 * hf + vA h (v0 + 21) hf) ∨ 260 * hf + 260 ≤ j) → vA h' (v0 + 26) j = vA h (v0 + 26) j ∧ vA h' (v0 + 27) j = vA h (v0 + 27) j) (eQ : ∀ j, 0 ≤ j → (j < (130 * hf + vA h (v0 + 20) hf) ∨ 130 * hf + 130 ≤ j) → vA h' (v0 + 23) j = vA h (v0 + 23) j ∧ vA h' (v0 + 24) j = vA h (v0 + 24) j ∧ vA h' (v0 + 25) j = vA h (v0 + 25) j) (x0 : 0 ≤ vA h (v0 + 21) hf) (x1 : vA h (v0 + 21) hf ≤ 259) (y0 : 0 ≤ vA h (v0 + 20) hf) (y1 : vA h (v0 + 20) hf ≤ 130) (i0 : 0 ≤ vA h (v0 + 21) hl) (i1 : vA h (v0 + 21) hl ≤ 259) (p0 : 0 ≤ vA h (v0 + 20) hl) (p1 : vA h (v0 + 20) hl ≤ 130) (e21 : vA h' (v0 + 21) hl = vA h (v0 + 21) hl) (e20 : vA h' (v0 + 20) hl = vA h (v0 + 20) hl) : q_PX h' v0 hl q := by
  obtain ⟨P1, P2, P3, P4, P5⟩ := P
  have l0 : 0 ≤ hl := by rcases q_hf f0 f1 with z | z <;> subst z <;> subst lh <;> decide
  have l1 : hl ≤ 1 := by rcases q_hf f0 f1 with z | z <;> subst z <;> subst lh <;> decide
  have q0 : 0 ≤ q := Int32.le_trans (by rcases q_hf l0 l1 with z | z <;> rw [z] <;> decide) P4
  have zq : q < (130 * hf + vA h (v0 + 20) hf) ∨ 130 * hf + 130 ≤ q := by
    rcases q_hf f0 f1 with z | z
    · right; subst z; rw [lh] at P4; exact P4
    · left
      have e1 : hl = 0 := by rw [lh, z]; decide
      rw [e1] at P3 p1 p0
      rw [z] at y0 y1 ⊢
      lia
  have z := eQ q q0 zq
  refine q_PX_eq ⟨P1, P2, P3, P4, P5⟩ l0 l1 z.1 z.2.1 (fun j j0 j1 j2 => eX j j0 ?_) (by rw [e21]; exact Int32.le_refl _) (by rw [e20]; exact Int32.le_refl _)
  rcases q_hf f0 f1 with z | z
  · right; subst z; rw [lh] at j1; exact j1
  · left
    have e1 : hl = 0 := by rw [lh, z]; decide
    rw [e1] at j2 i0 i1
    rw [z] at x0 x1 ⊢
    lia
theorem q_CM_fr (C : q_CM h v0 hf s) (f0 : 0 ≤ hf) (f1 : hf ≤ 1) (a : vA h' (v0 + 4) s = vA h (v0 + 4) s ∧ vA h' (v0 + 5) s = vA h (v0 + 5) s ∧ vA h' (v0 + 6) s = vA h (v0 + 6) s ∧ vA h' (v0 + 7) s = vA h (v0 + 7) s ∧ vA h' (v0 + 8) s = vA h (v0 + 8) s ∧ vA h' (v0 + 9) s = vA h (v0 + 9) s ∧ vA h' (v0 + 10) s = vA h (v0 + 10) s ∧ vA h' (v0 + 11) s = vA h (v0 + 11) s ∧ vA h' (v0 + 12) s = vA h (v0 + 12) s) (px : ∀ q, q_PX h v0 hf q → q_PX h' v0 hf q) (c0 : 0 ≤ vA h (v0 + 22) hf) (cm : vA h (v0 + 22) hf ≤ vA h' (v0 + 22) hf) (c1 : vA h' (v0 + 22) hf ≤ 299) : q_CM h' v0 hf s := by
  obtain ⟨a4, a5, a6, a7, a8, a9, a10, a11, a12⟩ := a
  obtain ⟨C1, C2, C3, C4, C5⟩ := C
  have up : 300 * hf + vA h (v0 + 22) hf ≤ 300 * hf + vA h' (v0 + 22) hf := by rcases q_hf f0 f1 with z | z <;> subst z <;> lia
  unfold q_CM
  rw [a4, a5, a6, a7, a8, a9, a10, a11, a12]
  exact ⟨fun e => px _ (C1 e), fun e => px _ (C2 e), fun e => ⟨px _ (C3 e).1, (C3 e).2.1, (C3 e).2.2.1, Int32.le_trans (C3 e).2.2.2 up⟩, fun e => ⟨(C4 e).1, (C4 e).2.1, (C4 e).2.2.1, Int32.le_trans (C4 e).2.2.2 up⟩, fun e => ⟨(C5 e).1, (C5 e).2.1, Int32.le_trans (C5 e).2.2 up⟩⟩
/-- all arrays the same, but for those of goal -/
theorem q_PX_same (P : q_PX h v0 hf q) (f0 : 0 ≤ hf) (f1 : hf ≤ 1) (e : ∀ a j, 0 ≤ j → (a ≠ v0 + 13 ∧ a ≠ v0 + 34) → vA h' a j = vA h a j) : q_PX h' v0 hf q := by
  have q0 : 0 ≤ q := Int32.le_trans (by rcases q_hf f0 f1 with z | z <;> subst z <;> decide) P.2.2.2.1
  refine q_PX_eq P f0 f1 (e _ _ q0 (by omega)) (e _ _ q0 (by omega)) (fun j j0 _ _ => ⟨e _ _ j0 (by omega), e _ _ j0 (by omega)⟩) ?_ ?_
  · rw [e _ _ f0 (by omega)]; exact Int32.le_refl _
  · rw [e _ _ f0 (by omega)]; exact Int32.le_refl _
theorem q_CM_same (C : q_CM h v0 hf s) (f0 : 0 ≤ hf) (f1 : hf ≤ 1) (s0 : 0 ≤ s) (c0 : 0 ≤ vA h (v0 + 22) hf) (c1 : vA h (v0 + 22) hf ≤ 299) (e : ∀ a j, 0 ≤ j → (a ≠ v0 + 13 ∧ a ≠ v0 + 34) → vA h' a j = vA h a j) : q_CM h' v0 hf s := by
  have ec : vA h' (v0 + 22) hf = vA h (v0 + 22) hf := e _ _ f0 (by omega)
  refine q_CM_fr C f0 f1 ⟨e _ _ s0 (by omega), e _ _ s0 (by omega), e _ _ s0 (by omega), e _ _ s0 (by omega), e _ _ s0 (by omega), e _ _ s0 (by omega), e _ _ s0 (by omega), e _ _ s0 (by omega), e _ _ s0 (by omega)⟩ (fun q P => q_PX_same P f0 f1 e) c0 ?_ ?_
  · rw [ec]; exact Int32.le_refl _
  · rw [ec]; exact c1
theorem q_CS_same (C : q_CS h v0 hf) (f0 : 0 ≤ hf) (f1 : hf ≤ 1) (m : vA h (v0 + 19) hf ≤ 40) (c0 : 0 ≤ vA h (v0 + 22) hf) (c1 : vA h (v0 + 22) hf ≤ 299) (e : ∀ a j, 0 ≤ j → (a ≠ v0 + 13 ∧ a ≠ v0 + 34) → vA h' a j = vA h a j) : q_CS h' v0 hf := by
  intro k k0 k1
  rw [e _ _ f0 (by omega)] at k1
  exact q_CM_same (C k k0 k1) f0 f1 (q_40k f0 f1 k0 (Int32.le_trans (Int32.le_of_lt k1) m)) c0 c1 e
/-- .. and goal the same in the half hl -/
theorem q_LV_same (V : q_LV h v0 hl) (f0 : 0 ≤ hl) (f1 : hl ≤ 1) (m : vA h (v0 + 19) hl ≤ 40) (c0 : 0 ≤ vA h (v0 + 22) hl) (c1 : vA h (v0 + 22) hl ≤ 299) (e : ∀ a j, 0 ≤ j → (a ≠ v0 + 13 ∧ a ≠ v0 + 34) → vA h' a j = vA h a j) (g : ∀ j, 0 ≤ j → 40 * hl ≤ j → j < 40 * hl + 40 → vA h' (v0 + 13) j = vA h (v0 + 13) j) : q_LV h' v0 hl := by
  intro k k0 k1
  rw [e _ _ f0 (by omega)] at k1
  have k4 : k < 40 := Int32.lt_of_lt_of_le k1 m
  have s0 := q_40k f0 f1 k0 (Int32.le_of_lt k4)
  have z := V k k0 k1
  refine ⟨q_CM_same z.1 f0 f1 s0 c0 c1 e, fun nm => ?_⟩
  rw [e _ _ s0 (by omega)] at nm
  rw [g _ s0 (by rcases q_hf f0 f1 with z | z <;> subst z <;> lia) (by rcases q_hf f0 f1 with z | z <;> subst z <;> lia)]
  exact z.2 nm
/-- a command more -/
theorem q_40o {hf hl k c : Int32} (f0 : 0 ≤ hf) (f1 : hf ≤ 1) (lh : hl = 1 - hf) (k0 : 0 ≤ k) (k1 : k < 40) (c0 : 0 ≤ c) (c1 : c < 40) : 40 * hl + k ≠ 40 * hf + c := by
  rcases q_hf f0 f1 with z | z <;> subst z <;> subst lh <;> lia
theorem q_hl {hf hl : Int32} (f0 : 0 ≤ hf) (f1 : hf ≤ 1) (lh : hl = 1 - hf) : 0 ≤ hl ∧ hl ≤ 1 ∧ hl ≠ hf := by
  rcases q_hf f0 f1 with z | z <;> subst z <;> subst lh <;> decide
theorem q_CS_com (C : q_CS h v0 hf) (f0 : 0 ≤ hf) (f1 : hf ≤ 1) (m0 : 0 ≤ vA h (v0 + 19) hf)
    (g8 : ∀ j, 0 ≤ j → (j ≠ (40 * hf + vA h (v0 + 19) hf) ∨ 40 ≤ vA h (v0 + 19) hf) → vA h' (v0 + 4) j = vA h (v0 + 4) j ∧ vA h' (v0 + 5) j = vA h (v0 + 5) j ∧ vA h' (v0 + 6) j = vA h (v0 + 6) j ∧ vA h' (v0 + 7) j = vA h (v0 + 7) j ∧ vA h' (v0 + 8) j = vA h (v0 + 8) j ∧ vA h' (v0 + 9) j = vA h (v0 + 9) j ∧ vA h' (v0 + 10) j = vA h (v0 + 10) j ∧ vA h' (v0 + 11) j = vA h (v0 + 11) j ∧ vA h' (v0 + 12) j = vA h (v0 + 12) j ∧ vA h' (v0 + 13) j = vA h (v0 + 13) j)
    (px : ∀ q, q_PX h v0 hf q → q_PX h' v0 hf q) (g11 : vA h' (v0 + 19) hf = vA h (v0 + 19) hf + 1 ∧ vA h (v0 + 19) hf < 40) (c0 : 0 ≤ vA h (v0 + 22) hf) (cm : vA h (v0 + 22) hf ≤ vA h' (v0 + 22) hf) (c1 : vA h' (v0 + 22) hf ≤ 299) (g19 : q_CM h' v0 hf (40 * hf + vA h (v0 + 19) hf)) : q_CS h' v0 hf := by
  intro k k0 k1
  rw [g11.1] at k1
  by_cases e : k = vA h (v0 + 19) hf
  · rw [e]; exact g19
  · have k2 : k < vA h (v0 + 19) hf := by
      have := g11.2
      lia
    have k3 : k ≤ 40 := Int32.le_of_lt (Int32.lt_trans k2 g11.2)
    have z := g8 (40 * hf + k) (q_40k f0 f1 k0 k3) (Or.inl (q_40n f0 f1 k0 k3 m0 (Int32.le_of_lt g11.2) e))
    exact q_CM_fr (C k k0 k2) f0 f1 ⟨z.1, z.2.1, z.2.2.1, z.2.2.2.1, z.2.2.2.2.1, z.2.2.2.2.2.1, z.2.2.2.2.2.2.1, z.2.2.2.2.2.2.2.1, z.2.2.2.2.2.2.2.2.1⟩ px c0 cm c1
theorem q_LV_com (V : q_LV h v0 hl) (f0 : 0 ≤ hf) (f1 : hf ≤ 1) (lh : hl = 1 - hf) (m0 : 0 ≤ vA h (v0 + 19) hf) (m1 : vA h (v0 + 19) hf ≤ 40) (n1 : vA h (v0 + 19) hl ≤ 40)
    (g8 : ∀ j, 0 ≤ j → (j ≠ (40 * hf + vA h (v0 + 19) hf) ∨ 40 ≤ vA h (v0 + 19) hf) → vA h' (v0 + 4) j = vA h (v0 + 4) j ∧ vA h' (v0 + 5) j = vA h (v0 + 5) j ∧ vA h' (v0 + 6) j = vA h (v0 + 6) j ∧ vA h' (v0 + 7) j = vA h (v0 + 7) j ∧ vA h' (v0 + 8) j = vA h (v0 + 8) j ∧ vA h' (v0 + 9) j = vA h (v0 + 9) j ∧ vA h' (v0 + 10) j = vA h (v0 + 10) j ∧ vA h' (v0 + 11) j = vA h (v0 + 11) j ∧ vA h' (v0 + 12) j = vA h (v0 + 12) j ∧ vA h' (v0 + 13) j = vA h (v0 + 13) j)
    (px : ∀ q, q_PX h v0 hl q → q_PX h' v0 hl q) (e19 : ∀ j, 0 ≤ j → j ≠ hf → vA h' (v0 + 19) j = vA h (v0 + 19) j) (e22 : ∀ j, 0 ≤ j → j ≠ hf → vA h' (v0 + 22) j = vA h (v0 + 22) j) (c0 : 0 ≤ vA h (v0 + 22) hl) (c1 : vA h (v0 + 22) hl ≤ 299) : q_LV h' v0 hl := by
  obtain ⟨l0, l1, ln⟩ := q_hl f0 f1 lh
  intro k k0 k1
  rw [e19 hl l0 ln] at k1
  have k4 : k < 40 := Int32.lt_of_lt_of_le k1 n1
  have s0 := q_40k l0 l1 k0 (Int32.le_of_lt k4)
  have z := g8 (40 * hl + k) s0 (by
    by_cases c : 40 ≤ vA h (v0 + 19) hf
    · exact Or.inr c
    · exact Or.inl (q_40o f0 f1 lh k0 k4 m0 (Int32.not_le.mp c)))
  have v := V k k0 k1
  refine ⟨q_CM_fr v.1 l0 l1 ⟨z.1, z.2.1, z.2.2.1, z.2.2.2.1, z.2.2.2.2.1, z.2.2.2.2.2.1, z.2.2.2.2.2.2.1, z.2.2.2.2.2.2.2.1, z.2.2.2.2.2.2.2.2.1⟩ px c0 (by rw [e22 hl l0 ln]; exact Int32.le_refl _) (by rw [e22 hl l0 ln]; exact c1), fun nm => ?_⟩
  rw [z.1] at nm
  rw [z.2.2.2.2.2.2.2.2.2]
  exact v.2 nm
theorem q_GO_com (G : q_GO h v0 hf 0) (f0 : 0 ≤ hf) (f1 : hf ≤ 1) (m0 : 0 ≤ vA h (v0 + 19) hf)
    (g8 : ∀ j, 0 ≤ j → (j ≠ (40 * hf + vA h (v0 + 19) hf) ∨ 40 ≤ vA h (v0 + 19) hf) → vA h' (v0 + 4) j = vA h (v0 + 4) j ∧ vA h' (v0 + 5) j = vA h (v0 + 5) j ∧ vA h' (v0 + 6) j = vA h (v0 + 6) j ∧ vA h' (v0 + 7) j = vA h (v0 + 7) j ∧ vA h' (v0 + 8) j = vA h (v0 + 8) j ∧ vA h' (v0 + 9) j = vA h (v0 + 9) j ∧ vA h' (v0 + 10) j = vA h (v0 + 10) j ∧ vA h' (v0 + 11) j = vA h (v0 + 11) j ∧ vA h' (v0 + 12) j = vA h (v0 + 12) j ∧ vA h' (v0 + 13) j = vA h (v0 + 13) j)
    (g11 : vA h' (v0 + 19) hf = vA h (v0 + 19) hf + 1 ∧ vA h (v0 + 19) hf < 40) (g21 : vA h' (v0 + 4) (40 * hf + vA h (v0 + 19) hf) = 98 ∨ vA h' (v0 + 4) (40 * hf + vA h (v0 + 19) hf) = 116 → vA h' (v0 + 13) (40 * hf + vA h (v0 + 19) hf) ≤ 25) : q_GO h' v0 hf 0 := by
  intro k k0 k1 nm
  rw [g11.1] at k1
  by_cases e : k = vA h (v0 + 19) hf
  · rw [e] at nm ⊢; exact g21 nm
  · have k2 : k < vA h (v0 + 19) hf := by
      have := g11.2
      lia
    have k3 : k ≤ 40 := Int32.le_of_lt (Int32.lt_trans k2 g11.2)
    have z := g8 (40 * hf + k) (q_40k f0 f1 k0 k3) (Or.inl (q_40n f0 f1 k0 k3 m0 (Int32.le_of_lt g11.2) e))
    rw [z.1] at nm
    rw [z.2.2.2.2.2.2.2.2.2]
    exact G k k0 k2 nm
theorem q_LB_com (L : q_LB h v0 hf) (f0 : 0 ≤ hf) (f1 : hf ≤ 1) (m0 : 0 ≤ vA h (v0 + 19) hf) (g20 : ∀ j, 0 ≤ j → vA h' (v0 + 34) j = vA h (v0 + 34) j ∨ (vA h' (v0 + 34) j = (40 * hf + vA h (v0 + 19) hf) ∧ vA h (v0 + 19) hf < 40)) : q_LB h' v0 hf := by
  intro i i0 i1
  rcases g20 i i0 with z | z
  · rw [z]; exact L i i0 i1
  · right
    rw [z.1]
    have := z.2
    rcases q_hf f0 f1 with z | z <;> subst z <;> constructor <;> lia
theorem q_BL_com {d d' : Int32} (B : q_BL h v0 hf d) (f0 : 0 ≤ hf) (f1 : hf ≤ 1) (m0 : 0 ≤ vA h (v0 + 19) hf) (d0 : 0 ≤ d) (d1 : d ≤ 5)
    (g8 : ∀ j, 0 ≤ j → (j ≠ (40 * hf + vA h (v0 + 19) hf) ∨ 40 ≤ vA h (v0 + 19) hf) → vA h' (v0 + 4) j = vA h (v0 + 4) j ∧ vA h' (v0 + 5) j = vA h (v0 + 5) j ∧ vA h' (v0 + 6) j = vA h (v0 + 6) j ∧ vA h' (v0 + 7) j = vA h (v0 + 7) j ∧ vA h' (v0 + 8) j = vA h (v0 + 8) j ∧ vA h' (v0 + 9) j = vA h (v0 + 9) j ∧ vA h' (v0 + 10) j = vA h (v0 + 10) j ∧ vA h' (v0 + 11) j = vA h (v0 + 11) j ∧ vA h' (v0 + 12) j = vA h (v0 + 12) j ∧ vA h' (v0 + 13) j = vA h (v0 + 13) j)
    (g11 : vA h' (v0 + 19) hf = vA h (v0 + 19) hf + 1 ∧ vA h (v0 + 19) hf < 40) (g22 : ∀ j, 0 ≤ j → j ≠ d → vA h' (v0 + 35) j = vA h (v0 + 35) j) (g23 : d ≤ d' ∧ d' ≤ d + 1) (g24 : vA h' (v0 + 4) (40 * hf + vA h (v0 + 19) hf) = 123 → d < d' ∧ vA h' (v0 + 35) d = (40 * hf + vA h (v0 + 19) hf)) (g25 : vA h' (v0 + 4) (40 * hf + vA h (v0 + 19) hf) ≠ 123 → d = d') : q_BL h' v0 hf d' := by
  obtain ⟨B1, B2⟩ := B
  obtain ⟨g11, mc⟩ := g11
  refine ⟨fun i i0 i1 => ?_, fun k k0 k1 nm => ?_⟩
  · rw [g11]
    by_cases e : i = d
    · by_cases nm : vA h' (v0 + 4) (40 * hf + vA h (v0 + 19) hf) = 123
      · rw [e, (g24 nm).2]
        refine ⟨?_, ?_, nm⟩
        · rcases q_hf f0 f1 with z | z <;> subst z <;> lia
        · rcases q_hf f0 f1 with z | z <;> subst z <;> lia
      · have := g25 nm
        rw [e, ← this] at i1
        exact absurd i1 (Int32.lt_irrefl)
    · have i2 : i < d := by lia
      obtain ⟨b1, b2, b3⟩ := B1 i i0 i2
      rw [g22 i i0 e]
      have o0 : 0 ≤ vA h (v0 + 35) i := Int32.le_trans (by rcases q_hf f0 f1 with z | z <;> subst z <;> decide) b1
      have z := g8 _ o0 (Or.inl (fun z => absurd b2 (by rw [z]; exact Int32.lt_irrefl)))
      refine ⟨b1, ?_, by rw [z.1]; exact b3⟩
      rcases q_hf f0 f1 with z | z <;> subst z <;> lia
  · rw [g11] at k1
    by_cases e : k = vA h (v0 + 19) hf
    · rw [e] at nm ⊢
      have z := g24 nm
      exact Or.inr ⟨d, d0, z.1, z.2⟩
    · have k2 : k < vA h (v0 + 19) hf := by lia
      have k3 : k ≤ 40 := Int32.le_of_lt (Int32.lt_trans k2 mc)
      have z := g8 (40 * hf + k) (q_40k f0 f1 k0 k3) (Or.inl (q_40n f0 f1 k0 k3 m0 (Int32.le_of_lt mc) e))
      rw [z.1] at nm
      rw [z.2.2.2.2.2.2.2.2.2]
      rcases B2 k k0 k2 nm with y | ⟨i, i0, i1, i2⟩
      · exact Or.inl y
      · have ne : i ≠ d := fun z => absurd i1 (by rw [z]; exact Int32.lt_irrefl)
        exact Or.inr ⟨i, i0, Int32.lt_of_lt_of_le i1 g23.1, by rw [g22 i i0 ne]; exact i2⟩
/-- a block closed -/
theorem q_BL_close {d s : Int32} (B : q_BL h v0 hf d) (f0 : 0 ≤ hf) (f1 : hf ≤ 1) (m0 : 0 ≤ vA h (v0 + 19) hf) (m1 : vA h (v0 + 19) hf ≤ 40) (d0 : 0 ≤ d) (d1 : d ≤ 5) (dn : ¬ d = 0) (es : s = vA h (v0 + 35) (d - 1)) (e : ∀ a j, 0 ≤ j → (a ≠ v0 + 13 ∧ a ≠ v0 + 34) → vA h' a j = vA h a j) (g : ∀ j, 0 ≤ j → vA h' (v0 + 13) j = if j = s then vA h (v0 + 19) hf else vA h (v0 + 13) j) : q_BL h' v0 hf (d - 1) := by
  obtain ⟨B1, B2⟩ := B
  have d3 : d - 1 < d := by lia
  have ec : vA h' (v0 + 19) hf = vA h (v0 + 19) hf := e _ _ f0 (by omega)
  refine ⟨fun i i0 i1 => ?_, fun k k0 k1 nm => ?_⟩
  · obtain ⟨b1, b2, b3⟩ := B1 i i0 (Int32.lt_trans i1 d3)
    have o0 : 0 ≤ vA h (v0 + 35) i := Int32.le_trans (by rcases q_hf f0 f1 with z | z <;> subst z <;> decide) b1
    rw [ec, e _ _ i0 (by omega), e _ _ o0 (by omega)]
    exact ⟨b1, b2, b3⟩
  · rw [ec] at k1
    have k3 : k ≤ 40 := Int32.le_trans (Int32.le_of_lt k1) m1
    have j0 := q_40k f0 f1 k0 k3
    rw [e _ _ j0 (by omega)] at nm
    rw [g _ j0]
    by_cases c : 40 * hf + k = s
    · rw [if_pos c]; exact Or.inl m0
    · rw [if_neg c]
      rcases B2 k k0 k1 nm with y | ⟨i, i0, i1, i2⟩
      · exact Or.inl y
      · have ne : i ≠ d - 1 := fun z => c (by rw [es, ← z]; exact i2.symm)
        exact Or.inr ⟨i, i0, by lia, by rw [e _ _ i0 (by omega)]; exact i2⟩
theorem q_GO_close {d s : Int32} (G : q_GO h v0 hf 0) (B : q_BL h v0 hf d) (f0 : 0 ≤ hf) (f1 : hf ≤ 1) (m1 : vA h (v0 + 19) hf ≤ 40) (d0 : 0 ≤ d) (d1 : d ≤ 5) (dn : ¬ d = 0) (es : s = vA h (v0 + 35) (d - 1)) (e : ∀ a j, 0 ≤ j → (a ≠ v0 + 13 ∧ a ≠ v0 + 34) → vA h' a j = vA h a j) (g : ∀ j, 0 ≤ j → vA h' (v0 + 13) j = if j = s then vA h (v0 + 19) hf else vA h (v0 + 13) j) : q_GO h' v0 hf 0 := by
  intro k k0 k1 nm
  rw [e _ _ f0 (by omega)] at k1
  have j0 := q_40k f0 f1 k0 (Int32.le_trans (Int32.le_of_lt k1) m1)
  rw [e _ _ j0 (by omega)] at nm
  have b3 := (B.1 (d - 1) (by lia) (by lia)).2.2
  rw [← es] at b3
  rw [g _ j0, if_neg (fun c => by rw [c, b3] at nm; revert nm; decide)]
  exact G k k0 k1 nm
theorem q_os {d s : Int32} (B : q_BL h v0 hf d) (f0 : 0 ≤ hf) (f1 : hf ≤ 1) (m1 : vA h (v0 + 19) hf ≤ 40) (d0 : 0 ≤ d) (d1 : d ≤ 5) (dn : ¬ d = 0) (es : s = vA h (v0 + 35) (d - 1)) : 40 * hf ≤ s ∧ s < 40 * hf + 40 := by
  obtain ⟨b1, b2, b3⟩ := B.1 (d - 1) (by lia) (by lia)
  rw [← es] at b1 b2
  refine ⟨b1, ?_⟩
  rcases q_hf f0 f1 with z | z <;> subst z <;> lia
theorem q_LV_close {s c : Int32} (V : q_LV h v0 hl) (f0 : 0 ≤ hf) (f1 : hf ≤ 1) (lh : hl = 1 - hf) (n1 : vA h (v0 + 19) hl ≤ 40) (c0 : 0 ≤ vA h (v0 + 22) hl) (c1 : vA h (v0 + 22) hl ≤ 299) (so : 40 * hf ≤ s ∧ s < 40 * hf + 40) (e : ∀ a j, 0 ≤ j → (a ≠ v0 + 13 ∧ a ≠ v0 + 34) → vA h' a j = vA h a j) (g : ∀ j, 0 ≤ j → vA h' (v0 + 13) j = if j = s then c else vA h (v0 + 13) j) : q_LV h' v0 hl := by
  obtain ⟨l0, l1, ln⟩ := q_hl f0 f1 lh
  refine q_LV_same V l0 l1 n1 c0 c1 e (fun j j0 j1 j2 => ?_)
  rw [g j j0, if_neg]
  intro z
  rw [z] at j1 j2
  obtain ⟨s1, s2⟩ := so
  rcases q_hf f0 f1 with y | y <;> subst y <;> subst lh <;> lia
/-- goals gone through, in the half hf -/
theorem q_LV_goals (V : q_LV h v0 hl) (f0 : 0 ≤ hf) (f1 : hf ≤ 1) (lh : hl = 1 - hf) (n1 : vA h (v0 + 19) hl ≤ 40) (c0 : 0 ≤ vA h (v0 + 22) hl) (c1 : vA h (v0 + 22) hl ≤ 299) (e : ∀ a j, 0 ≤ j → (a ≠ v0 + 13 ∧ a ≠ v0 + 34) → vA h' a j = vA h a j) (g : ∀ j, 0 ≤ j → (j < 40 * hf ∨ 40 * hf + 40 ≤ j) → vA h' (v0 + 13) j = vA h (v0 + 13) j) : q_LV h' v0 hl := by
  obtain ⟨l0, l1, ln⟩ := q_hl f0 f1 lh
  refine q_LV_same V l0 l1 n1 c0 c1 e (fun j j0 j1 j2 => g j j0 ?_)
  rcases q_hf f0 f1 with y | y <;> subst y <;> subst lh
  · right; exact j1
  · left; exact j2
theorem q_LV_fin {d : Int32} (C : q_CS h v0 hf) (B : q_BL h v0 hf d) (f0 : 0 ≤ hf) (f1 : hf ≤ 1) (m1 : vA h (v0 + 19) hf ≤ 40) (c0 : 0 ≤ vA h (v0 + 22) hf) (c1 : vA h (v0 + 22) hf ≤ 299) (dz : d ≤ 0) (e : ∀ a j, 0 ≤ j → (a ≠ v0 + 13 ∧ a ≠ v0 + 34) → vA h' a j = vA h a j) (g : ∀ j, 0 ≤ j → vA h (v0 + 4) j ≠ 98 → vA h (v0 + 4) j ≠ 116 → vA h' (v0 + 13) j = vA h (v0 + 13) j) : q_LV h' v0 hf := by
  intro k k0 k1
  have k2 := k1
  rw [e _ _ f0 (by omega)] at k2
  refine ⟨q_CS_same C f0 f1 m1 c0 c1 e k k0 k1, fun nm => ?_⟩
  have j0 := q_40k f0 f1 k0 (Int32.le_trans (Int32.le_of_lt k2) m1)
  rw [e _ _ j0 (by omega)] at nm
  rw [g _ j0 (by rw [nm]; decide) (by rw [nm]; decide)]
  rcases B.2 k k0 k2 nm with y | ⟨i, i0, i1, _⟩
  · exact y
  · exact absurd i1 (by lia)
/-- a half begun anew: the other is as it was -/
theorem q_LV_beg (V : q_LV h v0 hl) (l0 : 0 ≤ hl) (l1 : hl ≤ 1) (m : vA h (v0 + 19) hl ≤ 40) (c0 : 0 ≤ vA h (v0 + 22) hl) (c1 : vA h (v0 + 22) hl ≤ 299) (e : ∀ a j, 0 ≤ j → ¬ (v0 + 19 ≤ a ∧ a ≤ v0 + 22) → vA h' a j = vA h a j) (e19 : vA h' (v0 + 19) hl = vA h (v0 + 19) hl) (e20 : vA h' (v0 + 20) hl = vA h (v0 + 20) hl) (e21 : vA h' (v0 + 21) hl = vA h (v0 + 21) hl) (e22 : vA h' (v0 + 22) hl = vA h (v0 + 22) hl) : q_LV h' v0 hl := by
  intro k k0 k1
  rw [e19] at k1
  have s0 := q_40k l0 l1 k0 (Int32.le_trans (Int32.le_of_lt k1) m)
  have z := V k k0 k1
  refine ⟨q_CM_fr z.1 l0 l1 ⟨e _ _ s0 (by omega), e _ _ s0 (by omega), e _ _ s0 (by omega), e _ _ s0 (by omega), e _ _ s0 (by omega), e _ _ s0 (by omega), e _ _ s0 (by omega), e _ _ s0 (by omega), e _ _ s0 (by omega)⟩ (fun q P => ?_) c0 (by rw [e22]; exact Int32.le_refl _) (by rw [e22]; exact c1), fun nm => ?_⟩
  · have q0 : 0 ≤ q := Int32.le_trans (by rcases q_hf l0 l1 with z | z <;> subst z <;> decide) P.2.2.2.1
    exact q_PX_eq P l0 l1 (e _ _ q0 (by omega)) (e _ _ q0 (by omega)) (fun j j0 _ _ => ⟨e _ _ j0 (by omega), e _ _ j0 (by omega)⟩) (by rw [e21]; exact Int32.le_refl _) (by rw [e20]; exact Int32.le_refl _)
  · rw [e _ _ s0 (by omega)] at nm
    rw [e _ _ s0 (by omega)]
    exact z.2 nm
end QPA
theorem zz_97728f95a5 {a1 a2 a3 : Int32} (h0 : (0 ≤ a1) ∧ (a1 ≤ 1)) (h1 : 0 ≤ a2) (h2 : (0 ≤ a3) ∧ (a3 ≤ 40)) (h3 : ¬ (a3 ≤ a2)) : 0 ≤ (40 * a1) + a2 := by simp only [Int32.le_iff_toInt_le, Int32.lt_iff_toInt_lt, ← Int32.toInt_inj, ne_eq] at *; have l0 : (0 : Int32).toInt = 0 := (by decide); have l1 : (1 : Int32).toInt = 1 := (by decide); have l2 : (40 : Int32).toInt = 40 := (by decide); have s0 : (40 * a1).toInt = 40 * a1.toInt := q_tM (by decide) (by omega) (by omega); have s1 : ((40 * a1) + a2).toInt = (40 * a1).toInt + a2.toInt := q_tA rfl (by omega) (by omega); omega
theorem zz_3bc62dc900 {a1 a2 a3 : Int32} (h0 : (0 ≤ a1) ∧ (a1 ≤ 1)) (h1 : (0 ≤ a2) ∧ (a2 ≤ 40)) (h2 : ¬ (a2 ≤ a3)) (h3 : 0 ≤ a3) : (40 * a1) + a3 < 80 := by simp only [Int32.le_iff_toInt_le, Int32.lt_iff_toInt_lt, ← Int32.toInt_inj, ne_eq] at *; have l0 : (0 : Int32).toInt = 0 := (by decide); have l1 : (1 : Int32).toInt = 1 := (by decide); have l2 : (40 : Int32).toInt = 40 := (by decide); have l3 : (80 : Int32).toInt = 80 := (by decide); have s0 : (40 * a1).toInt = 40 * a1.toInt := q_tM (by decide) (by omega) (by omega); have s1 : ((40 * a1) + a3).toInt = (40 * a1).toInt + a3.toInt := q_tA rfl (by omega) (by omega); omega
theorem zz_75135c49c1 {a1 a2 : Int32} (h0 : 0 ≤ a1) (h1 : (0 ≤ a2) ∧ (a2 ≤ 40)) (h2 : ¬ (a2 ≤ a1)) : 0 ≤ a1 + 1 := by simp only [Int32.le_iff_toInt_le, Int32.lt_iff_toInt_lt, ← Int32.toInt_inj, ne_eq] at *; have l0 : (0 : Int32).toInt = 0 := (by decide); have l1 : (40 : Int32).toInt = 40 := (by decide); have l2 : (1 : Int32).toInt = 1 := (by decide); have s0 : (a1 + 1).toInt = a1.toInt + 1 := q_tA (by decide) (by omega) (by omega); omega
theorem zz_d5e412f202 {a1 a2 : Int32} (h0 : (0 ≤ a1) ∧ (a1 ≤ 40)) (h1 : ¬ (a1 ≤ a2)) (h2 : 0 ≤ a2) : a2 + 1 ≤ 40 := by simp only [Int32.le_iff_toInt_le, Int32.lt_iff_toInt_lt, ← Int32.toInt_inj, ne_eq] at *; have l0 : (0 : Int32).toInt = 0 := (by decide); have l1 : (40 : Int32).toInt = 40 := (by decide); have l2 : (1 : Int32).toInt = 1 := (by decide); have s0 : (a2 + 1).toInt = a2.toInt + 1 := q_tA (by decide) (by omega) (by omega); omega
theorem zz_a2f83bd0ea {a1 a2 : Int32} (h0 : (0 ≤ a1) ∧ (a1 ≤ 40)) (h1 : ¬ (a1 ≤ a2)) : a2 < 40 := by simp only [Int32.le_iff_toInt_le, Int32.lt_iff_toInt_lt, ← Int32.toInt_inj, ne_eq] at *; have l0 : (0 : Int32).toInt = 0 := (by decide); have l1 : (40 : Int32).toInt = 40 := (by decide); omega
theorem zz_2fb5db7d90 {a1 : Int32} (h0 : (0 ≤ a1) ∧ (a1 ≤ 40)) : a1 ≤ 40 := by simp only [Int32.le_iff_toInt_le, Int32.lt_iff_toInt_lt, ← Int32.toInt_inj, ne_eq] at *; have l0 : (0 : Int32).toInt = 0 := (by decide); have l1 : (40 : Int32).toInt = 40 := (by decide); omega
theorem zz_7120950bf1 {a1 a2 a3 a4 : Int32} (h0 : a1 ≤ a2) (h1 : a3 ≤ a1 + 1) (h2 : -100000 ≤ a1) (h3 : (0 ≤ a4) ∧ (a4 ≤ 40)) (h4 : ¬ (a4 ≤ a2)) (h5 : 0 ≤ a2) : a3 ≤ a2 + 1 := by simp only [Int32.le_iff_toInt_le, Int32.lt_iff_toInt_lt, ← Int32.toInt_inj, ne_eq] at *; have l0 : (1 : Int32).toInt = 1 := (by decide); have l1 : (-100000 : Int32).toInt = -100000 := (by decide); have l2 : (0 : Int32).toInt = 0 := (by decide); have l3 : (40 : Int32).toInt = 40 := (by decide); have s0 : (a1 + 1).toInt = a1.toInt + 1 := q_tA (by decide) (by omega) (by omega); have s1 : (a2 + 1).toInt = a2.toInt + 1 := q_tA (by decide) (by omega) (by omega); omega
theorem zz_098ca6c8f2 {a1 a2 : Int32} (h0 : (a1 < 40 * a2) ∨ ((40 * a2) + 40 ≤ a1)) (h1 : (0 ≤ a2) ∧ (a2 ≤ 1)) : (a1 < 40 * a2) ∨ ((40 * a2) + 40 ≤ a1) := by simp only [Int32.le_iff_toInt_le, Int32.lt_iff_toInt_lt, ← Int32.toInt_inj, ne_eq] at *; have l0 : (40 : Int32).toInt = 40 := (by decide); have l1 : (0 : Int32).toInt = 0 := (by decide); have l2 : (1 : Int32).toInt = 1 := (by decide); have s0 : (40 * a2).toInt = 40 * a2.toInt := q_tM (by decide) (by omega) (by omega); have s1 : ((40 * a2) + 40).toInt = (40 * a2).toInt + 40 := q_tA (by decide) (by omega) (by omega); omega
theorem zz_656a9a7919 {a1 : Int32} (h0 : (-1 ≤ a1) ∧ (a1 ≤ 40)) (h1 : ¬ (a1 = -1)) : 0 ≤ a1 := by simp only [Int32.le_iff_toInt_le, Int32.lt_iff_toInt_lt, ← Int32.toInt_inj, ne_eq] at *; have l0 : (-1 : Int32).toInt = -1 := (by decide); have l1 : (40 : Int32).toInt = 40 := (by decide); have l2 : (0 : Int32).toInt = 0 := (by decide); omega
theorem zz_1d04817344 {a1 a2 a3 a4 a5 : Int32} (h0 : (a1 = 0) → ((a2 < a3) → (((a4 = 98) ∨ (a4 = 116)) → (a5 ≤ 25)))) (h1 : ¬ (a3 ≤ a2)) (h2 : a1 = 0) (h3 : a4 = 98) : a5 < 26 := by simp only [Int32.le_iff_toInt_le, Int32.lt_iff_toInt_lt, ← Int32.toInt_inj, ne_eq] at *; have l0 : (0 : Int32).toInt = 0 := (by decide); have l1 : (98 : Int32).toInt = 98 := (by decide); have l2 : (116 : Int32).toInt = 116 := (by decide); have l3 : (25 : Int32).toInt = 25 := (by decide); have l4 : (26 : Int32).toInt = 26 := (by decide); omega
theorem zz_cdea26008c {a1 a2 a3 a4 a5 a6 a7 : Int32} (h0 : (0 ≤ a1) → ((a1 ≤ 25) → ((a2 = -1) ∨ ((40 * a3 ≤ a2) ∧ (a2 ≤ (40 * a3) + 39))))) (h1 : (-1 ≤ a1) ∧ (a1 ≤ 40)) (h2 : 0 ≤ a2) (h3 : (a4 = 0) → ((a5 < a6) → (((a7 = 98) ∨ (a7 = 116)) → (a1 ≤ 25)))) (h4 : ¬ (a1 = -1)) (h5 : ¬ (a6 ≤ a5)) (h6 : a4 = 0) (h7 : a7 = 98) (h8 : (0 ≤ a3) ∧ (a3 ≤ 1)) (h9 : (-1 ≤ a2) ∧ (a2 ≤ 79)) : -1 ≤ a2 - (40 * a3) + 1 := by simp only [Int32.le_iff_toInt_le, Int32.lt_iff_toInt_lt, ← Int32.toInt_inj, ne_eq] at *; have l0 : (0 : Int32).toInt = 0 := (by decide); have l1 : (25 : Int32).toInt = 25 := (by decide); have l2 : (-1 : Int32).toInt = -1 := (by decide); have l3 : (40 : Int32).toInt = 40 := (by decide); have l4 : (39 : Int32).toInt = 39 := (by decide); have l5 : (98 : Int32).toInt = 98 := (by decide); have l6 : (116 : Int32).toInt = 116 := (by decide); have l7 : (1 : Int32).toInt = 1 := (by decide); have l8 : (79 : Int32).toInt = 79 := (by decide); have s0 : (40 * a3).toInt = 40 * a3.toInt := q_tM (by decide) (by omega) (by omega); have s1 : ((40 * a3) + 39).toInt = (40 * a3).toInt + 39 := q_tA (by decide) (by omega) (by omega); have s2 : (a2 - (40 * a3)).toInt = a2.toInt - (40 * a3).toInt := q_tS rfl (by omega) (by omega); have s3 : (a2 - (40 * a3) + 1).toInt = (a2 - (40 * a3)).toInt + 1 := q_tA (by decide) (by omega) (by omega); omega
theorem zz_9d013c6895 {a1 a2 a3 a4 a5 a6 a7 : Int32} (h0 : (0 ≤ a1) → ((a1 ≤ 25) → ((a2 = -1) ∨ ((40 * a3 ≤ a2) ∧ (a2 ≤ (40 * a3) + 39))))) (h1 : (-1 ≤ a1) ∧ (a1 ≤ 40)) (h2 : 0 ≤ a2) (h3 : (a4 = 0) → ((a5 < a6) → (((a7 = 98) ∨ (a7 = 116)) → (a1 ≤ 25)))) (h4 : ¬ (a1 = -1)) (h5 : ¬ (a6 ≤ a5)) (h6 : a4 = 0) (h7 : a7 = 98) (h8 : (0 ≤ a3) ∧ (a3 ≤ 1)) (h9 : (-1 ≤ a2) ∧ (a2 ≤ 79)) : a2 - (40 * a3) + 1 ≤ 40 := by simp only [Int32.le_iff_toInt_le, Int32.lt_iff_toInt_lt, ← Int32.toInt_inj, ne_eq] at *; have l0 : (0 : Int32).toInt = 0 := (by decide); have l1 : (25 : Int32).toInt = 25 := (by decide); have l2 : (-1 : Int32).toInt = -1 := (by decide); have l3 : (40 : Int32).toInt = 40 := (by decide); have l4 : (39 : Int32).toInt = 39 := (by decide); have l5 : (98 : Int32).toInt = 98 := (by decide); have l6 : (116 : Int32).toInt = 116 := (by decide); have l7 : (1 : Int32).toInt = 1 := (by decide); have l8 : (79 : Int32).toInt = 79 := (by decide); have s0 : (40 * a3).toInt = 40 * a3.toInt := q_tM (by decide) (by omega) (by omega); have s1 : ((40 * a3) + 39).toInt = (40 * a3).toInt + 39 := q_tA (by decide) (by omega) (by omega); have s2 : (a2 - (40 * a3)).toInt = a2.toInt - (40 * a3).toInt := q_tS rfl (by omega) (by omega); have s3 : (a2 - (40 * a3) + 1).toInt = (a2 - (40 * a3)).toInt + 1 := q_tA (by decide) (by omega) (by omega); omega
theorem zz_54f9b22d4f {a1 a2 a3 a4 : Int32} (h0 : a1 ≠ (40 * a2) + a3) (h1 : (0 ≤ a2) ∧ (a2 ≤ 1)) (h2 : 0 ≤ a3) (h3 : (0 ≤ a4) ∧ (a4 ≤ 40)) (h4 : ¬ (a4 ≤ a3)) : ¬ (a1 = (40 * a2) + a3) := by simp only [Int32.le_iff_toInt_le, Int32.lt_iff_toInt_lt, ← Int32.toInt_inj, ne_eq] at *; have l0 : (40 : Int32).toInt = 40 := (by decide); have l1 : (0 : Int32).toInt = 0 := (by decide); have l2 : (1 : Int32).toInt = 1 := (by decide); have s0 : (40 * a2).toInt = 40 * a2.toInt := q_tM (by decide) (by omega) (by omega); have s1 : ((40 * a2) + a3).toInt = (40 * a2).toInt + a3.toInt := q_tA rfl (by omega) (by omega); omega
theorem zz_ae1479c91a {a1 a2 a3 a4 : Int32} (h0 : 0 ≤ a1) (h1 : (0 ≤ a2) ∧ (a2 ≤ 40)) (h2 : ¬ (a2 ≤ a1)) (h3 : (a3 < 40 * a4) ∨ ((40 * a4) + 40 ≤ a3)) (h4 : (0 ≤ a4) ∧ (a4 ≤ 1)) : ¬ (a3 = (40 * a4) + a1) := by simp only [Int32.le_iff_toInt_le, Int32.lt_iff_toInt_lt, ← Int32.toInt_inj, ne_eq] at *; have l0 : (0 : Int32).toInt = 0 := (by decide); have l1 : (40 : Int32).toInt = 40 := (by decide); have l2 : (1 : Int32).toInt = 1 := (by decide); have s0 : (40 * a4).toInt = 40 * a4.toInt := q_tM (by decide) (by omega) (by omega); have s1 : ((40 * a4) + 40).toInt = (40 * a4).toInt + 40 := q_tA (by decide) (by omega) (by omega); have s2 : ((40 * a4) + a1).toInt = (40 * a4).toInt + a1.toInt := q_tA rfl (by omega) (by omega); omega
theorem zz_80d2f7a82c {a1 a2 a3 a4 a5 : Int32} (h0 : (a1 = 0) → ((a2 < a3) → (((a4 = 98) ∨ (a4 = 116)) → (a5 ≤ 25)))) (h1 : ¬ (a3 ≤ a2)) (h2 : a1 = 0) (h3 : a4 = 116) : a5 < 26 := by simp only [Int32.le_iff_toInt_le, Int32.lt_iff_toInt_lt, ← Int32.toInt_inj, ne_eq] at *; have l0 : (0 : Int32).toInt = 0 := (by decide); have l1 : (98 : Int32).toInt = 98 := (by decide); have l2 : (116 : Int32).toInt = 116 := (by decide); have l3 : (25 : Int32).toInt = 25 := (by decide); have l4 : (26 : Int32).toInt = 26 := (by decide); omega
theorem zz_4181b7335f {a1 a2 a3 a4 a5 a6 a7 : Int32} (h0 : (0 ≤ a1) → ((a1 ≤ 25) → ((a2 = -1) ∨ ((40 * a3 ≤ a2) ∧ (a2 ≤ (40 * a3) + 39))))) (h1 : (-1 ≤ a1) ∧ (a1 ≤ 40)) (h2 : 0 ≤ a2) (h3 : (a4 = 0) → ((a5 < a6) → (((a7 = 98) ∨ (a7 = 116)) → (a1 ≤ 25)))) (h4 : ¬ (a1 = -1)) (h5 : ¬ (a6 ≤ a5)) (h6 : a4 = 0) (h7 : a7 = 116) (h8 : (0 ≤ a3) ∧ (a3 ≤ 1)) (h9 : (-1 ≤ a2) ∧ (a2 ≤ 79)) : -1 ≤ a2 - (40 * a3) + 1 := by simp only [Int32.le_iff_toInt_le, Int32.lt_iff_toInt_lt, ← Int32.toInt_inj, ne_eq] at *; have l0 : (0 : Int32).toInt = 0 := (by decide); have l1 : (25 : Int32).toInt = 25 := (by decide); have l2 : (-1 : Int32).toInt = -1 := (by decide); have l3 : (40 : Int32).toInt = 40 := (by decide); have l4 : (39 : Int32).toInt = 39 := (by decide); have l5 : (98 : Int32).toInt = 98 := (by decide); have l6 : (116 : Int32).toInt = 116 := (by decide); have l7 : (1 : Int32).toInt = 1 := (by decide); have l8 : (79 : Int32).toInt = 79 := (by decide); have s0 : (40 * a3).toInt = 40 * a3.toInt := q_tM (by decide) (by omega) (by omega); have s1 : ((40 * a3) + 39).toInt = (40 * a3).toInt + 39 := q_tA (by decide) (by omega) (by omega); have s2 : (a2 - (40 * a3)).toInt = a2.toInt - (40 * a3).toInt := q_tS rfl (by omega) (by omega); have s3 : (a2 - (40 * a3) + 1).toInt = (a2 - (40 * a3)).toInt + 1 := q_tA (by decide) (by omega) (by omega); omega
theorem zz_eb22e7e754 {a1 a2 a3 a4 a5 a6 a7 : Int32} (h0 : (0 ≤ a1) → ((a1 ≤ 25) → ((a2 = -1) ∨ ((40 * a3 ≤ a2) ∧ (a2 ≤ (40 * a3) + 39))))) (h1 : (-1 ≤ a1) ∧ (a1 ≤ 40)) (h2 : 0 ≤ a2) (h3 : (a4 = 0) → ((a5 < a6) → (((a7 = 98) ∨ (a7 = 116)) → (a1 ≤ 25)))) (h4 : ¬ (a1 = -1)) (h5 : ¬ (a6 ≤ a5)) (h6 : a4 = 0) (h7 : a7 = 116) (h8 : (0 ≤ a3) ∧ (a3 ≤ 1)) (h9 : (-1 ≤ a2) ∧ (a2 ≤ 79)) : a2 - (40 * a3) + 1 ≤ 40 := by simp only [Int32.le_iff_toInt_le, Int32.lt_iff_toInt_lt, ← Int32.toInt_inj, ne_eq] at *; have l0 : (0 : Int32).toInt = 0 := (by decide); have l1 : (25 : Int32).toInt = 25 := (by decide); have l2 : (-1 : Int32).toInt = -1 := (by decide); have l3 : (40 : Int32).toInt = 40 := (by decide); have l4 : (39 : Int32).toInt = 39 := (by decide); have l5 : (98 : Int32).toInt = 98 := (by decide); have l6 : (116 : Int32).toInt = 116 := (by decide); have l7 : (1 : Int32).toInt = 1 := (by decide); have l8 : (79 : Int32).toInt = 79 := (by decide); have s0 : (40 * a3).toInt = 40 * a3.toInt := q_tM (by decide) (by omega) (by omega); have s1 : ((40 * a3) + 39).toInt = (40 * a3).toInt + 39 := q_tA (by decide) (by omega) (by omega); have s2 : (a2 - (40 * a3)).toInt = a2.toInt - (40 * a3).toInt := q_tS rfl (by omega) (by omega); have s3 : (a2 - (40 * a3) + 1).toInt = (a2 - (40 * a3)).toInt + 1 := q_tA (by decide) (by omega) (by omega); omega
set_option maxHeartbeats 2000000 in
theorem p_Mod_goals_2_n {L : q_L} {W : Nat → Prop} {h0 : z_H} {π : Nat → Nat → Option Nat} {N : Nat} {lo : Nat → Int32} (hqn : q_Q lo 41) : ∀ (n : Nat) (v0 : Nat) (v1 : Int32) (h : z_H), q_U L W h0 π h → q_M L π v0 → (∀ a, v0 ≤ a → a < v0 + 46 → W a) → (0 ≤ v1) → (v1 ≤ 40) → (vI h v0 48 = 0 → q_GO h v0 (vI h v0 42) v1) → (q_LB h v0 (vI h v0 42)) → (lo n ≤ v1) → qk (f_Mod_goals_2 N  n v0 v1 h) (fun r => q_U L W h0 π r ∧ (∀ a k, ¬ (a = v0 ∧ (k = 5 ∨ k = 48)) → vI r a k = vI h a k) ∧ (∀ a j, 0 ≤ j → ¬ (a = v0 + 13) → vA r a j = vA h a j) ∧ (∀ j, 0 ≤ j → (j < 40 * vI h v0 42 ∨ 40 * vI h v0 42 + 40 ≤ j) → vA r (v0 + 13) j = vA h (v0 + 13) j) ∧ (∀ j, 0 ≤ j → vA h (v0 + 4) j ≠ 98 → vA h (v0 + 4) j ≠ 116 → vA r (v0 + 13) j = vA h (v0 + 13) j) ∧ (vI r v0 48 = 0 → vI h v0 48 = 0)) := by
  intro n
  induction n with
  | zero => intro v0 v1 h T kv0 wM a0 a1 G LB hms; have hz := hqn.1; exact absurd hms (by grind)
  | succ n ih =>
    intro v0 v1 h T kv0 wM a0 a1 G LB hms
    obtain ⟨hq1, hq2, hq3⟩ := hqn.2 n
    rw [f_Mod_goals_2]
    have G1 : vI h v0 48 = 0 → v1 < vA h (v0 + 19) (vI h v0 42) → vA h (v0 + 4) (40 * vI h v0 42 + v1) = 98 ∨ vA h (v0 + 4) (40 * vI h v0 42 + v1) = 116 → vA h (v0 + 13) (40 * vI h v0 42 + v1) ≤ 25 := fun b k c => G b v1 (Int32.le_refl _) k c
    have L1 : 0 ≤ vA h (v0 + 13) (40 * vI h v0 42 + v1) → vA h (v0 + 13) (40 * vI h v0 42 + v1) ≤ 25 → vA h (v0 + 34) (vA h (v0 + 13) (40 * vI h v0 42 + v1)) = -1 ∨ (40 * vI h v0 42 ≤ vA h (v0 + 34) (vA h (v0 + 13) (40 * vI h v0 42 + v1)) ∧ vA h (v0 + 34) (vA h (v0 + 13) (40 * vI h v0 42 + v1)) ≤ 40 * vI h v0 42 + 39) := fun i i2 => LB _ i i2
    refine r_Mo_24 T kv0 ?_
    refine r_Mo_42 T kv0 ?_
    intro x2 ex2 lx2 ux2
    subst ex2
    have o1 := g_Mo_42 T kv0
    refine r_Mo_e19 T kv0 lx2 (zz_e1f2e57bfa o1) ?_
    intro x3 ex3 lx3 ux3
    subst ex3
    refine qk_if (fun cc2 => ?_) (fun cc2 => ?_)
    · skip
      refine qk_some ?_
      exact ⟨T, (by clear ih; show ∀ a k, ¬ (a = v0 ∧ (k = 5 ∨ k = 48)) → vI h a k = vI h a k; intro a k n0; rfl), (by clear ih; show ∀ a j, 0 ≤ j → ¬ (a = v0 + 13) → vA h a j = vA h a j; intro a j j0 n0; rfl), (by clear ih; show ∀ j, 0 ≤ j → (j < 40 * vI h v0 42 ∨ 40 * vI h v0 42 + 40 ≤ j) → vA h (v0 + 13) j = vA h (v0 + 13) j; intro j j0 n0; rfl), (by clear ih; show ∀ j, 0 ≤ j → vA h (v0 + 4) j ≠ 98 → vA h (v0 + 4) j ≠ 116 → vA h (v0 + 13) j = vA h (v0 + 13) j; intro j j0 n0 n1; rfl), (zz_31e838399c)⟩
    · skip
      refine r_Mo_48 T kv0 ?_
      intro x5 ex5
      subst ex5
      refine qk_if (fun cc3 => ?_) (fun cc3 => ?_)
      · skip
        refine r_Mo_42 T kv0 ?_
        intro x7 ex7 lx7 ux7
        subst ex7
        refine qk_bs ?_
        refine r_Mo_9 T kv0 ?_
        have o4 := g_Mo_e19 T kv0 (vI h v0 42)
        refine r_Mo_e4 T kv0 (zz_97728f95a5 o1 a0 o4 cc2) (zz_3bc62dc900 o1 o4 cc2 a0) ?_
        intro x10 ex10
        subst ex10
        refine qk_if (fun cc5 => ?_) (fun cc5 => ?_)
        · skip
          unfold f_Mod_goals_54
          refine r_Mo_18 T kv0 ?_
          refine r_Mo_e13 T kv0 (zz_97728f95a5 o1 a0 o4 cc2) (zz_3bc62dc900 o1 o4 cc2 a0) ?_
          intro x2i6 ex2i6 lx2i6 ux2i6
          subst ex2i6
          refine qk_if (fun cc7 => ?_) (fun cc7 => ?_)
          · skip
            refine qk_bs ?_
            refine qk_mono (ih (v0) ((v1 + 1)) h T kv0 wM (zz_75135c49c1 a0 o4 cc2) (zz_d5e412f202 o4 cc2 a0) (by clear ih; intro bb; exact q_GO_eq (G bb) (g_Mo_42 T kv0).1 (g_Mo_42 T kv0).2 a0 (zz_a2f83bd0ea o4 cc2) (zz_2fb5db7d90 o4) rfl (fun j j0 => by rfl) (fun j j0 jn => by rfl)) (by clear ih; exact LB) (zz_7120950bf1 hms hq1 hq2 o4 cc2 a0)) ?_
            rintro hz ⟨Tz, g0, g1, g2, g3, g4⟩
            try dsimp only at *
            exact ⟨Tz, (by clear ih; show ∀ a k, ¬ (a = v0 ∧ (k = 5 ∨ k = 48)) → vI hz a k = vI h a k; intro a k n0; rw [g0 a k (by omega)]), (by clear ih; show ∀ a j, 0 ≤ j → ¬ (a = v0 + 13) → vA hz a j = vA h a j; intro a j j0 n0; rw [g1 a j j0 (by omega)]), (by clear ih; show ∀ j, 0 ≤ j → (j < 40 * vI h v0 42 ∨ 40 * vI h v0 42 + 40 ≤ j) → vA hz (v0 + 13) j = vA h (v0 + 13) j; intro j j0 n0; rw [g2 j j0 (zz_098ca6c8f2 n0 o1)]), (by clear ih; show ∀ j, 0 ≤ j → vA h (v0 + 4) j ≠ 98 → vA h (v0 + 4) j ≠ 116 → vA hz (v0 + 13) j = vA h (v0 + 13) j; exact g3), g4⟩
          · skip
            refine r_Mo_39 T kv0 ?_
            refine r_Mo_18 T kv0 ?_
            refine r_Mo_e13 T kv0 (zz_97728f95a5 o1 a0 o4 cc2) (zz_3bc62dc900 o1 o4 cc2 a0) ?_
            intro x6i6 ex6i6 lx6i6 ux6i6
            subst ex6i6
            have o9 := g_Mo_e13 T kv0 ((40 * (vI h v0 42)) + v1)
            refine r_Mo_e34 T kv0 (zz_656a9a7919 o9 cc7) (zz_1d04817344 G1 cc2 cc3 cc5) ?_
            intro x7i6 ex7i6 lx7i6 ux7i6
            subst ex7i6
            refine qk_if (fun cc10 => ?_) (fun cc10 => ?_)
            · skip
              refine r_Mo_18 T kv0 ?_
              refine r_Mo_39 T kv0 ?_
              refine r_Mo_18 T kv0 ?_
              refine r_Mo_e13 T kv0 (zz_97728f95a5 o1 a0 o4 cc2) (zz_3bc62dc900 o1 o4 cc2 a0) ?_
              intro x12i6 ex12i6 lx12i6 ux12i6
              subst ex12i6
              refine r_Mo_e34 T kv0 (zz_656a9a7919 o9 cc7) (zz_1d04817344 G1 cc2 cc3 cc5) ?_
              intro x13i6 ex13i6 lx13i6 ux13i6
              subst ex13i6
              refine r_Mo_42 T kv0 ?_
              intro x14i6 ex14i6 lx14i6 ux14i6
              subst ex14i6
              have o11 := g_Mo_e34 T kv0 (vA h (v0 + 13) ((40 * (vI h v0 42)) + v1))
              refine w_Mo_e13 T kv0 (wM _ (by omega) (by omega)) (zz_97728f95a5 o1 a0 o4 cc2) (zz_3bc62dc900 o1 o4 cc2 a0) (zz_cdea26008c L1 o9 cc10 G1 cc7 cc2 cc3 cc5 o1 o11) (zz_9d013c6895 L1 o9 cc10 G1 cc7 cc2 cc3 cc5 o1 o11) ?_
              intro h15i6 Th15i6 ih15i6 ah15i6
              refine qk_bs ?_
              refine qk_mono (ih (v0) ((v1 + 1)) h15i6 Th15i6 kv0 wM (zz_75135c49c1 a0 o4 cc2) (zz_d5e412f202 o4 cc2 a0) (by clear ih; intro bb; rw [show vI h15i6 v0 42 = vI h v0 42 from (by rw [ih15i6 v0 42])]; exact q_GO_eq (G cc3) (g_Mo_42 T kv0).1 (g_Mo_42 T kv0).2 a0 (zz_a2f83bd0ea o4 cc2) (zz_2fb5db7d90 o4) (by rw [ah15i6 (v0 + 19) (vI h v0 42) lx14i6, if_neg (fun z => absurd z.1 (by omega))]) (fun j j0 => by rw [ah15i6 (v0 + 4) j j0, if_neg (fun z => absurd z.1 (by omega))]) (fun j j0 jn => by rw [ah15i6 (v0 + 13) j j0, if_neg (fun z => absurd z.2 (zz_54f9b22d4f jn o1 a0 o4 cc2))])) (by clear ih; rw [show vI h15i6 v0 42 = vI h v0 42 from (by rw [ih15i6 v0 42])]; exact q_LB_eq LB (fun j j0 => by rw [ah15i6 (v0 + 34) j j0, if_neg (fun z => absurd z.1 (by omega))])) (zz_7120950bf1 hms hq1 hq2 o4 cc2 a0)) ?_
              rintro hz ⟨Tz, g0, g1, g2, g3, g4⟩
              try dsimp only at *
              have qh42_g0 : vI h15i6 v0 42 = (vI h v0 42) := by rw [ih15i6 v0 42]
              rw [qh42_g0] at g2
              exact ⟨Tz, (by clear ih; show ∀ a k, ¬ (a = v0 ∧ (k = 5 ∨ k = 48)) → vI hz a k = vI h a k; intro a k n0; rw [g0 a k (by omega), ih15i6]), (by clear ih; show ∀ a j, 0 ≤ j → ¬ (a = v0 + 13) → vA hz a j = vA h a j; intro a j j0 n0; rw [g1 a j j0 (by omega), ah15i6 a j j0, if_neg (by omega)]), (by clear ih; show ∀ j, 0 ≤ j → (j < 40 * vI h v0 42 ∨ 40 * vI h v0 42 + 40 ≤ j) → vA hz (v0 + 13) j = vA h (v0 + 13) j; intro j j0 n0; rw [g2 j j0 (zz_098ca6c8f2 n0 o1), ah15i6 (v0 + 13) j j0, if_neg (fun z => absurd z.2 (zz_ae1479c91a a0 o4 cc2 n0 o1))]), (by clear ih; show ∀ j, 0 ≤ j → vA h (v0 + 4) j ≠ 98 → vA h (v0 + 4) j ≠ 116 → vA hz (v0 + 13) j = vA h (v0 + 13) j; intro j j0 n0 n1; rw [g3 j j0 (by rw [ah15i6 (v0 + 4) j j0, if_neg (fun z => absurd z.1 (by omega))]; exact n0) (by rw [ah15i6 (v0 + 4) j j0, if_neg (fun z => absurd z.1 (by omega))]; exact n1)]; rw [ah15i6 (v0 + 13) j j0, if_neg (fun z => n0 (by rw [z.2]; exact cc5))]), (zz_8b8768a235 cc3)⟩
            · skip
              refine r_Mo_20 T kv0 ?_
              refine r_Mo_e15 T kv0 (zz_97728f95a5 o1 a0 o4 cc2) (zz_3bc62dc900 o1 o4 cc2 a0) ?_
              intro x18i6 ex18i6
              subst ex18i6
              refine r_Mo_o T kv0 ?_
              refine c_Mod_wrong (v0 := v0) (v1 := (vA h (v0 + 15) ((40 * (vI h v0 42)) + v1))) T kv0 wM ?_
              intro r20i6 Tr20i6 gr20i6_0 gr20i6_1 gr20i6_2
              refine qk_bs ?_
              refine qk_mono (ih (v0) ((v1 + 1)) r20i6 Tr20i6 kv0 wM (zz_75135c49c1 a0 o4 cc2) (zz_d5e412f202 o4 cc2 a0) (by clear ih; intro bb; exact absurd bb (zz_f5f80cd091 gr20i6_1)) (by clear ih; rw [show vI r20i6 v0 42 = vI h v0 42 from (by rw [gr20i6_0 v0 42 (by omega)])]; exact q_LB_eq LB (fun j j0 => by rw [gr20i6_2 (v0 + 34) j])) (zz_7120950bf1 hms hq1 hq2 o4 cc2 a0)) ?_
              rintro hz ⟨Tz, g0, g1, g2, g3, g4⟩
              try dsimp only at *
              have qh42_g0 : vI r20i6 v0 42 = (vI h v0 42) := by rw [gr20i6_0 v0 42 (by omega)]
              rw [qh42_g0] at g2
              exact ⟨Tz, (by clear ih; show ∀ a k, ¬ (a = v0 ∧ (k = 5 ∨ k = 48)) → vI hz a k = vI h a k; intro a k n0; rw [g0 a k (by omega), gr20i6_0 a k (by omega)]), (by clear ih; show ∀ a j, 0 ≤ j → ¬ (a = v0 + 13) → vA hz a j = vA h a j; intro a j j0 n0; rw [g1 a j j0 (by omega), gr20i6_2 a j]), (by clear ih; show ∀ j, 0 ≤ j → (j < 40 * vI h v0 42 ∨ 40 * vI h v0 42 + 40 ≤ j) → vA hz (v0 + 13) j = vA h (v0 + 13) j; intro j j0 n0; rw [g2 j j0 (zz_098ca6c8f2 n0 o1), gr20i6_2 (v0 + 13) j]), (by clear ih; show ∀ j, 0 ≤ j → vA h (v0 + 4) j ≠ 98 → vA h (v0 + 4) j ≠ 116 → vA hz (v0 + 13) j = vA h (v0 + 13) j; intro j j0 n0 n1; rw [g3 j j0 (by rw [gr20i6_2 (v0 + 4) j]; exact n0) (by rw [gr20i6_2 (v0 + 4) j]; exact n1)]; rw [gr20i6_2 (v0 + 13) j]), (zz_8b8768a235 cc3)⟩
        · skip
          refine r_Mo_9 T kv0 ?_
          refine r_Mo_e4 T kv0 (zz_97728f95a5 o1 a0 o4 cc2) (zz_3bc62dc900 o1 o4 cc2 a0) ?_
          intro x13 ex13
          subst ex13
          refine qk_if (fun cc14 => ?_) (fun cc14 => ?_)
          · skip
            unfold f_Mod_goals_54
            refine r_Mo_18 T kv0 ?_
            refine r_Mo_e13 T kv0 (zz_97728f95a5 o1 a0 o4 cc2) (zz_3bc62dc900 o1 o4 cc2 a0) ?_
            intro x2i15 ex2i15 lx2i15 ux2i15
            subst ex2i15
            refine qk_if (fun cc16 => ?_) (fun cc16 => ?_)
            · skip
              refine qk_bs ?_
              refine qk_mono (ih (v0) ((v1 + 1)) h T kv0 wM (zz_75135c49c1 a0 o4 cc2) (zz_d5e412f202 o4 cc2 a0) (by clear ih; intro bb; exact q_GO_eq (G bb) (g_Mo_42 T kv0).1 (g_Mo_42 T kv0).2 a0 (zz_a2f83bd0ea o4 cc2) (zz_2fb5db7d90 o4) rfl (fun j j0 => by rfl) (fun j j0 jn => by rfl)) (by clear ih; exact LB) (zz_7120950bf1 hms hq1 hq2 o4 cc2 a0)) ?_
              rintro hz ⟨Tz, g0, g1, g2, g3, g4⟩
              try dsimp only at *
              exact ⟨Tz, (by clear ih; show ∀ a k, ¬ (a = v0 ∧ (k = 5 ∨ k = 48)) → vI hz a k = vI h a k; intro a k n0; rw [g0 a k (by omega)]), (by clear ih; show ∀ a j, 0 ≤ j → ¬ (a = v0 + 13) → vA hz a j = vA h a j; intro a j j0 n0; rw [g1 a j j0 (by omega)]), (by clear ih; show ∀ j, 0 ≤ j → (j < 40 * vI h v0 42 ∨ 40 * vI h v0 42 + 40 ≤ j) → vA hz (v0 + 13) j = vA h (v0 + 13) j; intro j j0 n0; rw [g2 j j0 (zz_098ca6c8f2 n0 o1)]), (by clear ih; show ∀ j, 0 ≤ j → vA h (v0 + 4) j ≠ 98 → vA h (v0 + 4) j ≠ 116 → vA hz (v0 + 13) j = vA h (v0 + 13) j; exact g3), g4⟩
            · skip
              refine r_Mo_39 T kv0 ?_
              refine r_Mo_18 T kv0 ?_
              refine r_Mo_e13 T kv0 (zz_97728f95a5 o1 a0 o4 cc2) (zz_3bc62dc900 o1 o4 cc2 a0) ?_
              intro x6i15 ex6i15 lx6i15 ux6i15
              subst ex6i15
              have o18 := g_Mo_e13 T kv0 ((40 * (vI h v0 42)) + v1)
              refine r_Mo_e34 T kv0 (zz_656a9a7919 o18 cc16) (zz_80d2f7a82c G1 cc2 cc3 cc14) ?_
              intro x7i15 ex7i15 lx7i15 ux7i15
              subst ex7i15
              refine qk_if (fun cc19 => ?_) (fun cc19 => ?_)
              · skip
                refine r_Mo_18 T kv0 ?_
                refine r_Mo_39 T kv0 ?_
                refine r_Mo_18 T kv0 ?_
                refine r_Mo_e13 T kv0 (zz_97728f95a5 o1 a0 o4 cc2) (zz_3bc62dc900 o1 o4 cc2 a0) ?_
                intro x12i15 ex12i15 lx12i15 ux12i15
                subst ex12i15
                refine r_Mo_e34 T kv0 (zz_656a9a7919 o18 cc16) (zz_80d2f7a82c G1 cc2 cc3 cc14) ?_
                intro x13i15 ex13i15 lx13i15 ux13i15
                subst ex13i15
                refine r_Mo_42 T kv0 ?_
                intro x14i15 ex14i15 lx14i15 ux14i15
                subst ex14i15
                have o20 := g_Mo_e34 T kv0 (vA h (v0 + 13) ((40 * (vI h v0 42)) + v1))
                refine w_Mo_e13 T kv0 (wM _ (by omega) (by omega)) (zz_97728f95a5 o1 a0 o4 cc2) (zz_3bc62dc900 o1 o4 cc2 a0) (zz_4181b7335f L1 o18 cc19 G1 cc16 cc2 cc3 cc14 o1 o20) (zz_eb22e7e754 L1 o18 cc19 G1 cc16 cc2 cc3 cc14 o1 o20) ?_
                intro h15i15 Th15i15 ih15i15 ah15i15
                refine qk_bs ?_
                refine qk_mono (ih (v0) ((v1 + 1)) h15i15 Th15i15 kv0 wM (zz_75135c49c1 a0 o4 cc2) (zz_d5e412f202 o4 cc2 a0) (by clear ih; intro bb; rw [show vI h15i15 v0 42 = vI h v0 42 from (by rw [ih15i15 v0 42])]; exact q_GO_eq (G cc3) (g_Mo_42 T kv0).1 (g_Mo_42 T kv0).2 a0 (zz_a2f83bd0ea o4 cc2) (zz_2fb5db7d90 o4) (by rw [ah15i15 (v0 + 19) (vI h v0 42) lx14i15, if_neg (fun z => absurd z.1 (by omega))]) (fun j j0 => by rw [ah15i15 (v0 + 4) j j0, if_neg (fun z => absurd z.1 (by omega))]) (fun j j0 jn => by rw [ah15i15 (v0 + 13) j j0, if_neg (fun z => absurd z.2 (zz_54f9b22d4f jn o1 a0 o4 cc2))])) (by clear ih; rw [show vI h15i15 v0 42 = vI h v0 42 from (by rw [ih15i15 v0 42])]; exact q_LB_eq LB (fun j j0 => by rw [ah15i15 (v0 + 34) j j0, if_neg (fun z => absurd z.1 (by omega))])) (zz_7120950bf1 hms hq1 hq2 o4 cc2 a0)) ?_
                rintro hz ⟨Tz, g0, g1, g2, g3, g4⟩
                try dsimp only at *
                have qh42_g0 : vI h15i15 v0 42 = (vI h v0 42) := by rw [ih15i15 v0 42]
                rw [qh42_g0] at g2
                exact ⟨Tz, (by clear ih; show ∀ a k, ¬ (a = v0 ∧ (k = 5 ∨ k = 48)) → vI hz a k = vI h a k; intro a k n0; rw [g0 a k (by omega), ih15i15]), (by clear ih; show ∀ a j, 0 ≤ j → ¬ (a = v0 + 13) → vA hz a j = vA h a j; intro a j j0 n0; rw [g1 a j j0 (by omega), ah15i15 a j j0, if_neg (by omega)]), (by clear ih; show ∀ j, 0 ≤ j → (j < 40 * vI h v0 42 ∨ 40 * vI h v0 42 + 40 ≤ j) → vA hz (v0 + 13) j = vA h (v0 + 13) j; intro j j0 n0; rw [g2 j j0 (zz_098ca6c8f2 n0 o1), ah15i15 (v0 + 13) j j0, if_neg (fun z => absurd z.2 (zz_ae1479c91a a0 o4 cc2 n0 o1))]), (by clear ih; show ∀ j, 0 ≤ j → vA h (v0 + 4) j ≠ 98 → vA h (v0 + 4) j ≠ 116 → vA hz (v0 + 13) j = vA h (v0 + 13) j; intro j j0 n0 n1; rw [g3 j j0 (by rw [ah15i15 (v0 + 4) j j0, if_neg (fun z => absurd z.1 (by omega))]; exact n0) (by rw [ah15i15 (v0 + 4) j j0, if_neg (fun z => absurd z.1 (by omega))]; exact n1)]; rw [ah15i15 (v0 + 13) j j0, if_neg (fun z => n1 (by rw [z.2]; exact cc14))]), (zz_8b8768a235 cc3)⟩
              · skip
                refine r_Mo_20 T kv0 ?_
                refine r_Mo_e15 T kv0 (zz_97728f95a5 o1 a0 o4 cc2) (zz_3bc62dc900 o1 o4 cc2 a0) ?_
                intro x18i15 ex18i15
                subst ex18i15
                refine r_Mo_o T kv0 ?_
                refine c_Mod_wrong (v0 := v0) (v1 := (vA h (v0 + 15) ((40 * (vI h v0 42)) + v1))) T kv0 wM ?_
                intro r20i15 Tr20i15 gr20i15_0 gr20i15_1 gr20i15_2
                refine qk_bs ?_
                refine qk_mono (ih (v0) ((v1 + 1)) r20i15 Tr20i15 kv0 wM (zz_75135c49c1 a0 o4 cc2) (zz_d5e412f202 o4 cc2 a0) (by clear ih; intro bb; exact absurd bb (zz_f5f80cd091 gr20i15_1)) (by clear ih; rw [show vI r20i15 v0 42 = vI h v0 42 from (by rw [gr20i15_0 v0 42 (by omega)])]; exact q_LB_eq LB (fun j j0 => by rw [gr20i15_2 (v0 + 34) j])) (zz_7120950bf1 hms hq1 hq2 o4 cc2 a0)) ?_
                rintro hz ⟨Tz, g0, g1, g2, g3, g4⟩
                try dsimp only at *
                have qh42_g0 : vI r20i15 v0 42 = (vI h v0 42) := by rw [gr20i15_0 v0 42 (by omega)]
                rw [qh42_g0] at g2
                exact ⟨Tz, (by clear ih; show ∀ a k, ¬ (a = v0 ∧ (k = 5 ∨ k = 48)) → vI hz a k = vI h a k; intro a k n0; rw [g0 a k (by omega), gr20i15_0 a k (by omega)]), (by clear ih; show ∀ a j, 0 ≤ j → ¬ (a = v0 + 13) → vA hz a j = vA h a j; intro a j j0 n0; rw [g1 a j j0 (by omega), gr20i15_2 a j]), (by clear ih; show ∀ j, 0 ≤ j → (j < 40 * vI h v0 42 ∨ 40 * vI h v0 42 + 40 ≤ j) → vA hz (v0 + 13) j = vA h (v0 + 13) j; intro j j0 n0; rw [g2 j j0 (zz_098ca6c8f2 n0 o1), gr20i15_2 (v0 + 13) j]), (by clear ih; show ∀ j, 0 ≤ j → vA h (v0 + 4) j ≠ 98 → vA h (v0 + 4) j ≠ 116 → vA hz (v0 + 13) j = vA h (v0 + 13) j; intro j j0 n0 n1; rw [g3 j j0 (by rw [gr20i15_2 (v0 + 4) j]; exact n0) (by rw [gr20i15_2 (v0 + 4) j]; exact n1)]; rw [gr20i15_2 (v0 + 13) j]), (zz_8b8768a235 cc3)⟩
          · skip
            refine qk_bs ?_
            refine qk_mono (ih (v0) ((v1 + 1)) h T kv0 wM (zz_75135c49c1 a0 o4 cc2) (zz_d5e412f202 o4 cc2 a0) (by clear ih; intro bb; exact q_GO_eq (G bb) (g_Mo_42 T kv0).1 (g_Mo_42 T kv0).2 a0 (zz_a2f83bd0ea o4 cc2) (zz_2fb5db7d90 o4) rfl (fun j j0 => by rfl) (fun j j0 jn => by rfl)) (by clear ih; exact LB) (zz_7120950bf1 hms hq1 hq2 o4 cc2 a0)) ?_
            rintro hz ⟨Tz, g0, g1, g2, g3, g4⟩
            try dsimp only at *
            exact ⟨Tz, (by clear ih; show ∀ a k, ¬ (a = v0 ∧ (k = 5 ∨ k = 48)) → vI hz a k = vI h a k; intro a k n0; rw [g0 a k (by omega)]), (by clear ih; show ∀ a j, 0 ≤ j → ¬ (a = v0 + 13) → vA hz a j = vA h a j; intro a j j0 n0; rw [g1 a j j0 (by omega)]), (by clear ih; show ∀ j, 0 ≤ j → (j < 40 * vI h v0 42 ∨ 40 * vI h v0 42 + 40 ≤ j) → vA hz (v0 + 13) j = vA h (v0 + 13) j; intro j j0 n0; rw [g2 j j0 (zz_098ca6c8f2 n0 o1)]), (by clear ih; show ∀ j, 0 ≤ j → vA h (v0 + 4) j ≠ 98 → vA h (v0 + 4) j ≠ 116 → vA hz (v0 + 13) j = vA h (v0 + 13) j; exact g3), g4⟩
      · skip
        refine qk_some ?_
        exact ⟨T, (by clear ih; show ∀ a k, ¬ (a = v0 ∧ (k = 5 ∨ k = 48)) → vI h a k = vI h a k; intro a k n0; rfl), (by clear ih; show ∀ a j, 0 ≤ j → ¬ (a = v0 + 13) → vA h a j = vA h a j; intro a j j0 n0; rfl), (by clear ih; show ∀ j, 0 ≤ j → (j < 40 * vI h v0 42 ∨ 40 * vI h v0 42 + 40 ≤ j) → vA h (v0 + 13) j = vA h (v0 + 13) j; intro j j0 n0; rfl), (by clear ih; show ∀ j, 0 ≤ j → vA h (v0 + 4) j ≠ 98 → vA h (v0 + 4) j ≠ 116 → vA h (v0 + 13) j = vA h (v0 + 13) j; intro j j0 n0 n1; rfl), (zz_31e838399c)⟩
theorem p_Mod_goals_2 {L : q_L} {W : Nat → Prop} {h0 : z_H} {π : Nat → Nat → Option Nat} {N : Nat} {h : z_H} {v0 : Nat} {v1 : Int32} (T : q_U L W h0 π h) (kv0 : q_M L π v0) (wM : ∀ a, v0 ≤ a → a < v0 + 46 → W a) (a0 : 0 ≤ v1) (a1 : v1 ≤ 40) (G : vI h v0 48 = 0 → q_GO h v0 (vI h v0 42) v1) (LB : q_LB h v0 (vI h v0 42)) (hN : 100000 ≤ N) : qk (f_Mod_goals_2 N  N v0 v1 h) (fun r => q_U L W h0 π r ∧ (∀ a k, ¬ (a = v0 ∧ (k = 5 ∨ k = 48)) → vI r a k = vI h a k) ∧ (∀ a j, 0 ≤ j → ¬ (a = v0 + 13) → vA r a j = vA h a j) ∧ (∀ j, 0 ≤ j → (j < 40 * vI h v0 42 ∨ 40 * vI h v0 42 + 40 ≤ j) → vA r (v0 + 13) j = vA h (v0 + 13) j) ∧ (∀ j, 0 ≤ j → vA h (v0 + 4) j ≠ 98 → vA h (v0 + 4) j ≠ 116 → vA r (v0 + 13) j = vA h (v0 + 13) j) ∧ (vI r v0 48 = 0 → vI h v0 48 = 0)) := by
  have hq := q_qnN hN
  refine p_Mod_goals_2_n (q_lo (M := 41) (by decide) (by decide)) N v0 v1 h T kv0 wM a0 a1 G LB ?_ 
  show 41 - q_n N ≤ _
  rw [hq]
  lia
