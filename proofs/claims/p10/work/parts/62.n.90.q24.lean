/-! contents: a script of the reference -/
def r_SC (h : z_H) (v0 : Nat) (t : Int32 → Int32) (n : Int32) (B : x_SS) : Prop := (vI h v0 41 = xSa B ∧ vI h v0 43 = xSd B ∧ vA h (v0 + 19) (vI h v0 42) = xSz B) ∧ (0 ≤ xSd B ∧ xSd B ≤ 4 ∧ 0 ≤ xSz B ∧ xSz B ≤ 40) ∧ (∀ k, 0 ≤ k → k < xSz B → r_CMD h v0 (40 * vI h v0 42 + k) t n (xSp B k) ∧ r_BL h v0 (40 * vI h v0 42 + k) t n (x_pq t n (xSp B k))) ∧ (∀ d, 0 ≤ d → d < xSd B → (vA h (v0 + 35) d = 40 * vI h v0 42 + xSo B d ∧ x_lk t n (x_pq t n (xSp B (xSo B d))) = 123) ∧ 0 ≤ xSo B d ∧ xSo B d < xSz B) ∧ (∀ k, 0 ≤ k → k < xSz B → x_lk t n (x_pq t n (xSp B k)) = 123 → vA h (v0 + 13) (40 * vI h v0 42 + k) = xSg B k ∨ ∃ d, 0 ≤ d ∧ d < xSd B ∧ xSo B d = k) ∧ (∀ j, 0 ≤ j → j < 26 → (vA h (v0 + 34) j = -1 ∧ xSl B j = -1) ∨ (vA h (v0 + 34) j = 40 * vI h v0 42 + (xSl B j - 1) ∧ 1 ≤ xSl B j ∧ xSl B j ≤ 40))
/-- what lies in the other half than g stays -/
def r_OH (h h' : z_H) (v0 : Nat) (g : Int32) : Prop := (∀ a, (v0 + 4 ≤ a ∧ a ≤ v0 + 18 ∧ a ≠ v0 + 15) → ∀ j, 0 ≤ j → j < 40 * g ∨ 40 * g + 40 ≤ j → vA h' a j = vA h a j) ∧ (∀ j, 0 ≤ j → ¬ j = g → vA h' (v0 + 19) j = vA h (v0 + 19) j) ∧ (∀ j, 0 ≤ j → j < 130 * g ∨ 130 * g + 130 ≤ j → vA h' (v0 + 23) j = vA h (v0 + 23) j ∧ vA h' (v0 + 24) j = vA h (v0 + 24) j ∧ vA h' (v0 + 30) j = vA h (v0 + 30) j ∧ vA h' (v0 + 31) j = vA h (v0 + 31) j ∧ vA h' (v0 + 25) j = vA h (v0 + 25) j) ∧ r_FB h h' v0 (260 * g) (260 * g + 260) ∧ r_SK h h' v0 (300 * g) (300 * g + 300)
/-- what lies in the half f is the same -/
def r_AG (h h' : z_H) (v0 : Nat) (f : Int32) : Prop := (∀ a, (v0 + 4 ≤ a ∧ a ≤ v0 + 18 ∧ a ≠ v0 + 13 ∧ a ≠ v0 + 15) → ∀ j, 40 * f ≤ j → j < 40 * f + 40 → vA h' a j = vA h a j) ∧ (∀ j, 130 * f ≤ j → j < 130 * f + 130 → vA h' (v0 + 23) j = vA h (v0 + 23) j ∧ vA h' (v0 + 24) j = vA h (v0 + 24) j ∧ vA h' (v0 + 30) j = vA h (v0 + 30) j ∧ vA h' (v0 + 31) j = vA h (v0 + 31) j ∧ vA h' (v0 + 25) j = vA h (v0 + 25) j) ∧ (∀ j, 260 * f ≤ j → j < 260 * f + 260 → vA h' (v0 + 26) j = vA h (v0 + 26) j ∧ vA h' (v0 + 27) j = vA h (v0 + 27) j ∧ vA h' (v0 + 29) j = vA h (v0 + 29) j ∧ vL h' (v0 + 32) j = vL h (v0 + 32) j ∧ vL h' (v0 + 33) j = vL h (v0 + 33) j) ∧ (∀ j, 300 * f ≤ j → j < 300 * f + 300 → vA h' (v0 + 28) j = vA h (v0 + 28) j)
def x_lb (t : Int32 → Int32) (n p : Int32) : Int32 := if 97 ≤ x_lk t n (p + 1) ∧ x_lk t n (p + 1) ≤ 122 then x_lk t n (p + 1) - 97 else -1
/-- goals are joined, from the command v on -/
def r_GN (h h' : z_H) (v0 : Nat) (v : Int32) : Prop := ∀ k, 0 ≤ k → k < vA h (v0 + 19) (vI h v0 42) → (v ≤ k → vA h (v0 + 4) (40 * vI h v0 42 + k) = 98 ∨ vA h (v0 + 4) (40 * vI h v0 42 + k) = 116 → (vA h (v0 + 13) (40 * vI h v0 42 + k) = -1 ∧ vA h' (v0 + 13) (40 * vI h v0 42 + k) = -1) ∨ (¬ vA h (v0 + 13) (40 * vI h v0 42 + k) = -1 ∧ 0 ≤ vA h (v0 + 34) (vA h (v0 + 13) (40 * vI h v0 42 + k)) ∧ vA h' (v0 + 13) (40 * vI h v0 42 + k) = vA h (v0 + 34) (vA h (v0 + 13) (40 * vI h v0 42 + k)) - 40 * vI h v0 42 + 1)) ∧ (¬ (v ≤ k ∧ (vA h (v0 + 4) (40 * vI h v0 42 + k) = 98 ∨ vA h (v0 + 4) (40 * vI h v0 42 + k) = 116)) → vA h' (v0 + 13) (40 * vI h v0 42 + k) = vA h (v0 + 13) (40 * vI h v0 42 + k))
/-- a script that is read: the heap h0 at its end, and what has become of it -/
def r_PRG (h : z_H) (v0 : Nat) (f : Int32) (t : Int32 → Int32) (n : Int32) (B : x_SS) : Prop := (vA h (v0 + 19) f = xSz B ∧ 0 ≤ xSz B ∧ xSz B ≤ 40) ∧ (f = 0 ∨ f = 1) ∧ (∀ k, 0 ≤ k → k < xSz B → (x_lk t n (x_pq t n (xSp B k)) = 98 ∨ x_lk t n (x_pq t n (xSp B k)) = 116 → vA h (v0 + 13) (40 * f + k) = if x_lb t n (x_pq t n (xSp B k)) = -1 then -1 else xSl B (x_lb t n (x_pq t n (xSp B k)))) ∧ (x_lk t n (x_pq t n (xSp B k)) = 98 ∨ x_lk t n (x_pq t n (xSp B k)) = 116 → ¬ x_lb t n (x_pq t n (xSp B k)) = -1 → 1 ≤ xSl B (x_lb t n (x_pq t n (xSp B k)))) ∧ (x_lk t n (x_pq t n (xSp B k)) = 123 → vA h (v0 + 13) (40 * f + k) = xSg B k)) ∧ ∃ h0, vI h0 v0 42 = f ∧ r_AG h0 h v0 f ∧ (r_IX h0 v0 ≤ 260 * f + 260 ∧ r_QT h0 v0 ≤ 130 * f + 130 ∧ r_SE h0 v0 ≤ 300 * f + 300) ∧ ∀ k, 0 ≤ k → k < xSz B → r_CMD h0 v0 (40 * f + k) t n (xSp B k)
section Q24
variable {h h' h2 : z_H} {v0 : Nat} {t : Int32 → Int32} {n f g v : Int32} {B : x_SS}
theorem x_act2 {a ad b k v : Int32} (e : x_act t n a ad = some (b, k, v)) : (k = 2 ↔ x_lk t n a = 58) ∧ (k = 2 → v = x_lk t n (a + 1) - 97) := by
  unfold x_act x_fin at e
  dsimp only at e
  by_cases c0 : x_lk t n a = 123
  · rw [if_pos c0] at e
    cases e
    exact ⟨⟨fun z => absurd z (by decide), fun z => absurd (c0.symm.trans z) (by decide)⟩, fun z => absurd z (by decide)⟩
  · rw [if_neg c0] at e
    by_cases c : x_lk t n a = 58
    · rw [if_pos c] at e
      split at e
      · cases e
      · split at e
        · split at e
          · cases e
            exact ⟨⟨fun _ => c, fun _ => rfl⟩, fun _ => rfl⟩
          · cases e
        · cases e
    · rw [if_neg c] at e
      have w : ¬ k = 2 := by
        intro z
        subst z
        repeat' split at e
        all_goals simp at e
      exact ⟨⟨fun z => absurd z w, fun z => absurd z c⟩, fun z => absurd z w⟩
theorem r_CMD_a {q a : Int32} (P : r_CMD h v0 q t n a) (hf : vI h v0 42 = 0 ∨ vI h v0 42 = 1) (e : ∀ a, ¬ a = v0 + 13 → vA h' a = vA h a) (l : ∀ a, vL h' a = vL h a) (e42 : vI h' v0 42 = vI h v0 42) : r_CMD h' v0 q t n a :=
  r_CMD_f (hi := 0) P hf (fun a ha => by rw [e a (by omega)]) (r_KP_a (fun a _ _ z => e a (by omega)) (l _) (l _) e42) (r_GW_a (e _ (by omega)) (e _ (by omega)) e42) (r_SK_a (e _ (by omega))) (Int32.le_of_eq (by unfold r_SE; rw [e42, e _ (by omega)]))
theorem r_SC_bl (S : r_SC h v0 t n B) (hf : vI h v0 42 = 0 ∨ vI h v0 42 = 1) (e41 : vI h' v0 41 = vI h v0 41 + 1) (e43 : vI h' v0 43 = vI h v0 43) (e42 : vI h' v0 42 = vI h v0 42) (a1 : ∀ a, vA h' a = vA h a) (l1 : ∀ a, vL h' a = vL h a) : r_SC h' v0 t n (x_sbl B) := by
  obtain ⟨⟨b1, b2, b3⟩, r, c, o, g, l⟩ := S
  refine ⟨⟨by rw [e41, b1]; rfl, by rw [e43]; exact b2, by rw [a1, e42]; exact b3⟩, r, fun k k0 k1 => ?_, fun d d0 d1 => by rw [a1, e42]; exact o d d0 d1, fun k k0 k1 z => by rw [a1, e42]; exact g k k0 k1 z, fun j j0 j1 => by rw [a1, e42]; exact l j j0 j1⟩
  obtain ⟨c1, c2⟩ := c k k0 k1
  rw [e42]
  exact ⟨r_CMD_a c1 hf (fun a _ => a1 a) l1 e42, fun z => by rw [a1]; exact c2 z⟩
theorem r_SC_cl (S : r_SC h v0 t n B) (hf : vI h v0 42 = 0 ∨ vI h v0 42 = 1) (dz : ¬ vI h v0 43 = 0) (e41 : vI h' v0 41 = vI h v0 41 + 1) (e43 : vI h' v0 43 = vI h v0 43 - 1) (e42 : vI h' v0 42 = vI h v0 42) (a13 : ∀ j, 0 ≤ j → vA h' (v0 + 13) j = if j = vA h (v0 + 35) (vI h v0 43 - 1) then vA h (v0 + 19) (vI h v0 42) else vA h (v0 + 13) j) (a1 : ∀ a, ¬ a = v0 + 13 → vA h' a = vA h a) (l1 : ∀ a, vL h' a = vL h a) : r_SC h' v0 t n (x_scl B) := by
  obtain ⟨⟨b1, b2, b3⟩, ⟨r1, r2, r3, r4⟩, c, o, g, l⟩ := S
  rw [b2] at dz e43 a13
  rw [b3] at a13
  have d1 : 0 ≤ xSd B - 1 ∧ xSd B - 1 < xSd B ∧ xSd B - 1 ≤ 4 := by refine ⟨?_, ?_, ?_⟩ <;> lia
  obtain ⟨⟨o1, o4⟩, o2, o3⟩ := o (xSd B - 1) d1.1 d1.2.1
  rw [o1] at a13
  have ix : ∀ k : Int32, 0 ≤ k → k < xSz B → 0 ≤ 40 * vI h v0 42 + k ∧ (40 * vI h v0 42 + k = 40 * vI h v0 42 + xSo B (xSd B - 1) ↔ k = xSo B (xSd B - 1)) := by
    intro k k0 k1
    refine ⟨?_, ?_, ?_⟩
    · rcases hf with e | e <;> rw [e] <;> lia
    · intro z; rcases hf with e | e <;> rw [e] at z <;> lia
    · intro z; rw [z]
  refine ⟨⟨by rw [e41, b1]; rfl, e43, by rw [a1 _ (by omega), e42]; exact b3⟩, ⟨d1.1, d1.2.2, r3, r4⟩, fun k k0 k1 => ?_, fun d d0 dd => ?_, fun k k0 k1 z => ?_, fun j j0 j1 => by rw [a1 _ (by omega), e42]; exact l j j0 j1⟩
  · obtain ⟨c1, c2⟩ := c k k0 k1
    rw [e42]
    refine ⟨r_CMD_a c1 hf a1 l1 e42, fun z => ?_⟩
    have z' : x_lk t n (x_pq t n (xSp B k)) = 98 ∨ x_lk t n (x_pq t n (xSp B k)) = 116 := z
    rw [a13 _ (ix k k0 k1).1, if_neg]
    · exact c2 z'
    · intro y
      have y' := (ix k k0 k1).2.mp y
      rw [y', o4] at z'
      exact absurd z' (by decide)
  · rw [a1 _ (by omega), e42]; exact o d d0 (Int32.lt_trans dd d1.2.1)
  · show vA h' (v0 + 13) (40 * vI h' v0 42 + k) = x_up (xSg B) (xSo B (xSd B - 1)) (xSz B) k ∨ ∃ d, 0 ≤ d ∧ d < xSd B - 1 ∧ xSo B d = k
    rw [e42, a13 _ (ix k k0 k1).1]
    by_cases y : k = xSo B (xSd B - 1)
    · left
      rw [if_pos ((ix k k0 k1).2.mpr y), y, x_up_s]
    · rw [x_up_n y, if_neg (fun w => y ((ix k k0 k1).2.mp w))]
      rcases g k k0 k1 z with e | ⟨d, d0, d2, d3⟩
      · exact Or.inl e
      · refine Or.inr ⟨d, d0, ?_, d3⟩
        have : ¬ d = xSd B - 1 := fun w => y (by rw [← d3, w])
        lia
theorem r_SC_cm {kd lb hi : Int32} {r : Int32 × Int32} (S : r_SC h v0 t n B) (hf : vI h v0 42 = 0 ∨ vI h v0 42 = 1) (n40 : ¬ vA h (v0 + 19) (vI h v0 42) = 40) (E1 : x_adrs t n (vI h v0 41) = some r) (A1 : x_A1 x_abr (x_act t n (x_neg t n r.1).1 (if r.2 = 1 ∨ (x_neg t n r.1).2 = 1 then 1 else 0)) (vI h' v0 41) (vI h v0 43) (vI h' v0 43) (40 * vI h v0 42 + vA h (v0 + 19) (vI h v0 42)) (vA h (v0 + 34)) (vA h' (v0 + 34)) kd lb) (q3 : vA h' (v0 + 19) (vI h v0 42) = vA h (v0 + 19) (vI h v0 42) + 1) (K : r_KP h h' v0) (G : r_GW h h' v0) (SK : r_SK h h' v0 (300 * vI h v0 42 + vA h (v0 + 22) (vI h v0 42)) hi) (cl : (0 ≤ vA h (v0 + 22) (vI h v0 42) ∧ vA h (v0 + 22) (vI h v0 42) ≤ vI h v0 41) ∧ (vI h v0 42 = 0 ∨ vI h v0 42 = 1)) (n1 : n ≤ 240) (cl2 : ((0 ≤ vA h' (v0 + 22) (vI h v0 42) ∧ vA h' (v0 + 22) (vI h v0 42) ≤ vI h' v0 41) ∧ (vI h v0 42 = 0 ∨ vI h v0 42 = 1)) ∧ vI h' v0 41 ≤ n) (cg : vA h (v0 + 22) (vI h v0 42) ≤ vA h' (v0 + 22) (vI h v0 42)) (CE : r_CE h h' v0 (40 * vI h v0 42 + vA h (v0 + 19) (vI h v0 42))) (E13 : ∀ j, 0 ≤ j → ¬ j = 40 * vI h v0 42 + vA h (v0 + 19) (vI h v0 42) → vA h' (v0 + 13) j = vA h (v0 + 13) j) (C : r_CMD h' v0 (40 * vI h v0 42 + vA h (v0 + 19) (vI h v0 42)) t n (vI h v0 41)) (BL : r_BL h' v0 (40 * vI h v0 42 + vA h (v0 + 19) (vI h v0 42)) t n (x_pq t n (vI h v0 41))) (O1 : ∀ i, 0 ≤ i → i < vI h v0 43 → vA h' (v0 + 35) i = vA h (v0 + 35) i) (O2 : vI h' v0 43 = vI h v0 43 ∨ (vI h' v0 43 = vI h v0 43 + 1 ∧ vA h' (v0 + 35) (vI h v0 43) = 40 * vI h v0 42 + vA h (v0 + 19) (vI h v0 42) ∧ vA h' (v0 + 4) (40 * vI h v0 42 + vA h (v0 + 19) (vI h v0 42)) = 123)) : r_SC h' v0 t n (x_scm t n B) := by
  obtain ⟨⟨b1, b2, b3⟩, ⟨r1, r2, r3, r4⟩, c, o, g, l⟩ := S
  have e42 := K.2.2
  rw [b1] at E1 C BL
  obtain ⟨pq, pv⟩ := x_pq_e E1
  have h5 : vA h' (v0 + 22) (vI h v0 42) ≤ 240 := Int32.le_trans (Int32.le_trans cl2.1.1.2 cl2.2) n1
  obtain ⟨k, v, ea, A⟩ := A1
  have pe := x_pe_e E1 ea
  rw [b3] at n40 A q3 CE E13 C BL O2
  rw [b2] at A O1 O2
  rw [← pq] at ea
  have a2 := x_act2 ea
  have SKe : r_SK h h' v0 (r_SE h v0) hi := SK
  have SEl : r_SE h v0 ≤ r_SE h' v0 := by
    unfold r_SE
    rw [e42]
    obtain ⟨⟨x0, x1⟩, -⟩ := cl
    rcases hf with e | e <;> rw [e] at x0 cg h5 ⊢ <;> lia
  have ix : ∀ k : Int32, 0 ≤ k → k ≤ xSz B → 0 ≤ 40 * vI h v0 42 + k ∧ (40 * vI h v0 42 + k = 40 * vI h v0 42 + xSz B → k = xSz B) := by
    intro k k0 k1
    refine ⟨?_, ?_⟩
    · rcases hf with e | e <;> rw [e] <;> lia
    · intro z; rcases hf with e | e <;> rw [e] at z <;> lia
  have dep : vI h' v0 43 = (if x_lk t n (x_pq t n (xSa B)) = 123 then xSd B + 1 else xSd B) ∧ (x_lk t n (x_pq t n (xSa B)) = 123 → ¬ xSd B = 4) := by
    have kk : k = 1 ↔ x_lk t n (x_pq t n (xSa B)) = 123 := x_act1 ea
    rcases A with ⟨e, n4, e2, -⟩ | ⟨e, e2, -⟩ | ⟨e, e2, -⟩ | ⟨e, e2, -⟩
    · rw [if_pos (kk.mp e)]; exact ⟨e2, fun _ => n4⟩
    all_goals
      have ne : ¬ x_lk t n (x_pq t n (xSa B)) = 123 := fun z => absurd (e.symm.trans (kk.mpr z)) (by decide)
      rw [if_neg ne]; exact ⟨e2, fun z => absurd z ne⟩
  have z40 : xSz B < 40 := by lia
  refine ⟨⟨pe.symm, dep.1, by rw [e42]; exact q3⟩, ⟨?_, ?_, ?_, ?_⟩, fun j j0 j1 => ?_, fun d d0 dd => ?_, fun j j0 j1 z => ?_, fun j j0 j1 => ?_⟩
  · show 0 ≤ (if x_lk t n (x_pq t n (xSa B)) = 123 then xSd B + 1 else xSd B)
    split
    · lia
    · exact r1
  · show (if x_lk t n (x_pq t n (xSa B)) = 123 then xSd B + 1 else xSd B) ≤ 4
    split
    · next z => have := dep.2 z; lia
    · exact r2
  · show 0 ≤ xSz B + 1
    lia
  · show xSz B + 1 ≤ 40
    lia
  · show r_CMD h' v0 (40 * vI h' v0 42 + j) t n (x_up (xSp B) (xSz B) (xSa B) j) ∧ r_BL h' v0 (40 * vI h' v0 42 + j) t n (x_pq t n (x_up (xSp B) (xSz B) (xSa B) j))
    rw [e42]
    by_cases y : j = xSz B
    · rw [y, x_up_s]; exact ⟨C, BL⟩
    · have j2 : j < xSz B := by
        have j1' : j < xSz B + 1 := j1
        lia
      rw [x_up_n y]
      obtain ⟨c1, c2⟩ := c j j0 j2
      have nx := fun w => y ((ix j j0 (Int32.le_of_lt j2)).2 w)
      refine ⟨r_CMD_f c1 hf (fun a ha => CE a ha _ (ix j j0 (Int32.le_of_lt j2)).1 nx) K G SKe SEl, fun w => ?_⟩
      rw [E13 _ (ix j j0 (Int32.le_of_lt j2)).1 nx]
      exact c2 w
  · have dd' : d < (if x_lk t n (x_pq t n (xSa B)) = 123 then xSd B + 1 else xSd B) := dd
    show (vA h' (v0 + 35) d = 40 * vI h' v0 42 + (if x_lk t n (x_pq t n (xSa B)) = 123 then x_up (xSo B) (xSd B) (xSz B) else xSo B) d ∧ x_lk t n (x_pq t n (x_up (xSp B) (xSz B) (xSa B) ((if x_lk t n (x_pq t n (xSa B)) = 123 then x_up (xSo B) (xSd B) (xSz B) else xSo B) d))) = 123) ∧ 0 ≤ (if x_lk t n (x_pq t n (xSa B)) = 123 then x_up (xSo B) (xSd B) (xSz B) else xSo B) d ∧ (if x_lk t n (x_pq t n (xSa B)) = 123 then x_up (xSo B) (xSd B) (xSz B) else xSo B) d < xSz B + 1
    rw [e42]
    have old : d < xSd B → (vA h' (v0 + 35) d = 40 * vI h v0 42 + xSo B d ∧ x_lk t n (x_pq t n (x_up (xSp B) (xSz B) (xSa B) (xSo B d))) = 123) ∧ 0 ≤ xSo B d ∧ xSo B d < xSz B + 1 := by
      intro dl
      obtain ⟨⟨w1, w4⟩, w2, w3⟩ := o d d0 dl
      rw [O1 d d0 dl, x_up_n (fun q => absurd (q ▸ w3) Int32.lt_irrefl)]
      exact ⟨⟨w1, w4⟩, w2, by lia⟩
    by_cases z : x_lk t n (x_pq t n (xSa B)) = 123
    · rw [if_pos z] at dd' ⊢
      have d43 := dep.1
      rw [if_pos z] at d43
      by_cases y : d = xSd B
      · rw [y, x_up_s, x_up_s]
        rcases O2 with q | ⟨-, q, -⟩
        · exfalso
          rw [d43] at q
          lia
        · exact ⟨⟨q, z⟩, r3, by lia⟩
      · rw [x_up_n y]
        exact old (by lia)
    · rw [if_neg z] at dd' ⊢
      exact old dd'
  · show vA h' (v0 + 13) (40 * vI h' v0 42 + j) = xSg B j ∨ ∃ d, 0 ≤ d ∧ d < (if x_lk t n (x_pq t n (xSa B)) = 123 then xSd B + 1 else xSd B) ∧ (if x_lk t n (x_pq t n (xSa B)) = 123 then x_up (xSo B) (xSd B) (xSz B) else xSo B) d = j
    have z' : x_lk t n (x_pq t n (x_up (xSp B) (xSz B) (xSa B) j)) = 123 := z
    rw [e42]
    by_cases y : j = xSz B
    · rw [y, x_up_s] at z'
      refine Or.inr ⟨xSd B, r1, ?_, ?_⟩
      · rw [if_pos z']; lia
      · rw [if_pos z', x_up_s, y]
    · rw [x_up_n y] at z'
      have j2 : j < xSz B := by
        have j1' : j < xSz B + 1 := j1
        lia
      rw [E13 _ (ix j j0 (Int32.le_of_lt j2)).1 (fun w => y ((ix j j0 (Int32.le_of_lt j2)).2 w))]
      rcases g j j0 j2 z' with e | ⟨d, d0, d2, d3⟩
      · exact Or.inl e
      · refine Or.inr ⟨d, d0, ?_, ?_⟩
        · split
          · lia
          · exact d2
        · split
          · rw [x_up_n (fun w => absurd (w ▸ d2) Int32.lt_irrefl)]; exact d3
          · exact d3
  · show (vA h' (v0 + 34) j = -1 ∧ (if x_lk t n (x_pq t n (xSa B)) = 58 then x_up (xSl B) (x_lk t n (x_pq t n (xSa B) + 1) - 97) (xSz B + 1) else xSl B) j = -1) ∨ (vA h' (v0 + 34) j = 40 * vI h' v0 42 + ((if x_lk t n (x_pq t n (xSa B)) = 58 then x_up (xSl B) (x_lk t n (x_pq t n (xSa B) + 1) - 97) (xSz B + 1) else xSl B) j - 1) ∧ 1 ≤ (if x_lk t n (x_pq t n (xSa B)) = 58 then x_up (xSl B) (x_lk t n (x_pq t n (xSa B) + 1) - 97) (xSz B + 1) else xSl B) j ∧ (if x_lk t n (x_pq t n (xSa B)) = 58 then x_up (xSl B) (x_lk t n (x_pq t n (xSa B) + 1) - 97) (xSz B + 1) else xSl B) j ≤ 40)
    rw [e42]
    have same : vA h' (v0 + 34) = vA h (v0 + 34) → ¬ k = 2 → (vA h' (v0 + 34) j = -1 ∧ (if x_lk t n (x_pq t n (xSa B)) = 58 then x_up (xSl B) (x_lk t n (x_pq t n (xSa B) + 1) - 97) (xSz B + 1) else xSl B) j = -1) ∨ (vA h' (v0 + 34) j = 40 * vI h v0 42 + ((if x_lk t n (x_pq t n (xSa B)) = 58 then x_up (xSl B) (x_lk t n (x_pq t n (xSa B) + 1) - 97) (xSz B + 1) else xSl B) j - 1) ∧ 1 ≤ (if x_lk t n (x_pq t n (xSa B)) = 58 then x_up (xSl B) (x_lk t n (x_pq t n (xSa B) + 1) - 97) (xSz B + 1) else xSl B) j ∧ (if x_lk t n (x_pq t n (xSa B)) = 58 then x_up (xSl B) (x_lk t n (x_pq t n (xSa B) + 1) - 97) (xSz B + 1) else xSl B) j ≤ 40) := by
      intro e34 nk
      rw [e34, if_neg (fun z => nk (a2.1.mpr z))]
      exact l j j0 j1
    rcases A with ⟨e, -, -, e34, -⟩ | ⟨e, -, -, -, e34, -⟩ | ⟨e, -, e34, -⟩ | ⟨e, -, e34, -⟩
    · exact same e34 (by rw [e]; decide)
    · rw [if_pos (a2.1.mp e), e34 j j0, a2.2 e]
      by_cases y : j = x_lk t n (x_pq t n (xSa B) + 1) - 97
      · rw [if_pos y, y, x_up_s]
        refine Or.inr ⟨?_, ?_, ?_⟩
        · rw [show xSz B + 1 - 1 = xSz B by lia]
        · lia
        · lia
      · rw [if_neg y, x_up_n y]
        exact l j j0 j1
    · exact same e34 (by rw [e]; decide)
    · exact same e34 (by rw [e]; decide)
theorem r_SC0 (q1 : vI h v0 41 = 0) (q2 : vI h v0 43 = 0) (q3 : vA h (v0 + 19) (vI h v0 42) = 0) (lb : ∀ j, 0 ≤ j → j < 26 → vA h (v0 + 34) j = -1) : r_SC h v0 t n x_S00 :=
  ⟨⟨q1, q2, q3⟩, ⟨(show (0 : Int32) ≤ 0 by decide), (show (0 : Int32) ≤ 4 by decide), (show (0 : Int32) ≤ 0 by decide), (show (0 : Int32) ≤ 40 by decide)⟩, fun k k0 k1 => absurd (Int32.lt_of_le_of_lt k0 k1) (show ¬ (0 : Int32) < 0 by decide), fun k k0 k1 => absurd (Int32.lt_of_le_of_lt k0 k1) (show ¬ (0 : Int32) < 0 by decide), fun k k0 k1 => absurd (Int32.lt_of_le_of_lt k0 k1) (show ¬ (0 : Int32) < 0 by decide), fun j j0 j1 => Or.inl ⟨lb j j0 j1, rfl⟩⟩
end Q24
