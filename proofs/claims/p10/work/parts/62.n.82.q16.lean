/-! contents: a replacement of the reference, and flags -/
def x_R0 (p : Int32) : x_R3 := (p, 0, fun _ => 0)
def r_SE (h : z_H) (v0 : Nat) : Int32 := 300 * vI h v0 42 + vA h (v0 + 22) (vI h v0 42)
def r_RC (h : z_H) (v0 : Nat) (b : Int32) (s : x_R3) : Prop := (0 ≤ s.2.1 ∧ s.2.1 ≤ 240) ∧ ∀ j, 0 ≤ j → j < s.2.1 → vA h (v0 + 28) (b + j) = s.2.2 j
def r_RA (h : z_H) (v0 : Nat) (b : Int32) (s : x_R3) : Prop := (vI h v0 41 = s.1 ∧ 300 * vI h v0 42 + vA h (v0 + 22) (vI h v0 42) = b + s.2.1) ∧ (300 * vI h v0 42 ≤ b ∧ b ≤ 600) ∧ r_RC h v0 b s
section Q16
variable {h h' h2 : z_H} {v0 : Nat} {t : Int32 → Int32} {n b c k m a f : Int32} {s : x_R3}
theorem x_rst1 : (x_rst t n s).2.1 = s.2.1 + 1 := by
  unfold x_rst
  split <;> rfl
theorem x_rcb_d (h : 49 ≤ b ∧ b ≤ 51) : 200 + b - 48 = x_rcb b := by
  rw [x_rcb, if_pos h]
  simp only [Int32.sub_eq_add_neg, Int32.add_assoc]
theorem x_rz : c + (m - (x_R0 a).2.1) = c + m := by
  show c + (m - 0) = c + m
  rw [Int32.sub_zero]
theorem r_cb3 {c f a n : Int32} (cb : ((0 ≤ c ∧ c ≤ a) ∧ (f = 0 ∨ f = 1)) ∧ a ≤ n) (n1 : n ≤ 240) (h0 : a < n) (h : a + 1 < n) : ((0 ≤ c + 1 ∧ c + 1 ≤ a + 2) ∧ (f = 0 ∨ f = 1)) ∧ a + 2 ≤ n := by
  obtain ⟨⟨⟨c0, c1⟩, hf⟩, c2⟩ := cb
  exact ⟨⟨⟨by lia, by lia⟩, hf⟩, by lia⟩
theorem r_cb4 {c f a b n : Int32} (cb : ((0 ≤ c ∧ c ≤ a) ∧ (f = 0 ∨ f = 1)) ∧ a ≤ n) (l : a ≤ b) (l2 : b ≤ n) : ((0 ≤ c ∧ c ≤ b) ∧ (f = 0 ∨ f = 1)) ∧ b ≤ n := ⟨⟨⟨cb.1.1.1, Int32.le_trans cb.1.1.2 l⟩, cb.1.2⟩, l2⟩
theorem r_RC_a (R : r_RC h v0 b s) (e : vA h' (v0 + 28) = vA h (v0 + 28)) : r_RC h' v0 b s := ⟨R.1, fun j j0 j1 => by rw [e]; exact R.2 j j0 j1⟩
theorem r_RC_k {lo hi : Int32} (R : r_RC h v0 b s) (b0 : 0 ≤ b) (b1 : b ≤ 600) (K : r_SK h h' v0 lo hi) (le : b + s.2.1 ≤ lo) : r_RC h' v0 b s := by
  obtain ⟨⟨r0, r1⟩, r⟩ := R
  refine ⟨⟨r0, r1⟩, fun j j0 j1 => ?_⟩
  rw [K (b + j) (by lia) (Or.inl (by lia))]
  exact r j j0 j1
theorem x_bj {b j : Int32} (b0 : 0 ≤ b) (b1 : b ≤ 600) (j0 : 0 ≤ j) (j1 : j ≤ 1000) : 0 ≤ b + j := by lia
theorem x_bjn {b j m : Int32} (q : ¬ j = m) : ¬ b + j = b + m := fun z => q (by grind)
theorem x_ltm {j m : Int32} (m0 : 0 ≤ m) (m1 : m + 1 ≤ 240) (h : j < m + 1) (q : ¬ j = m) : j < m := by lia
theorem r_RA_st {p : Int32} (R : r_RA h v0 b s) (cb : ((0 ≤ vA h (v0 + 22) (vI h v0 42) ∧ vA h (v0 + 22) (vI h v0 42) ≤ vI h v0 41) ∧ (vI h v0 42 = 0 ∨ vI h v0 42 = 1)) ∧ vI h v0 41 ≤ n) (n1 : n ≤ 240) (h1 : vI h v0 41 < n) (e41 : vI h' v0 41 = p) (e42 : vI h' v0 42 = vI h v0 42) (e22 : vA h' (v0 + 22) (vI h v0 42) = vA h (v0 + 22) (vI h v0 42) + 1) (e28 : ∀ j, 0 ≤ j → vA h' (v0 + 28) j = if j = 300 * vI h v0 42 + vA h (v0 + 22) (vI h v0 42) then k else vA h (v0 + 28) j) : r_RA h' v0 b (p, s.2.1 + 1, x_up s.2.2 s.2.1 k) := by
  obtain ⟨⟨r1, r2⟩, ⟨r3, r4⟩, ⟨r5, r6⟩, r7⟩ := R
  obtain ⟨⟨⟨c0, c1⟩, hf⟩, c2⟩ := cb
  have b0 : 0 ≤ b := by rcases hf with e | e <;> rw [e] at r3 <;> lia
  have m1 : s.2.1 + 1 ≤ 240 := by rcases hf with e | e <;> rw [e] at r3 r2 c1 <;> lia
  refine ⟨⟨e41, ?_⟩, ⟨by rw [e42]; exact r3, r4⟩, ⟨?_, m1⟩, fun j j0 j1 => ?_⟩
  · show 300 * vI h' v0 42 + vA h' (v0 + 22) (vI h' v0 42) = b + (s.2.1 + 1)
    rw [e42, e22, ← Int32.add_assoc, r2, Int32.add_assoc]
  · show 0 ≤ s.2.1 + 1
    lia
  · show vA h' (v0 + 28) (b + j) = x_up s.2.2 s.2.1 k j
    have j1' : j < s.2.1 + 1 := j1
    have j2 : j ≤ 1000 := Int32.le_trans (Int32.le_of_lt (Int32.lt_of_lt_of_le j1' m1)) (by decide)
    rw [e28 _ (x_bj b0 r4 j0 j2), r2]
    by_cases q : j = s.2.1
    · rw [q, if_pos rfl, x_up_s]
    · rw [if_neg (x_bjn q), x_up_n q]
      exact r7 j j0 (x_ltm r5 m1 j1' q)
theorem r_RA_92 (R : r_RA h v0 b s) (cb : ((0 ≤ vA h (v0 + 22) (vI h v0 42) ∧ vA h (v0 + 22) (vI h v0 42) ≤ vI h v0 41) ∧ (vI h v0 42 = 0 ∨ vI h v0 42 = 1)) ∧ vI h v0 41 ≤ n) (n1 : n ≤ 240) (q : x_lk t n (vI h v0 41) = 92) (e41 : vI h' v0 41 = vI h v0 41 + 2) (e42 : vI h' v0 42 = vI h v0 42) (e22 : vA h' (v0 + 22) (vI h v0 42) = vA h (v0 + 22) (vI h v0 42) + 1) (ec : k = x_rcb (x_lk t n (vI h v0 41 + 1))) (e28 : ∀ j, 0 ≤ j → vA h' (v0 + 28) j = if j = 300 * vI h v0 42 + vA h (v0 + 22) (vI h v0 42) then k else vA h (v0 + 28) j) : r_RA h' v0 b (x_rst t n s) := by
  have e := R.1.1
  have z := r_RA_st R cb n1 (x_lkn (by rw [q]; decide)) e41 e42 e22 e28
  rw [x_rst, if_pos (by rw [← e]; exact q), ← e, ← ec]
  exact z
theorem r_RA_n (R : r_RA h v0 b s) (cb : ((0 ≤ vA h (v0 + 22) (vI h v0 42) ∧ vA h (v0 + 22) (vI h v0 42) ≤ vI h v0 41) ∧ (vI h v0 42 = 0 ∨ vI h v0 42 = 1)) ∧ vI h v0 41 ≤ n) (n1 : n ≤ 240) (q1 : ¬ x_lk t n (vI h v0 41) = -1) (q : ¬ x_lk t n (vI h v0 41) = 92) (e41 : vI h' v0 41 = vI h v0 41 + 1) (e42 : vI h' v0 42 = vI h v0 42) (e22 : vA h' (v0 + 22) (vI h v0 42) = vA h (v0 + 22) (vI h v0 42) + 1) (ec : k = if x_lk t n (vI h v0 41) = 38 then 200 else x_lk t n (vI h v0 41)) (e28 : ∀ j, 0 ≤ j → vA h' (v0 + 28) j = if j = 300 * vI h v0 42 + vA h (v0 + 22) (vI h v0 42) then k else vA h (v0 + 28) j) : r_RA h' v0 b (x_rst t n s) := by
  have e := R.1.1
  have z := r_RA_st R cb n1 (x_lkn q1) e41 e42 e22 e28
  rw [x_rst, if_neg (by rw [← e]; exact q), ← e, ← ec]
  exact z
theorem r_RA0 (cb : ((0 ≤ vA h (v0 + 22) (vI h v0 42) ∧ vA h (v0 + 22) (vI h v0 42) ≤ vI h v0 41) ∧ (vI h v0 42 = 0 ∨ vI h v0 42 = 1)) ∧ vI h v0 41 ≤ n) (n1 : n ≤ 240) (e41 : vI h' v0 41 = vI h v0 41) (e42 : vI h' v0 42 = vI h v0 42) (e22 : vA h' (v0 + 22) = vA h (v0 + 22)) : r_RA h' v0 (300 * vI h v0 42 + vA h (v0 + 22) (vI h v0 42)) (x_R0 (vI h v0 41)) := by
  obtain ⟨⟨⟨c0, c1⟩, hf⟩, c2⟩ := cb
  have z : 300 * vI h v0 42 ≤ 300 * vI h v0 42 + vA h (v0 + 22) (vI h v0 42) ∧ 300 * vI h v0 42 + vA h (v0 + 22) (vI h v0 42) ≤ 600 := by
    rcases hf with e | e <;> rw [e] at c0 c1 ⊢ <;> constructor <;> lia
  refine ⟨⟨e41, ?_⟩, ⟨by rw [e42]; exact z.1, z.2⟩, ⟨(show (0 : Int32) ≤ 0 by decide), (show (0 : Int32) ≤ 240 by decide)⟩, fun j j0 j1 => absurd (Int32.lt_of_le_of_lt j0 j1) (show ¬ (0 : Int32) < 0 by decide)⟩
  show 300 * vI h' v0 42 + vA h' (v0 + 22) (vI h' v0 42) = 300 * vI h v0 42 + vA h (v0 + 22) (vI h v0 42) + 0
  rw [e42, e22, Int32.add_zero]
end Q16
/-- what s keeps, by places -/
def r_SB (h : z_H) (v0 : Nat) (v1 : Int32) (t : Int32 → Int32) (n a : Int32) : Prop := ∃ b g, (x_pattern t n (a + 1) = some (b, g) ∧ x_rep t n b g = some ((x_rW t n (x_R0 b)).1 + 1) ∧ 0 ≤ b) ∧ r_PQ h v0 (vA h (v0 + 9) v1) t n (a + 1) ∧ (r_RC h v0 (vA h (v0 + 10) v1) (x_rW t n (x_R0 b)) ∧ vA h (v0 + 11) v1 = vA h (v0 + 10) v1 + (x_rW t n (x_R0 b)).2.1) ∧ (vA h (v0 + 17) v1 = (x_fW t n ((x_rW t n (x_R0 b)).1 + 1) 0 0 0).2.1 ∧ vA h (v0 + 18) v1 = (x_fW t n ((x_rW t n (x_R0 b)).1 + 1) 0 0 0).2.2.1 ∧ vA h (v0 + 14) v1 = (x_fW t n ((x_rW t n (x_R0 b)).1 + 1) 0 0 0).2.2.2) ∧ (300 * vI h v0 42 ≤ vA h (v0 + 10) v1 ∧ vA h (v0 + 10) v1 ≤ 600 ∧ vA h (v0 + 11) v1 ≤ r_SE h v0)
theorem r_SB_o {h h' : z_H} {v0 : Nat} {t : Int32 → Int32} {n a b g q v1 f c : Int32} (E : x_pattern t n (a + 1) = some (b, g)) (R : x_rep t n b g = some ((x_rW t n (x_R0 b)).1 + 1)) (b0 : 0 ≤ b) (e9 : vA h' (v0 + 9) v1 = q) (Q : r_PQ h' v0 q t n (a + 1)) (e10 : vA h' (v0 + 10) v1 = 300 * f + c) (C : r_RC h v0 (300 * f + c) (x_rW t n (x_R0 b))) (e28 : vA h' (v0 + 28) = vA h (v0 + 28)) (e11 : vA h' (v0 + 11) v1 = 300 * f + (c + (x_rW t n (x_R0 b)).2.1)) (e17 : vA h' (v0 + 17) v1 = (x_fW t n ((x_rW t n (x_R0 b)).1 + 1) 0 0 0).2.1) (e18 : vA h' (v0 + 18) v1 = (x_fW t n ((x_rW t n (x_R0 b)).1 + 1) 0 0 0).2.2.1) (e14 : vA h' (v0 + 14) v1 = (x_fW t n ((x_rW t n (x_R0 b)).1 + 1) 0 0 0).2.2.2) (e42 : vI h' v0 42 = f) (e22 : vA h' (v0 + 22) f = c + (x_rW t n (x_R0 b)).2.1) (c0 : 0 ≤ c) (c1 : c ≤ 240) (hf : f = 0 ∨ f = 1) : r_SB h' v0 v1 t n a := by
  refine ⟨b, g, ⟨E, R, b0⟩, by rw [e9]; exact Q, ⟨by rw [e10]; exact r_RC_a C e28, by rw [e11, e10, Int32.add_assoc]⟩, ⟨e17, e18, e14⟩, ?_, ?_, ?_⟩
  · rw [e42, e10]
    rcases hf with e | e <;> rw [e] <;> lia
  · rw [e10]
    rcases hf with e | e <;> rw [e] <;> lia
  · unfold r_SE
    rw [e42, e22, e11]
    exact Int32.le_refl _
theorem jj_Mod_substitute_70z {L : q_L} {π : Nat → Nat → Option Nat} {N : Nat} {m9 : Nat} {h : z_H} {v0 : Nat} {v1 : Int32} {v2 : Int32} {β : Type} {f : z_H → Option β} {Q : β → Prop} (T : x_U L π h) (kv0 : q_M L π v0) (z2 : v2 = 0) (H : ∀ h', x_U L π h' → (∀ a k, ¬ (a < a) → vI h' a k = vI h a k) → (∀ a, ¬ (a < a) → vA h' a = vA h a) → (∀ a, ¬ (a < a) → vL h' a = vL h a) → qi (f h') Q) : qi (z_b (f_Mod_substitute_70 N m9 v0 v1 v2 h) f) Q := by
  subst z2
  refine qi_b (P := fun r => r = h) ?_ ?_
  · intro r e
    cases m9 with
    | zero => rw [f_Mod_substitute_70] at e; cases e
    | succ m => rw [f_Mod_substitute_70, if_pos rfl] at e; exact (Option.some.inj e).symm
  · intro r e
    subst e
    exact H r T (fun _ _ _ => rfl) (fun _ _ => rfl) (fun _ _ => rfl)
theorem x_fl2 {t : Int32 → Int32} {n a b g : Int32} (e : x_rep t n a g = some b) : x_fl t n b 0 0 0 ≤ n := Int32.le_iff_toInt_le.mpr (x_fl_le t n _ b 0 0 0 (Nat.lt_succ_self _) (x_rep_lt t n g _ a b (Nat.lt_succ_self _) e).2).2
theorem x_cle {c m : Int32} (c0 : 0 ≤ c) (c1 : c ≤ 240) (m0 : 0 ≤ m) (m1 : m ≤ 1000) : c ≤ c + m := by lia
theorem x_cle1 {c : Int32} (c1 : c ≤ 240) : c ≤ c + 1 := by lia
