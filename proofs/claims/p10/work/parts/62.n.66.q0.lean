/-! contents: what the reference keeps of a pattern -/
def r_tb (h : z_H) (v0 : Nat) (i c : Int32) : Bool := if vA h (v0 + 26) i = 1 then true else if vA h (v0 + 26) i = 0 then decide (vA h (v0 + 27) i = c) else x_mr (vL h (v0 + 32) i) (vL h (v0 + 33) i) c
def x_str (A : x_PS) (j : Int32) : Prop := (¬ xn A = 0 ∧ j = xa A) ∨ (xn A = 2 ∧ j = xb A)
def r_IT (h : z_H) (v0 : Nat) (b m : Int32) (kd gp : Int32 → Int32) (tk : Int32 → Int32 → Bool) (st : Int32 → Prop) : Prop := ∀ j, 0 ≤ j → j < m → r_kd (vA h (v0 + 26)) (b + j) = kd j ∧ (¬ kd j = 0 → vA h (v0 + 27) (b + j) = gp j) ∧ (kd j = 0 → ∀ c, x_kc c → r_tb h v0 (b + j) c = tk j c) ∧ (¬ vA h (v0 + 29) (b + j) = 0 ↔ st j)
/-- items below, and those of the other half, are kept -/
def r_FB (h h' : z_H) (v0 : Nat) (lo hi : Int32) : Prop := ∀ j, 0 ≤ j → j < lo ∨ hi ≤ j → vA h' (v0 + 26) j = vA h (v0 + 26) j ∧ vA h' (v0 + 27) j = vA h (v0 + 27) j ∧ vA h' (v0 + 29) j = vA h (v0 + 29) j ∧ vL h' (v0 + 32) j = vL h (v0 + 32) j ∧ vL h' (v0 + 33) j = vL h (v0 + 33) j
section Q0
variable {h h' h2 : z_H} {v0 : Nat} {b : Int32} {A : x_PS}
theorem r_FB_a {lo hi : Int32} (e1 : vA h' (v0 + 26) = vA h (v0 + 26)) (e2 : vA h' (v0 + 27) = vA h (v0 + 27)) (e3 : vA h' (v0 + 29) = vA h (v0 + 29)) (e4 : vL h' (v0 + 32) = vL h (v0 + 32)) (e5 : vL h' (v0 + 33) = vL h (v0 + 33)) : r_FB h h' v0 lo hi := fun j _ _ => by rw [e1, e2, e3, e4, e5]; exact ⟨rfl, rfl, rfl, rfl, rfl⟩
theorem r_FB_e {s lo hi : Int32} (e1 : ∀ j, 0 ≤ j → ¬ j = s → vA h' (v0 + 26) j = vA h (v0 + 26) j) (e2 : ∀ j, 0 ≤ j → ¬ j = s → vA h' (v0 + 27) j = vA h (v0 + 27) j) (e3 : ∀ j, 0 ≤ j → ¬ j = s → vA h' (v0 + 29) j = vA h (v0 + 29) j) (e4 : ∀ j, 0 ≤ j → ¬ j = s → vL h' (v0 + 32) j = vL h (v0 + 32) j) (e5 : ∀ j, 0 ≤ j → ¬ j = s → vL h' (v0 + 33) j = vL h (v0 + 33) j) (h1 : lo ≤ s) (h2 : s < hi) : r_FB h h' v0 lo hi := fun j j0 jj => by
  have n : ¬ j = s := fun z => by
    rcases jj with y | y
    · exact absurd (z ▸ Int32.lt_of_lt_of_le y h1) Int32.lt_irrefl
    · exact absurd (z ▸ Int32.lt_of_lt_of_le h2 y) Int32.lt_irrefl
  exact ⟨e1 j j0 n, e2 j j0 n, e3 j j0 n, e4 j j0 n, e5 j j0 n⟩
theorem r_FB_t {lo lo2 hi : Int32} (a : r_FB h h2 v0 lo hi) (c : r_FB h2 h' v0 lo2 hi) (hm : lo ≤ lo2) : r_FB h h' v0 lo hi := fun j j0 jj => by
  obtain ⟨a1, a2, a3, a4, a5⟩ := a j j0 jj
  obtain ⟨c1, c2, c3, c4, c5⟩ := c j j0 (jj.imp (fun z => Int32.lt_of_lt_of_le z hm) id)
  exact ⟨c1.trans a1, c2.trans a2, c3.trans a3, c4.trans a4, c5.trans a5⟩
theorem r_IT_f {m : Int32} {kd gp : Int32 → Int32} {tk : Int32 → Int32 → Bool} {st : Int32 → Prop} (I : r_IT h v0 b m kd gp tk st) (b0 : 0 ≤ b) (b1 : b ≤ 1000) (m1 : m ≤ 1000) {s hi : Int32} (F : r_FB h h' v0 s hi) (hs : b + m ≤ s) : r_IT h' v0 b m kd gp tk st := by
  intro j j0 j1
  obtain ⟨i1, i2, i3, i4⟩ := I j j0 j1
  obtain ⟨f1, f2, f3, f4, f5⟩ := F (b + j) (by lia) (Or.inl (by lia))
  unfold r_kd r_tb at *
  rw [f1, f2, f3, f4, f5]
  exact ⟨i1, i2, i3, i4⟩
theorem r_IT_add {m k g : Int32} {kd gp : Int32 → Int32} {tk : Int32 → Int32 → Bool} {S : Int32 → Bool} {st : Int32 → Prop} {hi : Int32} (I : r_IT h v0 b m kd gp tk st) (b0 : 0 ≤ b) (b1 : b ≤ 1000) (m0 : 0 ≤ m) (m1 : m ≤ 1000) (F : r_FB h h' v0 (b + m) hi) (e1 : r_kd (vA h' (v0 + 26)) (b + m) = k) (e2 : ¬ k = 0 → vA h' (v0 + 27) (b + m) = g) (e3 : k = 0 → ∀ c, x_kc c → r_tb h' v0 (b + m) c = S c) (e4 : vA h' (v0 + 29) (b + m) = 0) (ns : ¬ st m) : r_IT h' v0 b (m + 1) (x_up kd m k) (x_up gp m g) (x_ub tk m S) st := by
  intro j j0 j1
  by_cases q : j = m
  · subst q
    rw [x_up_s, x_up_s]
    refine ⟨e1, e2, fun z c kc => ?_, ⟨fun z => absurd e4 z, fun z => absurd z ns⟩⟩
    rw [e3 z c kc]
    unfold x_ub
    rw [if_pos rfl]
  · have j2 : j < m := by lia
    rw [x_up_n q, x_up_n q, show x_ub tk m S j = tk j from if_neg q]
    exact r_IT_f I b0 b1 m1 F (Int32.le_refl _) j j0 j2
/-- a pattern in the making -/
def r_IX (h : z_H) (v0 : Nat) : Int32 := 260 * vI h v0 42 + vA h (v0 + 21) (vI h v0 42)
def r_PA (h : z_H) (v0 : Nat) (q b : Int32) (A : x_PS) : Prop := (vI h v0 41 = xp A ∧ vI h v0 44 = xg A ∧ r_IX h v0 = b + xi A ∧ vI h v0 45 = xn A ∧ vA h (v0 + 31) q = xe A ∧ vA h (v0 + 23) q = b) ∧ ((0 ≤ b ∧ 0 ≤ xi A ∧ xi A ≤ 1000 ∧ b ≤ 1000) ∧ (vI h v0 42 = 0 ∨ vI h v0 42 = 1) ∧ 0 ≤ vA h (v0 + 21) (vI h v0 42) ∧ vA h (v0 + 21) (vI h v0 42) ≤ xp A) ∧ ((0 ≤ xn A ∧ xn A ≤ 2) ∧ (¬ xn A = 0 → 0 ≤ xa A ∧ xa A < xi A) ∧ (xn A = 2 → xb A < xi A) ∧ (¬ vI h v0 50 = 0 → 0 < xi A)) ∧ r_IT h v0 b (xi A) (xk A) (xq A) (xt A) (x_str A)
def r_PF (h : z_H) (v0 : Nat) (q b : Int32) (A : x_PS) : Prop := (vA h (v0 + 25) q = xg A ∧ vA h (v0 + 31) q = xe A ∧ vA h (v0 + 23) q = b ∧ vA h (v0 + 24) q = b + xi A) ∧ (0 ≤ b ∧ 0 ≤ xi A ∧ xi A ≤ 1000 ∧ b ≤ 1000) ∧ r_IT h v0 b (xi A) (xk A) (xq A) (xt A) (x_str A)
theorem r_bnd {q n : Int32} (hA : r_PA h v0 q b A) (n1 : n ≤ 240) (hc : vI h v0 41 < n) : xi A ≤ 900 ∧ 0 ≤ vA h (v0 + 21) (vI h v0 42) ∧ vA h (v0 + 21) (vI h v0 42) < 240 ∧ (vI h v0 42 = 0 ∨ vI h v0 42 = 1) ∧ r_IX h v0 < 260 * vI h v0 42 + 260 ∧ vA h (v0 + 21) (vI h v0 42) ≤ vI h v0 41 := by
  obtain ⟨⟨a1, a2, a3, -⟩, ⟨⟨b0, i0, i1, b1⟩, hf, c0, c1⟩, -⟩ := hA
  rw [a1] at hc ⊢
  have c2 : vA h (v0 + 21) (vI h v0 42) < 240 := by lia
  unfold r_IX at a3 ⊢
  rcases hf with e | e <;> rw [e] at a3 c0 c1 c2 ⊢ <;> refine ⟨?_, c0, c2, by decide, ?_, c1⟩ <;> lia
theorem r_add {q n p g k gg : Int32} {S : Int32 → Bool} (hA : r_PA h v0 q b A) (n1 : n ≤ 240) (hc : vI h v0 41 < n) (hp : vI h v0 41 < p) (q1 : vI h' v0 41 = p) (q2 : vI h' v0 44 = g) (q3 : vA h' (v0 + 21) (vI h v0 42) = vA h (v0 + 21) (vI h v0 42) + 1) (q0 : vI h' v0 42 = vI h v0 42) (q4 : vI h' v0 45 = vI h v0 45) (q5 : vA h' (v0 + 31) = vA h (v0 + 31)) (q6 : vA h' (v0 + 23) = vA h (v0 + 23)) (F : r_FB h h' v0 (r_IX h v0) (260 * vI h v0 42 + 260)) (e1 : r_kd (vA h' (v0 + 26)) (r_IX h v0) = k) (e2 : ¬ k = 0 → vA h' (v0 + 27) (r_IX h v0) = gg) (e3 : k = 0 → ∀ c, x_kc c → r_tb h' v0 (r_IX h v0) c = S c) (e4 : vA h' (v0 + 29) (r_IX h v0) = 0) : r_PA h' v0 q b (x_ad A p g k gg S) := by
  obtain ⟨i9, c3, c4, hf, ib, c5⟩ := r_bnd hA n1 hc
  obtain ⟨⟨a1, a2, a3, a4, a5, a6⟩, ⟨⟨b0, i0, i1, b1⟩, -, c0, c1⟩, ⟨n2, sa, sb, ry⟩, I⟩ := hA
  have a3' := a3
  rw [a3] at F e1 e2 e3 e4
  refine ⟨⟨q1, q2, ?_, q4.trans a4, by rw [q5]; exact a5, by rw [q6]; exact a6⟩, ⟨⟨b0, ?_, ?_, b1⟩, by rw [q0]; exact hf, ?_, ?_⟩, ⟨n2, fun z => ?_, fun z => ?_, fun _ => ?_⟩, r_IT_add I b0 b1 i0 i1 F e1 e2 e3 e4 ?_⟩
  · show r_IX h' v0 = b + (xi A + 1)
    unfold r_IX at a3' ⊢
    rw [q0, q3]
    lia
  · show 0 ≤ xi A + 1
    lia
  · show xi A + 1 ≤ 1000
    lia
  · rw [q0, q3]; lia
  · show vA h' (v0 + 21) (vI h' v0 42) ≤ p
    rw [q0, q3]; lia
  · have := sa z
    exact ⟨this.1, Int32.lt_trans this.2 (show xi A < xi A + 1 by lia)⟩
  · exact Int32.lt_trans (sb z) (show xi A < xi A + 1 by lia)
  · show 0 < xi A + 1
    lia
  · rintro (⟨z, y⟩ | ⟨z, y⟩)
    · exact absurd (y ▸ (sa z).2) Int32.lt_irrefl
    · exact absurd (y ▸ (sb z)) Int32.lt_irrefl
theorem r_star {q n : Int32} (hA : r_PA h v0 q b A) (n1 : n ≤ 240) (hc : vI h v0 41 < n) (m1 : ¬ vI h v0 50 = 0) (m2 : ¬ vI h v0 45 = 2) (q1 : vI h' v0 41 = vI h v0 41 + 1) (q2 : vI h' v0 44 = vI h v0 44) (q3 : vA h' (v0 + 21) = vA h (v0 + 21)) (q0 : vI h' v0 42 = vI h v0 42) (q4 : vI h' v0 45 = vI h v0 45 + 1) (q5 : vA h' (v0 + 31) = vA h (v0 + 31)) (q6 : vA h' (v0 + 23) = vA h (v0 + 23)) (q7 : vI h' v0 50 = 0) (e1 : vA h' (v0 + 26) = vA h (v0 + 26)) (e2 : vA h' (v0 + 27) = vA h (v0 + 27)) (e3 : vL h' (v0 + 32) = vL h (v0 + 32)) (e4 : vL h' (v0 + 33) = vL h (v0 + 33)) (e5 : vA h' (v0 + 29) (r_IX h v0 - 1) = 1) (e6 : ∀ j, 0 ≤ j → ¬ j = r_IX h v0 - 1 → vA h' (v0 + 29) j = vA h (v0 + 29) j) : r_PA h' v0 q b (x_star A) := by
  obtain ⟨i9, c3, c4, hf, ib, c5⟩ := r_bnd hA n1 hc
  obtain ⟨⟨a1, a2, a3, a4, a5, a6⟩, ⟨⟨b0, i0, i1, b1⟩, -, c0, c1⟩, ⟨n2, sa, sb, ry⟩, I⟩ := hA
  have p0 := ry m1
  rw [a4] at m2 q4
  rw [a3] at e5 e6
  have X : r_IX h' v0 = r_IX h v0 := by unfold r_IX; rw [q0, q3]
  have n1' : xn A = 0 ∨ xn A = 1 := by
    obtain ⟨z1, z2⟩ := n2
    by_cases z : xn A = 0
    · exact Or.inl z
    · right; lia
  refine ⟨⟨q1.trans (by rw [a1]; rfl), q2.trans a2, X.trans a3, q4, by rw [q5]; exact a5, by rw [q6]; exact a6⟩, ⟨⟨b0, i0, i1, b1⟩, by rw [q0]; exact hf, by rw [q0, q3]; exact c0, ?_⟩, ⟨⟨?_, ?_⟩, fun _ => ?_, fun z => ?_, fun z => absurd q7 z⟩, fun j j0 j1 => ?_⟩
  · rw [q0, q3]
    show _ ≤ xp A + 1
    lia
  · show 0 ≤ xn A + 1
    lia
  · show xn A + 1 ≤ 2
    lia
  · show 0 ≤ (if xn A = 0 then xi A - 1 else xa A) ∧ (if xn A = 0 then xi A - 1 else xa A) < xi A
    by_cases z : xn A = 0
    · rw [if_pos z]; constructor <;> lia
    · rw [if_neg z]; exact sa z
  · show (if xn A = 0 then xb A else xi A - 1) < xi A
    have z' : xn A + 1 = 2 := z
    rw [if_neg (fun y => by rw [y] at z'; exact absurd z' (by decide))]
    lia
  · have j1 : j < xi A := j1
    obtain ⟨w1, w2, w3, w4⟩ := I j j0 j1
    have T : ∀ i c, r_tb h' v0 i c = r_tb h v0 i c := fun i c => by unfold r_tb; rw [e1, e2, e3, e4]
    refine ⟨by rw [e1]; exact w1, fun z => by rw [e2]; exact w2 z, fun z c kc => by rw [T]; exact w3 z c kc, ?_⟩
    show ¬ vA h' (v0 + 29) (b + j) = 0 ↔ x_str (x_star A) j
    have SJ : x_str (x_star A) j ↔ (x_str A j ∨ j = xi A - 1) := by
      show ((¬ xn A + 1 = 0 ∧ j = (if xn A = 0 then xi A - 1 else xa A)) ∨ (xn A + 1 = 2 ∧ j = (if xn A = 0 then xb A else xi A - 1))) ↔ (((¬ xn A = 0 ∧ j = xa A) ∨ (xn A = 2 ∧ j = xb A)) ∨ j = xi A - 1)
      rcases n1' with e | e <;> rw [e] <;> simp
    rw [SJ]
    by_cases y : j = xi A - 1
    · have : b + j = b + xi A - 1 := by rw [y]; lia
      rw [this, e5]
      exact ⟨fun _ => Or.inr y, fun _ => by decide⟩
    · rw [e6 (b + j) (by lia) (fun z => y (by lia)), w4]
      exact ⟨fun z => Or.inl z, fun z => z.resolve_right y⟩
theorem r_dol {q n : Int32} (hA : r_PA h v0 q b A) (n1 : n ≤ 240) (hc : vI h v0 41 < n) (q1 : vI h' v0 41 = vI h v0 41 + 1) (q2 : vI h' v0 44 = vI h v0 44) (q3 : vA h' (v0 + 21) = vA h (v0 + 21)) (q0 : vI h' v0 42 = vI h v0 42) (q4 : vI h' v0 45 = vI h v0 45) (q5 : vA h' (v0 + 31) q = 1) (q6 : vA h' (v0 + 23) = vA h (v0 + 23)) (q7 : vI h' v0 50 = vI h v0 50) (F : r_FB h h' v0 (r_IX h v0) (260 * vI h v0 42 + 260)) : r_PA h' v0 q b (x_dol A) := by
  obtain ⟨i9, c3, c4, hf, ib, c5⟩ := r_bnd hA n1 hc
  obtain ⟨⟨a1, a2, a3, a4, a5, a6⟩, ⟨⟨b0, i0, i1, b1⟩, -, c0, c1⟩, ⟨n2, sa, sb, ry⟩, I⟩ := hA
  have X : r_IX h' v0 = r_IX h v0 := by unfold r_IX; rw [q0, q3]
  rw [a3] at F
  refine ⟨⟨q1.trans (by rw [a1]; rfl), q2.trans a2, X.trans a3, q4.trans a4, q5, by rw [q6]; exact a6⟩, ⟨⟨b0, i0, i1, b1⟩, by rw [q0]; exact hf, by rw [q0, q3]; exact c0, ?_⟩, ⟨n2, sa, sb, fun z => ry (q7 ▸ z)⟩, r_IT_f I b0 b1 i1 F (Int32.le_refl _)⟩
  rw [q0, q3]
  show _ ≤ xp A + 1
  lia
end Q0
