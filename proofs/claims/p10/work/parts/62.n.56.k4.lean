/-! contents: what the class keeps of a pattern -/
def c_IT (h : z_H) (it : Nat) (b m : Int32) (kd gp : Int32 → Int32) (tk : Int32 → Int32 → Bool) : Prop := ∀ j, 0 ≤ j → j < m → vA h (it + 1) (b + j) = kd j ∧ (¬ kd j = 0 → vA h (it + 2) (b + j) = gp j) ∧ (kd j = 0 → ∀ c, x_kc c → x_mb (vL h (it + 3) (b + j)) (vL h (it + 4) (b + j)) c = tk j c)
/-- a pattern in the making -/
def c_PA (h : z_H) (cu v0 it pt : Nat) (b : Int32) (A : x_PS) : Prop := (vI h cu 1 = xp A ∧ vI h pt 6 = xg A ∧ vI h it 4 = b + xi A ∧ vI h v0 4 = xn A ∧ vI h pt 1 = xe A ∧ vI h pt 2 = b) ∧ ((¬ xn A = 0 → vI h pt 4 = b + xa A) ∧ (xn A = 2 → vI h pt 5 = b + xb A)) ∧ (0 ≤ b ∧ 0 ≤ xi A ∧ xi A ≤ 1000 ∧ b ≤ 1000 ∧ b + xi A ≤ xp A) ∧ c_IT h it b (xi A) (xk A) (xq A) (xt A)
def c_WF (A : x_PS) (op rp : Int32) : Prop := (x_wf (xk A) (xq A) (x_ct 0 (xi A)) 0 0 0 ∧ x_oc (xk A) (x_ct 0 (xi A)) 0 0 0 = (xg A, if op = 0 then xg A else xg A - 1)) ∧ (0 ≤ xg A ∧ xg A ≤ 3 ∧ (¬ op = 0 → 1 ≤ xg A)) ∧ (0 ≤ xn A ∧ xn A ≤ 2) ∧ (0 ≤ xi A ∧ xi A ≤ 1000) ∧ (¬ xn A = 0 → 0 ≤ xa A ∧ xa A < xi A ∧ xk A (xa A) = 0) ∧ (xn A = 2 → xa A < xb A ∧ xb A < xi A ∧ xk A (xb A) = 0) ∧ (¬ rp = 0 → 0 < xi A ∧ xk A (xi A - 1) = 0 ∧ (¬ xn A = 0 → xa A < xi A - 1)) ∧ ∀ j, 0 ≤ j → j < xi A → xk A j = 0 ∨ xk A j = 1 ∨ xk A j = 2 ∨ xk A j = 3
/-- a pattern that is read -/
def x_z1 (A : x_PS) : Int32 := if xn A = 0 then xi A else xa A
def x_z2 (A : x_PS) : Int32 := if xn A = 2 then xb A else xi A
def c_PF (h : z_H) (it pt : Nat) (b : Int32) (A : x_PS) : Prop := (vI h pt 6 = xg A ∧ vI h pt 1 = xe A ∧ vI h pt 2 = b ∧ vI h pt 3 = b + xi A ∧ vI h pt 4 = b + x_z1 A ∧ vI h pt 5 = b + x_z2 A) ∧ (0 ≤ b ∧ 0 ≤ xi A ∧ xi A ≤ 1000 ∧ b ≤ 1000) ∧ c_IT h it b (xi A) (xk A) (xq A) (xt A)
def c_FB (h h' : z_H) (it : Nat) (m : Int32) : Prop := ∀ j, 0 ≤ j → j < m → vA h' (it + 1) j = vA h (it + 1) j ∧ vA h' (it + 2) j = vA h (it + 2) j ∧ vL h' (it + 3) j = vL h (it + 3) j ∧ vL h' (it + 4) j = vL h (it + 4) j
section K4
variable {h h' : z_H} {cu v0 it pt : Nat} {b : Int32} {A : x_PS}
theorem c_FB_a (e1 : vA h' (it + 1) = vA h (it + 1)) (e2 : vA h' (it + 2) = vA h (it + 2)) (e3 : vL h' (it + 3) = vL h (it + 3)) (e4 : vL h' (it + 4) = vL h (it + 4)) {m : Int32} : c_FB h h' it m := fun j _ _ => by rw [e1, e2, e3, e4]; exact ⟨rfl, rfl, rfl, rfl⟩
theorem c_FB_e {s m : Int32} (e1 : ∀ j, 0 ≤ j → ¬ j = s → vA h' (it + 1) j = vA h (it + 1) j) (e2 : ∀ j, 0 ≤ j → ¬ j = s → vA h' (it + 2) j = vA h (it + 2) j) (e3 : ∀ j, 0 ≤ j → ¬ j = s → vL h' (it + 3) j = vL h (it + 3) j) (e4 : ∀ j, 0 ≤ j → ¬ j = s → vL h' (it + 4) j = vL h (it + 4) j) (hm : m ≤ s) : c_FB h h' it m := fun j j0 j1 => by
  have n : ¬ j = s := fun z => absurd (z ▸ Int32.lt_of_lt_of_le j1 hm) Int32.lt_irrefl
  exact ⟨e1 j j0 n, e2 j j0 n, e3 j j0 n, e4 j j0 n⟩
theorem c_FB_t {h2 : z_H} {m m2 : Int32} (a : c_FB h h2 it m) (c : c_FB h2 h' it m2) (hm : m ≤ m2) : c_FB h h' it m := fun j j0 j1 => by
  obtain ⟨a1, a2, a3, a4⟩ := a j j0 j1
  obtain ⟨c1, c2, c3, c4⟩ := c j j0 (Int32.lt_of_lt_of_le j1 hm)
  exact ⟨c1.trans a1, c2.trans a2, c3.trans a3, c4.trans a4⟩
theorem c_IT_f {m : Int32} {kd gp : Int32 → Int32} {tk : Int32 → Int32 → Bool} (I : c_IT h it b m kd gp tk) (b0 : 0 ≤ b) (b1 : b ≤ 1000) (m1 : m ≤ 1000) {s : Int32} (F : c_FB h h' it s) (hs : b + m ≤ s) : c_IT h' it b m kd gp tk := by
  intro j j0 j1
  obtain ⟨i1, i2, i3⟩ := I j j0 j1
  obtain ⟨f1, f2, f3, f4⟩ := F (b + j) (by lia) (by lia)
  rw [f1, f2, f3, f4]
  exact ⟨i1, i2, i3⟩
theorem c_IT_add {m k g : Int32} {kd gp : Int32 → Int32} {tk : Int32 → Int32 → Bool} {S : Int32 → Bool} (I : c_IT h it b m kd gp tk) (b0 : 0 ≤ b) (b1 : b ≤ 1000) (m0 : 0 ≤ m) (m1 : m ≤ 1000) (F : c_FB h h' it (b + m)) (e1 : vA h' (it + 1) (b + m) = k) (e2 : ¬ k = 0 → vA h' (it + 2) (b + m) = g) (e3 : k = 0 → ∀ c, x_kc c → x_mb (vL h' (it + 3) (b + m)) (vL h' (it + 4) (b + m)) c = S c) : c_IT h' it b (m + 1) (x_up kd m k) (x_up gp m g) (x_ub tk m S) := by
  intro j j0 j1
  by_cases q : j = m
  · subst q
    rw [x_up_s, x_up_s]
    refine ⟨e1, e2, fun z c kc => ?_⟩
    rw [e3 z c kc]
    unfold x_ub
    rw [if_pos rfl]
  · have j2 : j < m := by lia
    rw [x_up_n q, x_up_n q, show x_ub tk m S j = tk j from if_neg q]
    exact c_IT_f I b0 b1 m1 F (Int32.le_refl _) j j0 j2
theorem c_PA_cz (hA : c_PA h cu v0 it pt b A) {n : Int32} (n1 : n ≤ 240) (hc : vI h cu 1 < n) : ¬ 240 ≤ vI h it 4 := by
  obtain ⟨⟨a1, a2, a3, -⟩, -, ⟨b0, i0, i1, b1, c⟩, -⟩ := hA
  rw [a3]
  rw [a1] at hc
  exact Int32.not_le.mpr (Int32.lt_of_le_of_lt c (Int32.lt_of_lt_of_le hc n1))
theorem c_PA_z0 (hA : c_PA h cu v0 it pt b A) : 0 ≤ vI h it 4 := by
  obtain ⟨⟨a1, a2, a3, -⟩, -, ⟨b0, i0, i1, b1, c⟩, -⟩ := hA
  rw [a3]
  lia
/-- an item more -/
theorem c_add {p g k gg : Int32} {S : Int32 → Bool} (hA : c_PA h cu v0 it pt b A) (hp : vI h it 4 < p) (i9 : xi A ≤ 900) (q1 : vI h' cu 1 = p) (q2 : vI h' pt 6 = g) (q3 : vI h' it 4 = vI h it 4 + 1) (q4 : vI h' v0 4 = vI h v0 4) (q5 : vI h' pt 1 = vI h pt 1) (q6 : vI h' pt 2 = vI h pt 2) (q7 : vI h' pt 4 = vI h pt 4) (q8 : vI h' pt 5 = vI h pt 5) (F : c_FB h h' it (vI h it 4)) (e1 : vA h' (it + 1) (vI h it 4) = k) (e2 : ¬ k = 0 → vA h' (it + 2) (vI h it 4) = gg) (e3 : k = 0 → ∀ c, x_kc c → x_mb (vL h' (it + 3) (vI h it 4)) (vL h' (it + 4) (vI h it 4)) c = S c) : c_PA h' cu v0 it pt b (x_ad A p g k gg S) := by
  obtain ⟨⟨a1, a2, a3, a4, a5, a6⟩, ⟨s1, s2⟩, ⟨b0, i0, i1, b1, c⟩, I⟩ := hA
  rw [a3] at hp F e1 e2 e3 q3
  have i2 : b + xi A < p := hp
  refine ⟨⟨q1, q2, ?_, q4.trans a4, q5.trans a5, q6.trans a6⟩, ⟨fun z => q7.trans (s1 z), fun z => q8.trans (s2 z)⟩, ⟨b0, ?_, ?_, b1, ?_⟩, c_IT_add I b0 b1 i0 i1 F e1 e2 e3⟩
  · show vI h' it 4 = b + (xi A + 1)
    rw [q3]; lia
  · show 0 ≤ xi A + 1
    lia
  · show xi A + 1 ≤ 1000
    lia
  · show b + (xi A + 1) ≤ p
    lia
theorem c_star (hA : c_PA h cu v0 it pt b A) (p1 : vI h cu 1 ≤ 900) (q0 : ¬ vI h v0 4 = 2) (n2 : 0 ≤ xn A ∧ xn A ≤ 2) (q1 : vI h' cu 1 = vI h cu 1 + 1) (q2 : vI h' pt 6 = vI h pt 6) (q3 : vI h' it 4 = vI h it 4) (q4 : vI h' v0 4 = vI h v0 4 + 1) (q5 : vI h' pt 1 = vI h pt 1) (q6 : vI h' pt 2 = vI h pt 2) (q7 : vI h' pt 4 = (if vI h v0 4 = 0 then vI h it 4 - 1 else vI h pt 4)) (q8 : vI h' pt 5 = (if vI h v0 4 = 0 then vI h pt 5 else vI h it 4 - 1)) (F : c_FB h h' it (vI h it 4)) : c_PA h' cu v0 it pt b (x_star A) := by
  obtain ⟨⟨a1, a2, a3, a4, a5, a6⟩, ⟨s1, s2⟩, ⟨b0, i0, i1, b1, c⟩, I⟩ := hA
  rw [a4] at q0 q4 q7 q8
  rw [a3] at q3 q7 q8 F
  rw [a1] at q1 p1
  refine ⟨⟨q1, q2.trans a2, q3, q4, q5.trans a5, q6.trans a6⟩, ⟨fun z => ?_, fun z => ?_⟩, ⟨b0, i0, i1, b1, ?_⟩, c_IT_f I b0 b1 i1 F (Int32.le_refl _)⟩
  · show vI h' pt 4 = b + (if xn A = 0 then xi A - 1 else xa A)
    rw [q7]
    by_cases w : xn A = 0
    · rw [if_pos w, if_pos w]; lia
    · rw [if_neg w, if_neg w]; exact s1 w
  · show vI h' pt 5 = b + (if xn A = 0 then xb A else xi A - 1)
    have w : ¬ xn A = 0 := fun w => by
      have z' : xn A + 1 = 2 := z
      rw [w] at z'
      exact absurd z' (by decide)
    rw [q8, if_neg w, if_neg w]; lia
  · show b + xi A ≤ xp A + 1
    lia
theorem c_dol (hA : c_PA h cu v0 it pt b A) (p1 : vI h cu 1 ≤ 900) (q1 : vI h' cu 1 = vI h cu 1 + 1) (q2 : vI h' pt 6 = vI h pt 6) (q3 : vI h' it 4 = vI h it 4) (q4 : vI h' v0 4 = vI h v0 4) (q5 : vI h' pt 1 = 1) (q6 : vI h' pt 2 = vI h pt 2) (q7 : vI h' pt 4 = vI h pt 4) (q8 : vI h' pt 5 = vI h pt 5) (F : c_FB h h' it (vI h it 4)) : c_PA h' cu v0 it pt b (x_dol A) := by
  obtain ⟨⟨a1, a2, a3, a4, a5, a6⟩, ⟨s1, s2⟩, ⟨b0, i0, i1, b1, c⟩, I⟩ := hA
  rw [a3] at q3 F
  rw [a1] at q1 p1
  refine ⟨⟨q1, q2.trans a2, q3, q4.trans a4, q5, q6.trans a6⟩, ⟨fun z => q7.trans (s1 z), fun z => q8.trans (s2 z)⟩, ⟨b0, i0, i1, b1, ?_⟩, c_IT_f I b0 b1 i1 F (Int32.le_refl _)⟩
  show b + xi A ≤ xp A + 1
  lia
/-- groups in order: an item more -/
theorem w_add1 {m o l k g : Int32} {kd gp : Int32 → Int32} (m0 : 0 ≤ m) (m1 : m ≤ 1000) (w : x_wf kd gp (x_ct 0 m) 0 0 0) (oc : x_oc kd (x_ct 0 m) 0 0 0 = (o, l)) (w2 : x_wf (x_up kd m k) (x_up gp m g) 1 m o l) : x_wf (x_up kd m k) (x_up gp m g) (x_ct 0 (m + 1)) 0 0 0 ∧ x_oc (x_up kd m k) (x_ct 0 (m + 1)) 0 0 0 = x_oc (x_up kd m k) 1 m o l := by
  have e : (0 : Int32) + Int32.ofNat (x_ct 0 m) = m := x_ct_e m0 (Int32.le_refl 0)
  have c : x_ct 0 (m + 1) = x_ct 0 m + 1 := by
    have q1 := x_ct_t m0 (Int32.le_refl 0)
    have q2 := x_ct_t (a := 0) (b := m + 1) (by lia) (Int32.le_refl 0)
    have q3 : (m + 1).toInt = m.toInt + 1 := by
      have := Int32.le_iff_toInt_le.mp m1
      have z : (1000 : Int32).toInt = 1000 := rfl
      have := Int32.le_iff_toInt_le.mp m0
      have z0 : (0 : Int32).toInt = 0 := rfl
      exact q_tA (by decide) (by omega) (by omega)
    omega
  have cg := x_wf_cg (kd := kd) (gp := gp) (kd' := x_up kd m k) (gp' := x_up gp m g) (x_ct 0 m) 0 0 0 (fun j hj => by
    have q := x_ct_i m0 (Int32.le_refl 0) hj
    have ne : ¬ (0 : Int32) + Int32.ofNat j = m := fun z => absurd (z ▸ q.2) Int32.lt_irrefl
    exact ⟨x_up_n ne, x_up_n ne⟩)
  have jn := x_wf_jn (kd := x_up kd m k) (gp := x_up gp m g) (x_ct 0 m) 0 0 0 (cg.1.mpr w) (by rw [cg.2, oc, e]; exact w2)
  rw [c, jn.2, cg.2, oc, e]
  exact ⟨jn.1, rfl⟩
theorem w_add {op op' rp rp' p g k gg : Int32} {S : Int32 → Bool} (W : c_WF A op rp) (i9 : xi A ≤ 900) (H : (k = 0 ∧ g = xg A ∧ op' = op ∧ ¬ rp' = 0) ∨ (k = 1 ∧ gg = xg A + 1 ∧ g = xg A + 1 ∧ xg A + 1 ≤ 3 ∧ op = 0 ∧ op' = 1 ∧ rp' = 0) ∨ (k = 2 ∧ gg = xg A ∧ g = xg A ∧ ¬ op = 0 ∧ op' = 0 ∧ rp' = 0) ∨ (k = 3 ∧ (1 ≤ gg ∧ gg ≤ if op = 0 then xg A else xg A - 1) ∧ g = xg A ∧ op' = op ∧ rp' = 0)) : c_WF (x_ad A p g k gg S) op' rp' := by
  obtain ⟨⟨w, oc⟩, ⟨g0, g3, g1⟩, ⟨n0, n2⟩, ⟨i0, i1⟩, sa, sb, r, ks⟩ := W
  have st : (¬ xn A = 0 → 0 ≤ xa A ∧ xa A < xi A + 1 ∧ x_up (xk A) (xi A) k (xa A) = 0) := fun z => by
    obtain ⟨a1, a2, a3⟩ := sa z
    exact ⟨a1, by lia, by rw [x_up_n (fun y => absurd (y ▸ a2) Int32.lt_irrefl)]; exact a3⟩
  have st2 : (xn A = 2 → xa A < xb A ∧ xb A < xi A + 1 ∧ x_up (xk A) (xi A) k (xb A) = 0) := fun z => by
    obtain ⟨a1, a2, a3⟩ := sb z
    exact ⟨a1, by lia, by rw [x_up_n (fun y => absurd (y ▸ a2) Int32.lt_irrefl)]; exact a3⟩
  have kk : k = 0 ∨ k = 1 ∨ k = 2 ∨ k = 3 := by
    rcases H with ⟨e, -⟩ | ⟨e, -⟩ | ⟨e, -⟩ | ⟨e, -⟩
    · exact Or.inl e
    · exact Or.inr (Or.inl e)
    · exact Or.inr (Or.inr (Or.inl e))
    · exact Or.inr (Or.inr (Or.inr e))
  have ks' : ∀ j, 0 ≤ j → j < xi A + 1 → x_up (xk A) (xi A) k j = 0 ∨ x_up (xk A) (xi A) k j = 1 ∨ x_up (xk A) (xi A) k j = 2 ∨ x_up (xk A) (xi A) k j = 3 := fun j j0 j1 => by
    by_cases q : j = xi A
    · rw [q, x_up_s]; exact kk
    · rw [x_up_n q]; exact ks j j0 (by lia)
  have rr : (¬ rp' = 0 → k = 0) → (¬ rp' = 0 → 0 < xi A + 1 ∧ x_up (xk A) (xi A) k (xi A + 1 - 1) = 0 ∧ (¬ xn A = 0 → xa A < xi A + 1 - 1)) := fun hk z => by
    rw [x_am1, x_up_s]
    exact ⟨by lia, hk z, fun y => (sa y).2.1⟩
  have wi : 0 ≤ xi A + 1 ∧ xi A + 1 ≤ 1000 := by constructor <;> lia
  have w00 := x_wf0 w
  have T : ∀ l, l = (if op = 0 then xg A else xg A - 1) → 0 ≤ l ∧ l ≤ xg A := fun l e => by
    rw [e]
    by_cases q : op = 0
    · rw [if_pos q]; exact ⟨g0, Int32.le_refl _⟩
    · rw [if_neg q]; have := g1 q; constructor <;> lia
  obtain ⟨t1, t2⟩ := T _ rfl
  rcases H with ⟨ek, eg, eo, er⟩ | ⟨ek, egg, eg, g4, eo, eo', er⟩ | ⟨ek, egg, eg, eo, eo', er⟩ | ⟨ek, egg, eg, eo, er⟩
  · obtain ⟨q1, q2⟩ := w_add1 (k := k) (g := gg) i0 i1 w oc (by
      rw [x_wf, x_up_s, x_up_s, ek]
      exact ⟨⟨t1, t2, g3⟩, fun z => absurd z (by decide), fun z => absurd z (by decide), fun z => absurd z (by decide), fun _ _ _ => ⟨t1, t2, g3⟩⟩)
    refine ⟨⟨q1, q2.trans ?_⟩, ⟨eg ▸ g0, eg ▸ g3, fun z => eg ▸ g1 (eo ▸ z)⟩, ⟨n0, n2⟩, wi, st, st2, rr (fun _ => ek), ks'⟩
    rw [x_oc, x_up_s, ek, if_neg (by decide), if_neg (by decide), x_oc, eo]
    show _ = (g, if op = 0 then g else g - 1)
    rw [eg]
  · obtain ⟨q1, q2⟩ := w_add1 (k := k) (g := gg) i0 i1 w oc (by
      rw [x_wf, x_up_s, x_up_s, ek]
      exact ⟨⟨t1, t2, g3⟩, fun _ => ⟨egg, ⟨t1, Int32.le_trans t2 (by lia), g4⟩⟩, fun z => absurd z (by decide), fun z => absurd z (by decide), fun z => absurd rfl z⟩)
    refine ⟨⟨q1, q2.trans ?_⟩, ⟨by rw [show xg (x_ad A p g k gg S) = g from rfl, eg]; lia, by rw [show xg (x_ad A p g k gg S) = g from rfl, eg]; exact g4, fun _ => by rw [show xg (x_ad A p g k gg S) = g from rfl, eg]; lia⟩, ⟨n0, n2⟩, wi, st, st2, rr (fun z => absurd er z), ks'⟩
    rw [x_oc, x_up_s, ek, if_pos rfl, x_oc, if_pos eo]
    show _ = (g, if op' = 0 then g else g - 1)
    rw [eo', if_neg (by decide), eg, x_am1]
  · obtain ⟨q1, q2⟩ := w_add1 (k := k) (g := gg) i0 i1 w oc (by
      rw [x_wf, x_up_s, x_up_s, ek, if_neg eo]
      have := g1 eo
      rw [if_neg eo] at t1 t2
      exact ⟨⟨t1, t2, g3⟩, fun z => absurd z (by decide), fun _ => ⟨egg, by lia, ⟨g0, Int32.le_refl _, g3⟩⟩, fun z => absurd z (by decide), fun _ z => absurd rfl z⟩)
    refine ⟨⟨q1, q2.trans ?_⟩, ⟨eg ▸ g0, eg ▸ g3, fun z => absurd eo' z⟩, ⟨n0, n2⟩, wi, st, st2, rr (fun z => absurd er z), ks'⟩
    rw [x_oc, x_up_s, ek, if_neg (by decide), if_pos rfl, x_oc]
    show _ = (g, if op' = 0 then g else g - 1)
    rw [eo', if_pos rfl, eg]
  · obtain ⟨q1, q2⟩ := w_add1 (k := k) (g := gg) i0 i1 w oc (by
      rw [x_wf, x_up_s, x_up_s, ek]
      exact ⟨⟨t1, t2, g3⟩, fun z => absurd z (by decide), fun z => absurd z (by decide), fun _ => ⟨egg, ⟨t1, t2, g3⟩⟩, fun _ _ z => absurd rfl z⟩)
    refine ⟨⟨q1, q2.trans ?_⟩, ⟨eg ▸ g0, eg ▸ g3, fun z => eg ▸ g1 (eo ▸ z)⟩, ⟨n0, n2⟩, wi, st, st2, rr (fun z => absurd er z), ks'⟩
    rw [x_oc, x_up_s, ek, if_neg (by decide), if_neg (by decide), x_oc, eo]
    show _ = (g, if op = 0 then g else g - 1)
    rw [eg]
theorem w_star {op rp rp' : Int32} (W : c_WF A op rp) (r1 : ¬ rp = 0) (n2 : ¬ xn A = 2) (r0 : rp' = 0) : c_WF (x_star A) op rp' := by
  obtain ⟨w, g, ⟨n0, n3⟩, ⟨i0, i1⟩, sa, sb, r, ks⟩ := W
  obtain ⟨r2, r3, r4⟩ := r r1
  refine ⟨w, g, ⟨?_, ?_⟩, ⟨i0, i1⟩, fun _ => ?_, fun z => ?_, fun z => absurd r0 z, ks⟩
  · show 0 ≤ xn A + 1
    lia
  · show xn A + 1 ≤ 2
    lia
  · show 0 ≤ (if xn A = 0 then xi A - 1 else xa A) ∧ (if xn A = 0 then xi A - 1 else xa A) < xi A ∧ xk A (if xn A = 0 then xi A - 1 else xa A) = 0
    by_cases q : xn A = 0
    · rw [if_pos q]; exact ⟨by lia, by lia, r3⟩
    · rw [if_neg q]; exact sa q
  · have q : ¬ xn A = 0 := fun w => by
      have z' : xn A + 1 = 2 := z
      rw [w] at z'
      exact absurd z' (by decide)
    show (if xn A = 0 then xi A - 1 else xa A) < (if xn A = 0 then xb A else xi A - 1) ∧ (if xn A = 0 then xb A else xi A - 1) < xi A ∧ xk A (if xn A = 0 then xb A else xi A - 1) = 0
    rw [if_neg q, if_neg q]
    exact ⟨r4 q, by lia, r3⟩
theorem w_dol {op rp : Int32} (W : c_WF A op rp) : c_WF (x_dol A) op rp := W
theorem c_fin {rp : Int32} (hA : c_PA h cu v0 it pt b A) (W : c_WF A 0 rp) (q2 : vI h' pt 6 = vI h pt 6) (q5 : vI h' pt 1 = vI h pt 1) (q6 : vI h' pt 2 = vI h pt 2) (q9 : vI h' pt 3 = vI h it 4) (q7 : vI h' pt 4 = (if 1 ≤ vI h v0 4 then vI h pt 4 else vI h it 4)) (q8 : vI h' pt 5 = (if 2 ≤ vI h v0 4 then vI h pt 5 else vI h it 4)) (F : c_FB h h' it (vI h it 4)) : c_PF h' it pt b A := by
  obtain ⟨⟨a1, a2, a3, a4, a5, a6⟩, ⟨s1, s2⟩, ⟨b0, i0, i1, b1, c⟩, I⟩ := hA
  obtain ⟨w, g, ⟨n0, n3⟩, -⟩ := W
  rw [a3] at q9 q7 q8 F
  rw [a4] at q7 q8
  refine ⟨⟨q2.trans a2, q5.trans a5, q6.trans a6, q9, ?_, ?_⟩, ⟨b0, i0, i1, b1⟩, c_IT_f I b0 b1 i1 F (Int32.le_refl _)⟩
  · rw [q7, x_z1]
    by_cases z : xn A = 0
    · rw [if_pos z, if_neg (by rw [z]; decide)]
    · rw [if_neg z, if_pos (by lia)]; exact s1 z
  · rw [q8, x_z2]
    by_cases z : xn A = 2
    · rw [if_pos z, if_pos (by rw [z]; decide)]; exact s2 z
    · rw [if_neg z, if_neg (by lia)]
theorem c_beg {p : Int32} {t : Int32 → Int32} {n : Int32} (p0 : 0 ≤ p) (p1 : p ≤ 900) (b0 : 0 ≤ b) (bp : b ≤ p) (q1 : vI h' cu 1 = (if x_lk t n p = 94 then p + 1 else p)) (q2 : vI h' pt 6 = 0) (q3 : vI h' it 4 = b) (q4 : vI h' v0 4 = 0) (q5 : vI h' pt 1 = 0) (q6 : vI h' pt 2 = b) : c_PA h' cu v0 it pt b (x_pA0 t n p) := by
  have b1 : b ≤ 1000 := by lia
  refine ⟨⟨q1, q2, q3.trans (Int32.add_zero b).symm, q4, q5, q6⟩, ⟨fun z => absurd rfl z, fun z => absurd z (show ¬ (0 : Int32) = 2 by decide)⟩, ⟨b0, (show (0 : Int32) ≤ 0 by decide), (show (0 : Int32) ≤ 1000 by decide), b1, ?_⟩, fun j j0 j1 => absurd (Int32.lt_of_le_of_lt j0 j1) (show ¬ (0 : Int32) < 0 by decide)⟩
  show b + 0 ≤ (if x_lk t n p = 94 then p + 1 else p)
  rw [Int32.add_zero]
  split
  · lia
  · exact bp
theorem w_beg {p : Int32} {t : Int32 → Int32} {n : Int32} : c_WF (x_pA0 t n p) 0 0 := by
  have z0 : (0 : Int32) ≤ 0 := by decide
  have c0 : x_ct 0 0 = 0 := by decide
  refine ⟨⟨?_, (by show x_oc _ (x_ct 0 0) 0 0 0 = ((0 : Int32), if (0 : Int32) = 0 then (0 : Int32) else 0 - 1); rw [c0, if_pos rfl]; rfl)⟩, ⟨z0, (show (0 : Int32) ≤ 3 by decide), fun z => absurd rfl z⟩, ⟨z0, (show (0 : Int32) ≤ 2 by decide)⟩, ⟨z0, (show (0 : Int32) ≤ 1000 by decide)⟩, fun z => absurd rfl z, fun z => absurd z (show ¬ (0 : Int32) = 2 by decide), fun z => absurd rfl z, fun j j0 j1 => absurd (Int32.lt_of_le_of_lt j0 j1) (show ¬ (0 : Int32) < 0 by decide)⟩
  show x_wf _ _ (x_ct 0 0) 0 0 0
  rw [c0]
  exact ⟨z0, z0, (show (0 : Int32) ≤ 3 by decide)⟩
theorem x_lkn {t : Int32 → Int32} {n a : Int32} (h : ¬ x_lk t n a = -1) : a < n := by
  unfold x_lk at h
  by_cases q : a < n
  · exact q
  · rw [if_neg q] at h; exact absurd rfl h
theorem c_i9 (hA : c_PA h cu v0 it pt b A) {n : Int32} (n1 : n ≤ 240) (hc : vI h cu 1 < n) : xi A ≤ 900 ∧ vI h cu 1 ≤ 900 ∧ vI h it 4 ≤ vI h cu 1 := by
  obtain ⟨⟨a1, a2, a3, -⟩, -, ⟨b0, i0, i1, b1, c⟩, -⟩ := hA
  rw [a1] at hc ⊢
  rw [a3]
  exact ⟨by lia, by lia, c⟩
theorem c_lt {t : Int32 → Int32} {n : Int32} (hA : c_PA h cu v0 it pt b A) (n1 : n ≤ 240) (c : x_lk t n (vI h cu 1) = 47) : b + xi A < vI h cu 1 + 1 ∧ vI h cu 1 + 1 ≤ n := by
  have hc : vI h cu 1 < n := x_lkn (by rw [c]; decide)
  obtain ⟨i9, p9, sp⟩ := c_i9 hA n1 hc
  rw [hA.1.2.2.1] at sp
  constructor <;> lia
theorem c_esc {t : Int32 → Int32} {n : Int32} (hA : c_PA h cu v0 it pt b A) (n1 : n ≤ 240) (hc : vI h cu 1 < n) (q1 : vI h' cu 1 = vI h cu 1 + 2) (q2 : vI h' pt 6 = (if x_lk t n (vI h cu 1 + 1) = 40 then vI h pt 6 + 1 else vI h pt 6)) (q3 : vI h' it 4 = vI h it 4 + 1) (q4 : vI h' v0 4 = vI h v0 4) (q5 : vI h' pt 1 = vI h pt 1) (q6 : vI h' pt 2 = vI h pt 2) (q7 : vI h' pt 4 = vI h pt 4) (q8 : vI h' pt 5 = vI h pt 5) (F : c_FB h h' it (vI h it 4)) (e1 : vA h' (it + 1) (vI h it 4) = x_ek (x_lk t n (vI h cu 1 + 1))) (e2 : ¬ x_ek (x_lk t n (vI h cu 1 + 1)) = 0 → vA h' (it + 2) (vI h it 4) = x_eg (x_lk t n (vI h cu 1 + 1)) (vI h pt 6)) (e3 : x_ek (x_lk t n (vI h cu 1 + 1)) = 0 → ∀ c, x_kc c → x_mb (vL h' (it + 3) (vI h it 4)) (vL h' (it + 4) (vI h it 4)) c = decide (c = x_lk t n (vI h cu 1 + 1))) : c_PA h' cu v0 it pt b (x_esc t n A) := by
  obtain ⟨i9, p9, sp⟩ := c_i9 hA n1 hc
  have a1 := hA.1.1
  have a2 := hA.1.2.1
  have hp : vI h it 4 < xp A + 2 := by rw [← a1]; lia
  rw [a1] at q1 q2 e1 e2 e3
  rw [a2] at q2 e2
  exact c_add hA hp i9 q1 q2 q3 q4 q5 q6 q7 q8 F e1 e2 e3
theorem c_pln {t : Int32 → Int32} {n : Int32} (hA : c_PA h cu v0 it pt b A) (n1 : n ≤ 240) (hc : vI h cu 1 < n) (q1 : vI h' cu 1 = vI h cu 1 + 1) (q2 : vI h' pt 6 = vI h pt 6) (q3 : vI h' it 4 = vI h it 4 + 1) (q4 : vI h' v0 4 = vI h v0 4) (q5 : vI h' pt 1 = vI h pt 1) (q6 : vI h' pt 2 = vI h pt 2) (q7 : vI h' pt 4 = vI h pt 4) (q8 : vI h' pt 5 = vI h pt 5) (F : c_FB h h' it (vI h it 4)) (e1 : vA h' (it + 1) (vI h it 4) = 0) (e3 : ∀ c, x_kc c → x_mb (vL h' (it + 3) (vI h it 4)) (vL h' (it + 4) (vI h it 4)) c = x_pc (x_lk t n (vI h cu 1)) c) : c_PA h' cu v0 it pt b (x_pln t n A) := by
  obtain ⟨i9, p9, sp⟩ := c_i9 hA n1 hc
  have a1 := hA.1.1
  have a2 := hA.1.2.1
  have hp : vI h it 4 < xp A + 1 := by rw [← a1]; lia
  rw [a1] at q1 e3
  rw [a2] at q2
  exact c_add hA hp i9 q1 q2 q3 q4 q5 q6 q7 q8 F e1 (fun z => absurd rfl z) (fun _ => e3)
theorem c_sett {t : Int32 → Int32} {n : Int32} (hA : c_PA h cu v0 it pt b A) (n1 : n ≤ 240) (hc : vI h cu 1 < n) (hp : vI h cu 1 < vI h' cu 1) (q1 : x_set t n (x_sa t n (vI h cu 1)) = some (vI h' cu 1)) (q2 : vI h' pt 6 = vI h pt 6) (q3 : vI h' it 4 = vI h it 4 + 1) (q4 : vI h' v0 4 = vI h v0 4) (q5 : vI h' pt 1 = vI h pt 1) (q6 : vI h' pt 2 = vI h pt 2) (q7 : vI h' pt 4 = vI h pt 4) (q8 : vI h' pt 5 = vI h pt 5) (F : c_FB h h' it (vI h it 4)) (e1 : vA h' (it + 1) (vI h it 4) = 0) (e3 : ∀ c, x_kc c → x_mb (vL h' (it + 3) (vI h it 4)) (vL h' (it + 4) (vI h it 4)) c = x_setS t n (vI h cu 1) c) : c_PA h' cu v0 it pt b (x_sset t n A) := by
  obtain ⟨i9, p9, sp⟩ := c_i9 hA n1 hc
  have a1 := hA.1.1
  have a2 := hA.1.2.1
  have hp2 : vI h it 4 < (x_set t n (x_sa t n (xp A))).getD 0 := by rw [← a1, q1]; exact Int32.lt_of_le_of_lt sp hp
  rw [a1] at q1 e3
  rw [a2] at q2
  exact c_add hA hp2 i9 (by rw [q1]; rfl) q2 q3 q4 q5 q6 q7 q8 F e1 (fun z => absurd rfl z) (fun _ => e3)
theorem x_ek_c {k : Int32} : (x_ek k = 0 ∧ ¬ k = 40 ∧ ¬ k = 41) ∨ (x_ek k = 1 ∧ k = 40) ∨ (x_ek k = 2 ∧ k = 41) ∨ (x_ek k = 3 ∧ ¬ k = 40 ∧ ¬ k = 41 ∧ 49 ≤ k ∧ k ≤ 51) := by
  unfold x_ek
  by_cases h1 : k = 40
  · rw [if_pos h1]; exact Or.inr (Or.inl ⟨rfl, h1⟩)
  rw [if_neg h1]
  by_cases h2 : k = 41
  · rw [if_pos h2]; exact Or.inr (Or.inr (Or.inl ⟨rfl, h2⟩))
  rw [if_neg h2]
  by_cases h3 : 49 ≤ k ∧ k ≤ 51
  · rw [if_pos h3]; exact Or.inr (Or.inr (Or.inr ⟨rfl, h1, h2, h3⟩))
  · rw [if_neg h3]; exact Or.inl ⟨rfl, h1, h2⟩
theorem w_esc {t : Int32 → Int32} {n op rp op' rp' : Int32} (hA : c_PA h cu v0 it pt b A) (W : c_WF A op rp) (n1 : n ≤ 240) (hc : vI h cu 1 < n) (g3 : (if x_lk t n (vI h cu 1 + 1) = 40 then vI h pt 6 + 1 else vI h pt 6) ≤ 3) (o1 : x_lk t n (vI h cu 1 + 1) = 40 → op = 0) (o2 : x_lk t n (vI h cu 1 + 1) = 41 → ¬ op = 0) (o3 : x_ek (x_lk t n (vI h cu 1 + 1)) = 3 → x_lk t n (vI h cu 1 + 1) - 48 ≤ (if op = 0 then vI h pt 6 else vI h pt 6 - 1)) (p1 : op' = (if x_lk t n (vI h cu 1 + 1) = 40 then 1 else if x_lk t n (vI h cu 1 + 1) = 41 then 0 else op)) (p2 : rp' = (if x_ek (x_lk t n (vI h cu 1 + 1)) = 0 then 1 else 0)) : c_WF (x_esc t n A) op' rp' := by
  obtain ⟨i9, p9, sp⟩ := c_i9 hA n1 hc
  rw [hA.1.1] at g3 o1 o2 o3 p1 p2
  rw [hA.1.2.1] at g3 o3
  refine w_add W i9 ?_
  rw [p1, p2]
  rcases x_ek_c (k := x_lk t n (xp A + 1)) with ⟨e, h1, h2⟩ | ⟨e, h1⟩ | ⟨e, h1⟩ | ⟨e, h1, h2, h3⟩
  · rw [e, if_neg h1, if_neg h1, if_neg h2, if_pos rfl]
    exact Or.inl ⟨rfl, rfl, rfl, by decide⟩
  · rw [if_pos h1] at g3
    rw [e, if_pos h1, if_pos h1, if_neg (by decide)]
    exact Or.inr (Or.inl ⟨rfl, by rw [x_eg, if_pos h1], rfl, g3, o1 h1, rfl, rfl⟩)
  · have h2 : ¬ x_lk t n (xp A + 1) = 40 := by rw [h1]; decide
    rw [e, if_neg h2, if_neg h2, if_pos h1, if_neg (by decide)]
    exact Or.inr (Or.inr (Or.inl ⟨rfl, by rw [x_eg, if_neg h2, if_pos h1], rfl, o2 h1, rfl, rfl⟩))
  · rw [e, if_neg h1, if_neg h1, if_neg h2, if_neg (by decide)]
    refine Or.inr (Or.inr (Or.inr ⟨rfl, ⟨?_, ?_⟩, rfl, rfl, rfl⟩))
    · rw [x_eg, if_neg h1, if_neg h2]; lia
    · rw [x_eg, if_neg h1, if_neg h2]; exact o3 e
/-- what came of a pattern whose group is open -/
theorem x_dead {t : Int32 → Int32} {n a ic sc gr go rp : Int32} {r : Int32 × Int32} (tp : ∀ j, t j ≠ -1) (n2 : n ≤ 1000) (o : ¬ go = 0) (e : x_lk t n a = 47 ∨ x_lk t n a = -1) (h : x_pat t n a ic sc gr go rp = some r) : False := by
  rcases e with e | e
  · rw [x_q47 n2 e, if_neg o] at h; cases h
  · rw [x_qno tp e] at h; cases h
end K4
