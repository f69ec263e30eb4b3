/-! heaps made of cells whose references are told from a base -/
abbrev c_V : Type := Int32 ⊕ Option Nat
abbrev c_C : Type := (Nat × List c_V) ⊕ (Nat × Nat × Nat × (Nat → Option Nat))
def c_v (B : Nat) (v : c_V) : Value := match v with
  | .inl x => .int x
  | .inr none => .null
  | .inr (some o) => .ref (B + o)
def c_e (B : Nat) (c : c_C) : z_E := match c with
  | .inl (ci, fs) => .inr (ci, fs.map (c_v B))
  | .inr (t, n, 0, _) => .inl (t, (n, .inl fun _ => 0))
  | .inr (t, n, 1, _) => .inl (t, (n, .inr (.inl fun _ => 0)))
  | .inr (t, n, _ + 2, f) => .inl (t, (n, .inr (.inr (.inr (.inr fun i => (f i).map (B + ·))))))
def c_h (B m : Nat) (g : Nat → c_C) : z_H := fun a => if B ≤ a ∧ a < B + m then some (c_e B (g (a - B))) else none
def c_s (g : Nat → c_C) (i : Nat) (c : c_C) : Nat → c_C := fun j => if j = i then c else g j
def c_0 : Nat → Option Nat := fun _ => none
def c_f (f : Nat → Option Nat) (k q : Nat) : Nat → Option Nat := fun j => if j = k then some q else f j
section CH
variable {B m i j k ci a q : Nat} {g : Nat → c_C} {c : c_C} {fs : List c_V}
theorem c_s_eq (g : Nat → c_C) (i : Nat) (c : c_C) : c_s g i c i = c := if_pos rfl
theorem c_s_ne (h : j ≠ i) : c_s g i c j = g j := if_neg h
theorem c_h_at (ea : a = B + i) (hi : i < m) : c_h B m g a = some (c_e B (g i)) := by
  subst ea
  unfold c_h
  rw [if_pos (by omega), Nat.add_sub_cancel_left]
theorem c_new {e : z_E} (ea : a = B + m) (ec : e = c_e B c) : z_up (c_h B m g) a e = c_h B (m + 1) (c_s g m c) := by
  subst ea ec
  funext x
  unfold z_up c_h c_s
  by_cases h : x = B + m
  · rw [if_pos h, if_pos (by omega), if_pos (by omega)]
  · rw [if_neg h]
    by_cases h2 : B ≤ x ∧ x < B + m
    · rw [if_pos h2, if_pos (by omega), if_neg (by omega)]
    · rw [if_neg h2, if_neg (by omega)]
theorem c_set {e : z_E} (ea : a = B + i) (hi : i < m) (ec : e = c_e B c) : z_up (c_h B m g) a e = c_h B m (c_s g i c) := by
  subst ea ec
  funext x
  unfold z_up c_h c_s
  by_cases h : x = B + i
  · rw [if_pos h, if_pos (by omega), if_pos (by omega)]
  · rw [if_neg h]
    by_cases h2 : B ≤ x ∧ x < B + m
    · rw [if_pos h2, if_pos h2, if_neg (by omega)]
    · rw [if_neg h2, if_neg h2]
theorem c_new_s {R : Option z_H} {e : z_E} {K : z_H → Option z_H} (ea : a = B + m) (ec : e = c_e B c) (H : K (c_h B (m + 1) (c_s g m c)) = R) : z_b (some (z_up (c_h B m g) a e)) K = R := by
  rw [c_new ea ec]; exact H
theorem c_sF_s {R : Option z_H} {v : Value} {w : c_V} {K : z_H → Option z_H} (ea : a = B + i) (hi : i < m) (hg : g i = .inl (ci, fs)) (hk : k < fs.length) (ev : v = c_v B w) (H : K (c_h B m (c_s g i (.inl (ci, fs.set k w)))) = R) : z_b (sF (c_h B m g) a ci k v) K = R := by
  have e1 : sF (c_h B m g) a ci k v = some (c_h B m (c_s g i (.inl (ci, fs.set k w)))) := by
    unfold sF
    rw [c_h_at ea hi, hg]
    dsimp only [c_e]
    rw [if_pos ⟨rfl, by rw [List.length_map]; exact hk⟩, c_set (i := i) (c := .inl (ci, fs.set k w)) ea hi]
    dsimp only [c_e]
    rw [List.map_set, ev]
  rw [e1]; exact H
theorem c_gR_s {o : Nat} {R : Option z_H} {K : Nat → Option z_H} (ea : a = B + i) (hi : i < m) (hg : g i = .inl (ci, fs)) (hk : fs[k]? = some (.inr (some o))) (H : K (B + o) = R) : z_b (gR (c_h B m g) a ci k) K = R := by
  have e1 : gR (c_h B m g) a ci k = some (B + o) := by
    unfold gR gF
    rw [c_h_at ea hi, hg]
    dsimp only [c_e]
    rw [if_pos rfl, List.getElem?_map, hk]
    rfl
  rw [e1]; exact H
theorem c_zD_s {R : Option z_H} {K : Unit → Option z_H} (ea : a = B + i) (hi : i < m) (H : K () = R) : z_b (zD (c_h B m g) a) K = R := by
  have e1 : zD (c_h B m g) a = some () := by
    unfold zD
    rw [c_h_at ea hi]
    rfl
  rw [e1]; exact H
theorem c_uR_s {t n v x : Nat} {y : Int32} {f : Nat → Option Nat} {R : Option z_H} {K : z_H → Option z_H} (ea : a = B + i) (hi : i < m) (hg : g i = .inr (t, n, 2, f)) (ev : v = B + q) (hq : q < m) (hg2 : g q = .inl (ci, fs)) (hy : ¬ y < 0 ∧ y.toNatClampNeg = x ∧ x < n) (H : K (c_h B m (c_s g i (.inr (t, n, 2, c_f f x q)))) = R) : z_b (uR (c_h B m g) a t y v ci) K = R := by
  obtain ⟨y1, y2, y3⟩ := hy
  have e1 : uR (c_h B m g) a t y v ci = some (c_h B m (c_s g i (.inr (t, n, 2, c_f f x q)))) := by
    unfold uR
    rw [c_h_at ea hi, hg, c_h_at ev hq, hg2]
    dsimp only [c_e]
    have ef : va_up (fun i => (f i).map (B + ·)) x (some (B + q)) = fun i => (c_f f x q i).map (B + ·) := by
      funext j
      unfold va_up c_f
      by_cases h : j = x
      · rw [if_pos h, if_pos h]; rfl
      · rw [if_neg h, if_neg h]
    rw [if_pos ⟨rfl, rfl, by rintro (z | z); exact y1 z; omega⟩, c_set (i := i) (c := .inr (t, n, 2, c_f f x q)) ea hi]
    dsimp only [c_e]
    rw [y2, ev, ef]
  rw [e1]; exact H
theorem c_s_id (hg : g i = c) : c_s g i c = g := by
  funext j
  unfold c_s
  by_cases h : j = i
  · rw [if_pos h, h, hg]
  · rw [if_neg h]
theorem c_as_s {G : Nat → c_C} {b : Nat} {fs2 : List c_V} {arr : c_C} {e : z_E} {R : Option z_H} {v : Value} {w : c_V} {K : z_H → Option z_H} (ea : a = B + m) (ec : e = c_e B arr) (eb : b = B + i) (hi : i < m) (hk : k < fs.length) (ev : v = c_v B w) (ef : fs.set k w = fs2) (H : K (c_h B (m + 1) (c_s (c_s G m arr) i (.inl (ci, fs2)))) = R) : z_b (some (z_up (c_h B m (c_s G i (.inl (ci, fs)))) a e)) (fun h1 => z_b (sF h1 b ci k v) K) = R := by
  refine c_new_s ea ec ?_
  refine c_sF_s (i := i) (w := w) eb (by omega) ((c_s_ne (by omega)).trans (c_s_eq _ _ _)) hk ev ?_
  have q : c_s (c_s (c_s G i (.inl (ci, fs))) m arr) i (.inl (ci, fs.set k w)) = c_s (c_s G m arr) i (.inl (ci, fs2)) := by
    rw [ef]
    funext j
    unfold c_s
    by_cases h : j = i
    · rw [if_pos h, if_pos h]
    · rw [if_neg h, if_neg h, if_neg h]
  rw [q]; exact H
theorem c_sh_s {G : Nat → c_C} {b : Nat} {fs2 : List c_V} {R : Option z_H} {v : Value} {w : c_V} {K : z_H → Option z_H} (eb : b = B + i) (hi : i < m) (hk : k < fs.length) (ev : v = c_v B w) (ef : fs.set k w = fs2) (H : K (c_h B m (c_s G i (.inl (ci, fs2)))) = R) : z_b (sF (c_h B m (c_s G i (.inl (ci, fs)))) b ci k v) K = R := by
  refine c_sF_s (i := i) (w := w) eb hi (c_s_eq _ _ _) hk ev ?_
  have q : c_s (c_s G i (.inl (ci, fs))) i (.inl (ci, fs.set k w)) = c_s G i (.inl (ci, fs2)) := by
    rw [ef]
    funext j
    unfold c_s
    by_cases h : j = i
    · rw [if_pos h, if_pos h]
    · rw [if_neg h, if_neg h, if_neg h]
  rw [q]; exact H
theorem c_call_s {R o : Option z_H} {x : z_H} {K : z_H → Option z_H} (e : o = some x) (H : K x = R) : z_b o K = R := by
  rw [e]; exact H
theorem c_zP_s {R : Option z_H} {y : Int32} {K : Unit → Option z_H} (e : zP y = some ()) (H : K () = R) : z_b (zP y) K = R := by
  rw [e]; exact H
theorem c_rf {x o : Nat} (e : x = B + o) : Value.ref x = c_v B (.inr (some o)) := congrArg Value.ref e
end CH
theorem hP_240 : zP 240 = some () := by decide
theorem hP_600 : zP 600 = some () := by decide
theorem hP_60 : zP 60 = some () := by decide
theorem hP_200 : zP 200 = some () := by decide
theorem hP_24 : zP 24 = some () := by decide
def r_Row (v1 : Int32) (i : Nat) (g : Nat → c_C) : Nat → c_C := (c_s (c_s g (i + 1) (.inr (1, v1.toNatClampNeg, 0, c_0))) i (.inl (10, ([.inr none, .inl 0].set 0 (.inr (some (i + 1)))))))
theorem r_Row_lo {v1 : Int32} {i j : Nat} {g : Nat → c_C} (h : j < i) : r_Row v1 i g j = g j := by
  unfold r_Row
  exact (c_s_ne (by omega)).trans ((c_s_ne (by omega)).trans (rfl))
theorem r_Row_hd {v1 : Int32} {i : Nat} {g : Nat → c_C} : r_Row v1 i g i = .inl (10, ([.inr none, .inl 0].set 0 (.inr (some (i + 1))))) := by
  unfold r_Row
  exact (c_s_eq _ _ _)
set_option maxRecDepth 20000 in
set_option maxHeartbeats 8000000 in
theorem k_Row_a {N B i a n : Nat} {g : Nat → c_C} {v1 : Int32} (hP : zP v1 = some ()) (hg : g i = .inl (10, [.inr none, .inl 0])) (ea : a = B + i) (en : n = B + (i + 1)) : f_Row_init N a v1 (c_h B (i + 1) g) n = some (c_h B (i + 2) (r_Row v1 i g)) := by
  subst ea en
  unfold f_Row_init r_Row
  refine c_zP_s hP ?_
  refine c_new_s (c := (.inr (1, v1.toNatClampNeg, 0, c_0))) (by omega) rfl ?_
  refine c_sF_s (i := i) (w := (.inr (some (i + 1)))) (by omega) (by omega) ((c_s_ne (by omega)).trans (hg)) (Nat.le_of_ble_eq_true rfl) (c_rf (by omega)) ?_
  refine c_zD_s (i := (i + 1)) (by omega) (by omega) ?_
  rfl
def r_Cur (i : Nat) (g : Nat → c_C) : Nat → c_C := g
theorem r_Cur_lo {i j : Nat} {g : Nat → c_C} (h : j < i) : r_Cur i g j = g j := by
  unfold r_Cur
  exact rfl
theorem r_Cur_hd {i : Nat} {g : Nat → c_C} (hg : g i = .inl (2, [.inr none, .inl 0, .inl 0])) : r_Cur i g i = .inl (2, [.inr none, .inl 0, .inl 0]) := by
  unfold r_Cur
  exact (hg)
set_option maxRecDepth 20000 in
set_option maxHeartbeats 8000000 in
theorem k_Cur_a {N B i a n : Nat} {g : Nat → c_C} (hg : g i = .inl (2, [.inr none, .inl 0, .inl 0])) (ea : a = B + i) (en : n = B + (i + 1)) : f_Cur_init N a (c_h B (i + 1) g) n = some (c_h B (i + 1) (r_Cur i g)) := by
  subst ea en
  unfold f_Cur_init r_Cur
  skip
  rfl
def r_Pr (o1 : Nat) (i : Nat) (g : Nat → c_C) : Nat → c_C := (c_s g i (.inl (8, ([.inr none, .inr none, .inr none, .inl 0, .inl 0, .inl 0, .inl 0].set 0 (.inr (some o1))))))
theorem r_Pr_lo {o1 : Nat} {i j : Nat} {g : Nat → c_C} (h : j < i) : r_Pr o1 i g j = g j := by
  unfold r_Pr
  exact (c_s_ne (by omega)).trans (rfl)
theorem r_Pr_hd {o1 : Nat} {i : Nat} {g : Nat → c_C} : r_Pr o1 i g i = .inl (8, ([.inr none, .inr none, .inr none, .inl 0, .inl 0, .inl 0, .inl 0].set 0 (.inr (some o1)))) := by
  unfold r_Pr
  exact (c_s_eq _ _ _)
set_option maxRecDepth 20000 in
set_option maxHeartbeats 8000000 in
theorem k_Pr_a {N B i a n : Nat} {g : Nat → c_C} {o1 x1 : Nat} (hg : g i = .inl (8, [.inr none, .inr none, .inr none, .inl 0, .inl 0, .inl 0, .inl 0])) (ea : a = B + i) (en : n = B + (i + 1)) (e1 : x1 = B + o1) : f_Pr_init N a x1 (c_h B (i + 1) g) n = some (c_h B (i + 1) (r_Pr o1 i g)) := by
  subst ea en
  have ho : Value.ref x1 = c_v B (.inr (some o1)) := congrArg Value.ref e1
  unfold f_Pr_init r_Pr
  refine c_sF_s (i := i) (w := (.inr (some o1))) (by omega) (by omega) (hg) (Nat.le_of_ble_eq_true rfl) (ho) ?_
  rfl
def r_Pa (i : Nat) (g : Nat → c_C) : Nat → c_C := (c_s (c_s (c_s (c_s (c_s (r_Pr (i + 1) (i + 2) (c_s (c_s (r_Cur (i + 1) (c_s g (i + 1) (.inl (2, [.inr none, .inl 0, .inl 0])))) i (.inl (6, ([.inr none, .inr none, .inr none, .inr none, .inl 0, .inr none, .inr none].set 0 (.inr (some (i + 1))))))) (i + 2) (.inl (8, [.inr none, .inr none, .inr none, .inl 0, .inl 0, .inl 0, .inl 0])))) i (.inl (6, (([.inr none, .inr none, .inr none, .inr none, .inl 0, .inr none, .inr none].set 0 (.inr (some (i + 1)))).set 1 (.inr (some (i + 2))))))) (i + 3) (.inr (0, 4, 0, c_0))) i (.inl (6, ((([.inr none, .inr none, .inr none, .inr none, .inl 0, .inr none, .inr none].set 0 (.inr (some (i + 1)))).set 1 (.inr (some (i + 2)))).set 2 (.inr (some (i + 3))))))) (i + 4) (.inr (0, 26, 0, c_0))) i (.inl (6, (((([.inr none, .inr none, .inr none, .inr none, .inl 0, .inr none, .inr none].set 0 (.inr (some (i + 1)))).set 1 (.inr (some (i + 2)))).set 2 (.inr (some (i + 3)))).set 3 (.inr (some (i + 4)))))))
theorem r_Pa_lo {i j : Nat} {g : Nat → c_C} (h : j < i) : r_Pa i g j = g j := by
  unfold r_Pa
  exact (c_s_ne (by omega)).trans ((c_s_ne (by omega)).trans ((c_s_ne (by omega)).trans ((c_s_ne (by omega)).trans ((c_s_ne (by omega)).trans ((r_Pr_lo (by omega)).trans ((c_s_ne (by omega)).trans ((c_s_ne (by omega)).trans ((r_Cur_lo (by omega)).trans ((c_s_ne (by omega)).trans (rfl))))))))))
theorem r_Pa_hd {i : Nat} {g : Nat → c_C} : r_Pa i g i = .inl (6, (((([.inr none, .inr none, .inr none, .inr none, .inl 0, .inr none, .inr none].set 0 (.inr (some (i + 1)))).set 1 (.inr (some (i + 2)))).set 2 (.inr (some (i + 3)))).set 3 (.inr (some (i + 4))))) := by
  unfold r_Pa
  exact (c_s_eq _ _ _)
set_option maxRecDepth 20000 in
set_option maxHeartbeats 8000000 in
theorem k_Pa_a {N B i a n : Nat} {g : Nat → c_C} (hg : g i = .inl (6, [.inr none, .inr none, .inr none, .inr none, .inl 0, .inr none, .inr none])) (ea : a = B + i) (en : n = B + (i + 1)) : f_Pa_init N a (c_h B (i + 1) g) n = some (c_h B (i + 5) (r_Pa i g)) := by
  subst ea en
  unfold f_Pa_init r_Pa
  refine c_new_s (c := (.inl (2, [.inr none, .inl 0, .inl 0]))) (by omega) rfl ?_
  refine c_zD_s (i := (i + 1)) (by omega) (by omega) ?_
  refine c_call_s (k_Cur_a (c_s_eq _ _ _) (by omega) (by omega)) ?_
  refine c_sF_s (i := i) (w := (.inr (some (i + 1)))) (by omega) (by omega) ((r_Cur_lo (by omega)).trans ((c_s_ne (by omega)).trans (hg))) (Nat.le_of_ble_eq_true rfl) (c_rf (by omega)) ?_
  refine c_zD_s (i := (i + 1)) (by omega) (by omega) ?_
  refine c_new_s (c := (.inl (8, [.inr none, .inr none, .inr none, .inl 0, .inl 0, .inl 0, .inl 0]))) (by omega) rfl ?_
  refine c_gR_s (i := i) (by omega) (by omega) ((c_s_ne (by omega)).trans (c_s_eq _ _ _)) rfl ?_
  refine c_zD_s (i := (i + 2)) (by omega) (by omega) ?_
  refine c_call_s (k_Pr_a (o1 := (i + 1)) (c_s_eq _ _ _) (by omega) (by omega) (by omega)) ?_
  refine c_sF_s (i := i) (w := (.inr (some (i + 2)))) (by omega) (by omega) ((r_Pr_lo (by omega)).trans ((c_s_ne (by omega)).trans (c_s_eq _ _ _))) (Nat.le_of_ble_eq_true rfl) (c_rf (by omega)) ?_
  refine c_zD_s (i := (i + 2)) (by omega) (by omega) ?_
  refine c_new_s (c := (.inr (0, 4, 0, c_0))) (by omega) rfl ?_
  refine c_sF_s (i := i) (w := (.inr (some (i + 3)))) (by omega) (by omega) ((c_s_ne (by omega)).trans (c_s_eq _ _ _)) (Nat.le_of_ble_eq_true rfl) (c_rf (by omega)) ?_
  refine c_zD_s (i := (i + 3)) (by omega) (by omega) ?_
  refine c_new_s (c := (.inr (0, 26, 0, c_0))) (by omega) rfl ?_
  refine c_sF_s (i := i) (w := (.inr (some (i + 4)))) (by omega) (by omega) ((c_s_ne (by omega)).trans (c_s_eq _ _ _)) (Nat.le_of_ble_eq_true rfl) (c_rf (by omega)) ?_
  refine c_zD_s (i := (i + 4)) (by omega) (by omega) ?_
  rfl
def r_Ma (i : Nat) (g : Nat → c_C) : Nat → c_C := (c_s (c_s (c_s (c_s (c_s (c_s (c_s (c_s g (i + 1) (.inr (0, 4, 0, c_0))) i (.inl (5, ([.inl 0, .inl 0, .inr none, .inr none, .inr none, .inr none, .inr none, .inr none, .inr none].set 5 (.inr (some (i + 1))))))) (i + 2) (.inr (0, 4, 0, c_0))) i (.inl (5, (([.inl 0, .inl 0, .inr none, .inr none, .inr none, .inr none, .inr none, .inr none, .inr none].set 5 (.inr (some (i + 1)))).set 6 (.inr (some (i + 2))))))) (i + 3) (.inr (0, 4, 0, c_0))) i (.inl (5, ((([.inl 0, .inl 0, .inr none, .inr none, .inr none, .inr none, .inr none, .inr none, .inr none].set 5 (.inr (some (i + 1)))).set 6 (.inr (some (i + 2)))).set 7 (.inr (some (i + 3))))))) (i + 4) (.inr (0, 4, 0, c_0))) i (.inl (5, (((([.inl 0, .inl 0, .inr none, .inr none, .inr none, .inr none, .inr none, .inr none, .inr none].set 5 (.inr (some (i + 1)))).set 6 (.inr (some (i + 2)))).set 7 (.inr (some (i + 3)))).set 8 (.inr (some (i + 4)))))))
theorem r_Ma_lo {i j : Nat} {g : Nat → c_C} (h : j < i) : r_Ma i g j = g j := by
  unfold r_Ma
  exact (c_s_ne (by omega)).trans ((c_s_ne (by omega)).trans ((c_s_ne (by omega)).trans ((c_s_ne (by omega)).trans ((c_s_ne (by omega)).trans ((c_s_ne (by omega)).trans ((c_s_ne (by omega)).trans ((c_s_ne (by omega)).trans (rfl))))))))
theorem r_Ma_hd {i : Nat} {g : Nat → c_C} : r_Ma i g i = .inl (5, (((([.inl 0, .inl 0, .inr none, .inr none, .inr none, .inr none, .inr none, .inr none, .inr none].set 5 (.inr (some (i + 1)))).set 6 (.inr (some (i + 2)))).set 7 (.inr (some (i + 3)))).set 8 (.inr (some (i + 4))))) := by
  unfold r_Ma
  exact (c_s_eq _ _ _)
set_option maxRecDepth 20000 in
set_option maxHeartbeats 8000000 in
theorem k_Ma_a {N B i a n : Nat} {g : Nat → c_C} (hg : g i = .inl (5, [.inl 0, .inl 0, .inr none, .inr none, .inr none, .inr none, .inr none, .inr none, .inr none])) (ea : a = B + i) (en : n = B + (i + 1)) : f_Ma_init N a (c_h B (i + 1) g) n = some (c_h B (i + 5) (r_Ma i g)) := by
  subst ea en
  unfold f_Ma_init r_Ma
  refine c_new_s (c := (.inr (0, 4, 0, c_0))) (by omega) rfl ?_
  refine c_sF_s (i := i) (w := (.inr (some (i + 1)))) (by omega) (by omega) ((c_s_ne (by omega)).trans (hg)) (Nat.le_of_ble_eq_true rfl) (c_rf (by omega)) ?_
  refine c_zD_s (i := (i + 1)) (by omega) (by omega) ?_
  refine c_new_s (c := (.inr (0, 4, 0, c_0))) (by omega) rfl ?_
  refine c_sF_s (i := i) (w := (.inr (some (i + 2)))) (by omega) (by omega) ((c_s_ne (by omega)).trans (c_s_eq _ _ _)) (Nat.le_of_ble_eq_true rfl) (c_rf (by omega)) ?_
  refine c_zD_s (i := (i + 2)) (by omega) (by omega) ?_
  refine c_new_s (c := (.inr (0, 4, 0, c_0))) (by omega) rfl ?_
  refine c_sF_s (i := i) (w := (.inr (some (i + 3)))) (by omega) (by omega) ((c_s_ne (by omega)).trans (c_s_eq _ _ _)) (Nat.le_of_ble_eq_true rfl) (c_rf (by omega)) ?_
  refine c_zD_s (i := (i + 3)) (by omega) (by omega) ?_
  refine c_new_s (c := (.inr (0, 4, 0, c_0))) (by omega) rfl ?_
  refine c_sF_s (i := i) (w := (.inr (some (i + 4)))) (by omega) (by omega) ((c_s_ne (by omega)).trans (c_s_eq _ _ _)) (Nat.le_of_ble_eq_true rfl) (c_rf (by omega)) ?_
  refine c_zD_s (i := (i + 4)) (by omega) (by omega) ?_
  rfl
def r_Ed (i : Nat) (g : Nat → c_C) : Nat → c_C := (c_s (r_Row 60 (i + 14) (c_s (c_s (r_Ma (i + 9) (c_s (c_s (r_Row 200 (i + 7) (c_s (c_s (r_Row 60 (i + 5) (c_s (c_s (r_Row 60 (i + 3) (c_s (c_s (r_Row 600 (i + 1) (c_s g (i + 1) (.inl (10, [.inr none, .inl 0])))) i (.inl (3, ([.inr none, .inr none, .inr none, .inl 0, .inl 0, .inl 0, .inl 0, .inr none, .inr none, .inr none, .inr none, .inr none, .inl 0, .inl 0, .inl 0, .inl 0, .inl 0].set 0 (.inr (some (i + 1))))))) (i + 3) (.inl (10, [.inr none, .inl 0])))) i (.inl (3, (([.inr none, .inr none, .inr none, .inl 0, .inl 0, .inl 0, .inl 0, .inr none, .inr none, .inr none, .inr none, .inr none, .inl 0, .inl 0, .inl 0, .inl 0, .inl 0].set 0 (.inr (some (i + 1)))).set 1 (.inr (some (i + 3))))))) (i + 5) (.inl (10, [.inr none, .inl 0])))) i (.inl (3, ((([.inr none, .inr none, .inr none, .inl 0, .inl 0, .inl 0, .inl 0, .inr none, .inr none, .inr none, .inr none, .inr none, .inl 0, .inl 0, .inl 0, .inl 0, .inl 0].set 0 (.inr (some (i + 1)))).set 1 (.inr (some (i + 3)))).set 2 (.inr (some (i + 5))))))) (i + 7) (.inl (10, [.inr none, .inl 0])))) i (.inl (3, (((([.inr none, .inr none, .inr none, .inl 0, .inl 0, .inl 0, .inl 0, .inr none, .inr none, .inr none, .inr none, .inr none, .inl 0, .inl 0, .inl 0, .inl 0, .inl 0].set 0 (.inr (some (i + 1)))).set 1 (.inr (some (i + 3)))).set 2 (.inr (some (i + 5)))).set 7 (.inr (some (i + 7))))))) (i + 9) (.inl (5, [.inl 0, .inl 0, .inr none, .inr none, .inr none, .inr none, .inr none, .inr none, .inr none])))) i (.inl (3, ((((([.inr none, .inr none, .inr none, .inl 0, .inl 0, .inl 0, .inl 0, .inr none, .inr none, .inr none, .inr none, .inr none, .inl 0, .inl 0, .inl 0, .inl 0, .inl 0].set 0 (.inr (some (i + 1)))).set 1 (.inr (some (i + 3)))).set 2 (.inr (some (i + 5)))).set 7 (.inr (some (i + 7)))).set 8 (.inr (some (i + 9))))))) (i + 14) (.inl (10, [.inr none, .inl 0])))) i (.inl (3, (((((([.inr none, .inr none, .inr none, .inl 0, .inl 0, .inl 0, .inl 0, .inr none, .inr none, .inr none, .inr none, .inr none, .inl 0, .inl 0, .inl 0, .inl 0, .inl 0].set 0 (.inr (some (i + 1)))).set 1 (.inr (some (i + 3)))).set 2 (.inr (some (i + 5)))).set 7 (.inr (some (i + 7)))).set 8 (.inr (some (i + 9)))).set 9 (.inr (some (i + 14)))))))
theorem r_Ed_lo {i j : Nat} {g : Nat → c_C} (h : j < i) : r_Ed i g j = g j := by
  unfold r_Ed
  exact (c_s_ne (by omega)).trans ((r_Row_lo (by omega)).trans ((c_s_ne (by omega)).trans ((c_s_ne (by omega)).trans ((r_Ma_lo (by omega)).trans ((c_s_ne (by omega)).trans ((c_s_ne (by omega)).trans ((r_Row_lo (by omega)).trans ((c_s_ne (by omega)).trans ((c_s_ne (by omega)).trans ((r_Row_lo (by omega)).trans ((c_s_ne (by omega)).trans ((c_s_ne (by omega)).trans ((r_Row_lo (by omega)).trans ((c_s_ne (by omega)).trans ((c_s_ne (by omega)).trans ((r_Row_lo (by omega)).trans ((c_s_ne (by omega)).trans (rfl))))))))))))))))))
theorem r_Ed_hd {i : Nat} {g : Nat → c_C} : r_Ed i g i = .inl (3, (((((([.inr none, .inr none, .inr none, .inl 0, .inl 0, .inl 0, .inl 0, .inr none, .inr none, .inr none, .inr none, .inr none, .inl 0, .inl 0, .inl 0, .inl 0, .inl 0].set 0 (.inr (some (i + 1)))).set 1 (.inr (some (i + 3)))).set 2 (.inr (some (i + 5)))).set 7 (.inr (some (i + 7)))).set 8 (.inr (some (i + 9)))).set 9 (.inr (some (i + 14))))) := by
  unfold r_Ed
  exact (c_s_eq _ _ _)
set_option maxRecDepth 20000 in
set_option maxHeartbeats 8000000 in
theorem k_Ed_a {N B i a n : Nat} {g : Nat → c_C} (hg : g i = .inl (3, [.inr none, .inr none, .inr none, .inl 0, .inl 0, .inl 0, .inl 0, .inr none, .inr none, .inr none, .inr none, .inr none, .inl 0, .inl 0, .inl 0, .inl 0, .inl 0])) (ea : a = B + i) (en : n = B + (i + 1)) : f_Ed_init N a (c_h B (i + 1) g) n = some (c_h B (i + 16) (r_Ed i g)) := by
  subst ea en
  unfold f_Ed_init r_Ed
  refine c_new_s (c := (.inl (10, [.inr none, .inl 0]))) (by omega) rfl ?_
  refine c_zD_s (i := (i + 1)) (by omega) (by omega) ?_
  refine c_call_s (k_Row_a hP_600 (c_s_eq _ _ _) (by omega) (by omega)) ?_
  refine c_sF_s (i := i) (w := (.inr (some (i + 1)))) (by omega) (by omega) ((r_Row_lo (by omega)).trans ((c_s_ne (by omega)).trans (hg))) (Nat.le_of_ble_eq_true rfl) (c_rf (by omega)) ?_
  refine c_zD_s (i := (i + 2)) (by omega) (by omega) ?_
  refine c_new_s (c := (.inl (10, [.inr none, .inl 0]))) (by omega) rfl ?_
  refine c_zD_s (i := (i + 3)) (by omega) (by omega) ?_
  refine c_call_s (k_Row_a hP_60 (c_s_eq _ _ _) (by omega) (by omega)) ?_
  refine c_sF_s (i := i) (w := (.inr (some (i + 3)))) (by omega) (by omega) ((r_Row_lo (by omega)).trans ((c_s_ne (by omega)).trans (c_s_eq _ _ _))) (Nat.le_of_ble_eq_true rfl) (c_rf (by omega)) ?_
  refine c_zD_s (i := (i + 4)) (by omega) (by omega) ?_
  refine c_new_s (c := (.inl (10, [.inr none, .inl 0]))) (by omega) rfl ?_
  refine c_zD_s (i := (i + 5)) (by omega) (by omega) ?_
  refine c_call_s (k_Row_a hP_60 (c_s_eq _ _ _) (by omega) (by omega)) ?_
  refine c_sF_s (i := i) (w := (.inr (some (i + 5)))) (by omega) (by omega) ((r_Row_lo (by omega)).trans ((c_s_ne (by omega)).trans (c_s_eq _ _ _))) (Nat.le_of_ble_eq_true rfl) (c_rf (by omega)) ?_
  refine c_zD_s (i := (i + 6)) (by omega) (by omega) ?_
  refine c_new_s (c := (.inl (10, [.inr none, .inl 0]))) (by omega) rfl ?_
  refine c_zD_s (i := (i + 7)) (by omega) (by omega) ?_
  refine c_call_s (k_Row_a hP_200 (c_s_eq _ _ _) (by omega) (by omega)) ?_
  refine c_sF_s (i := i) (w := (.inr (some (i + 7)))) (by omega) (by omega) ((r_Row_lo (by omega)).trans ((c_s_ne (by omega)).trans (c_s_eq _ _ _))) (Nat.le_of_ble_eq_true rfl) (c_rf (by omega)) ?_
  refine c_zD_s (i := (i + 8)) (by omega) (by omega) ?_
  refine c_new_s (c := (.inl (5, [.inl 0, .inl 0, .inr none, .inr none, .inr none, .inr none, .inr none, .inr none, .inr none]))) (by omega) rfl ?_
  refine c_zD_s (i := (i + 9)) (by omega) (by omega) ?_
  refine c_call_s (k_Ma_a (c_s_eq _ _ _) (by omega) (by omega)) ?_
  refine c_sF_s (i := i) (w := (.inr (some (i + 9)))) (by omega) (by omega) ((r_Ma_lo (by omega)).trans ((c_s_ne (by omega)).trans (c_s_eq _ _ _))) (Nat.le_of_ble_eq_true rfl) (c_rf (by omega)) ?_
  refine c_zD_s (i := (i + 13)) (by omega) (by omega) ?_
  refine c_new_s (c := (.inl (10, [.inr none, .inl 0]))) (by omega) rfl ?_
  refine c_zD_s (i := (i + 14)) (by omega) (by omega) ?_
  refine c_call_s (k_Row_a hP_60 (c_s_eq _ _ _) (by omega) (by omega)) ?_
  refine c_sF_s (i := i) (w := (.inr (some (i + 14)))) (by omega) (by omega) ((r_Row_lo (by omega)).trans ((c_s_ne (by omega)).trans (c_s_eq _ _ _))) (Nat.le_of_ble_eq_true rfl) (c_rf (by omega)) ?_
  refine c_zD_s (i := (i + 15)) (by omega) (by omega) ?_
  rfl
def r_It (i : Nat) (g : Nat → c_C) : Nat → c_C := (c_s (c_s (c_s (c_s (c_s (c_s (c_s (c_s g (i + 1) (.inr (0, 240, 0, c_0))) i (.inl (4, ([.inr none, .inr none, .inr none, .inr none, .inl 0].set 0 (.inr (some (i + 1))))))) (i + 2) (.inr (0, 240, 0, c_0))) i (.inl (4, (([.inr none, .inr none, .inr none, .inr none, .inl 0].set 0 (.inr (some (i + 1)))).set 1 (.inr (some (i + 2))))))) (i + 3) (.inr (2, 240, 1, c_0))) i (.inl (4, ((([.inr none, .inr none, .inr none, .inr none, .inl 0].set 0 (.inr (some (i + 1)))).set 1 (.inr (some (i + 2)))).set 2 (.inr (some (i + 3))))))) (i + 4) (.inr (2, 240, 1, c_0))) i (.inl (4, (((([.inr none, .inr none, .inr none, .inr none, .inl 0].set 0 (.inr (some (i + 1)))).set 1 (.inr (some (i + 2)))).set 2 (.inr (some (i + 3)))).set 3 (.inr (some (i + 4)))))))
theorem r_It_lo {i j : Nat} {g : Nat → c_C} (h : j < i) : r_It i g j = g j := by
  unfold r_It
  exact (c_s_ne (by omega)).trans ((c_s_ne (by omega)).trans ((c_s_ne (by omega)).trans ((c_s_ne (by omega)).trans ((c_s_ne (by omega)).trans ((c_s_ne (by omega)).trans ((c_s_ne (by omega)).trans ((c_s_ne (by omega)).trans (rfl))))))))
theorem r_It_hd {i : Nat} {g : Nat → c_C} : r_It i g i = .inl (4, (((([.inr none, .inr none, .inr none, .inr none, .inl 0].set 0 (.inr (some (i + 1)))).set 1 (.inr (some (i + 2)))).set 2 (.inr (some (i + 3)))).set 3 (.inr (some (i + 4))))) := by
  unfold r_It
  exact (c_s_eq _ _ _)
set_option maxRecDepth 20000 in
set_option maxHeartbeats 8000000 in
theorem k_It_a {N B i a n : Nat} {g : Nat → c_C} (hg : g i = .inl (4, [.inr none, .inr none, .inr none, .inr none, .inl 0])) (ea : a = B + i) (en : n = B + (i + 1)) : f_It_init N a (c_h B (i + 1) g) n = some (c_h B (i + 5) (r_It i g)) := by
  subst ea en
  unfold f_It_init r_It
  refine c_new_s (c := (.inr (0, 240, 0, c_0))) (by omega) rfl ?_
  refine c_sF_s (i := i) (w := (.inr (some (i + 1)))) (by omega) (by omega) ((c_s_ne (by omega)).trans (hg)) (Nat.le_of_ble_eq_true rfl) (c_rf (by omega)) ?_
  refine c_zD_s (i := (i + 1)) (by omega) (by omega) ?_
  refine c_new_s (c := (.inr (0, 240, 0, c_0))) (by omega) rfl ?_
  refine c_sF_s (i := i) (w := (.inr (some (i + 2)))) (by omega) (by omega) ((c_s_ne (by omega)).trans (c_s_eq _ _ _)) (Nat.le_of_ble_eq_true rfl) (c_rf (by omega)) ?_
  refine c_zD_s (i := (i + 2)) (by omega) (by omega) ?_
  refine c_new_s (c := (.inr (2, 240, 1, c_0))) (by omega) rfl ?_
  refine c_sF_s (i := i) (w := (.inr (some (i + 3)))) (by omega) (by omega) ((c_s_ne (by omega)).trans (c_s_eq _ _ _)) (Nat.le_of_ble_eq_true rfl) (c_rf (by omega)) ?_
  refine c_zD_s (i := (i + 3)) (by omega) (by omega) ?_
  refine c_new_s (c := (.inr (2, 240, 1, c_0))) (by omega) rfl ?_
  refine c_sF_s (i := i) (w := (.inr (some (i + 4)))) (by omega) (by omega) ((c_s_ne (by omega)).trans (c_s_eq _ _ _)) (Nat.le_of_ble_eq_true rfl) (c_rf (by omega)) ?_
  refine c_zD_s (i := (i + 4)) (by omega) (by omega) ?_
  rfl
def r_Pt (i : Nat) (g : Nat → c_C) : Nat → c_C := g
theorem r_Pt_lo {i j : Nat} {g : Nat → c_C} (h : j < i) : r_Pt i g j = g j := by
  unfold r_Pt
  exact rfl
theorem r_Pt_hd {i : Nat} {g : Nat → c_C} (hg : g i = .inl (7, [.inl 0, .inl 0, .inl 0, .inl 0, .inl 0, .inl 0, .inl 0])) : r_Pt i g i = .inl (7, [.inl 0, .inl 0, .inl 0, .inl 0, .inl 0, .inl 0, .inl 0]) := by
  unfold r_Pt
  exact (hg)
set_option maxRecDepth 20000 in
set_option maxHeartbeats 8000000 in
theorem k_Pt_a {N B i a n : Nat} {g : Nat → c_C} (hg : g i = .inl (7, [.inl 0, .inl 0, .inl 0, .inl 0, .inl 0, .inl 0, .inl 0])) (ea : a = B + i) (en : n = B + (i + 1)) : f_Pt_init N a (c_h B (i + 1) g) n = some (c_h B (i + 1) (r_Pt i g)) := by
  subst ea en
  unfold f_Pt_init r_Pt
  skip
  rfl
def r_Addr (i : Nat) (g : Nat → c_C) : Nat → c_C := (c_s (r_Pt (i + 1) (c_s g (i + 1) (.inl (7, [.inl 0, .inl 0, .inl 0, .inl 0, .inl 0, .inl 0, .inl 0])))) i (.inl (0, ([.inr none, .inl 0, .inl 0].set 0 (.inr (some (i + 1)))))))
theorem r_Addr_lo {i j : Nat} {g : Nat → c_C} (h : j < i) : r_Addr i g j = g j := by
  unfold r_Addr
  exact (c_s_ne (by omega)).trans ((r_Pt_lo (by omega)).trans ((c_s_ne (by omega)).trans (rfl)))
theorem r_Addr_hd {i : Nat} {g : Nat → c_C} : r_Addr i g i = .inl (0, ([.inr none, .inl 0, .inl 0].set 0 (.inr (some (i + 1))))) := by
  unfold r_Addr
  exact (c_s_eq _ _ _)
set_option maxRecDepth 20000 in
set_option maxHeartbeats 8000000 in
theorem k_Addr_a {N B i a n : Nat} {g : Nat → c_C} (hg : g i = .inl (0, [.inr none, .inl 0, .inl 0])) (ea : a = B + i) (en : n = B + (i + 1)) : f_Addr_init N a (c_h B (i + 1) g) n = some (c_h B (i + 2) (r_Addr i g)) := by
  subst ea en
  unfold f_Addr_init r_Addr
  refine c_new_s (c := (.inl (7, [.inl 0, .inl 0, .inl 0, .inl 0, .inl 0, .inl 0, .inl 0]))) (by omega) rfl ?_
  refine c_zD_s (i := (i + 1)) (by omega) (by omega) ?_
  refine c_call_s (k_Pt_a (c_s_eq _ _ _) (by omega) (by omega)) ?_
  refine c_sF_s (i := i) (w := (.inr (some (i + 1)))) (by omega) (by omega) ((r_Pt_lo (by omega)).trans ((c_s_ne (by omega)).trans (hg))) (Nat.le_of_ble_eq_true rfl) (c_rf (by omega)) ?_
  refine c_zD_s (i := (i + 1)) (by omega) (by omega) ?_
  rfl
def r_Cmd (i : Nat) (g : Nat → c_C) : Nat → c_C := (c_s (r_Pt (i + 5) (c_s (c_s (r_Addr (i + 3) (c_s (c_s (r_Addr (i + 1) (c_s g (i + 1) (.inl (0, [.inr none, .inl 0, .inl 0])))) i (.inl (1, ([.inr none, .inr none, .inr none, .inl 0, .inl 0, .inl 0, .inl 0, .inl 0, .inl 0, .inl 0, .inl 0, .inl 0, .inl 0, .inl 0, .inl 0, .inl 0].set 0 (.inr (some (i + 1))))))) (i + 3) (.inl (0, [.inr none, .inl 0, .inl 0])))) i (.inl (1, (([.inr none, .inr none, .inr none, .inl 0, .inl 0, .inl 0, .inl 0, .inl 0, .inl 0, .inl 0, .inl 0, .inl 0, .inl 0, .inl 0, .inl 0, .inl 0].set 0 (.inr (some (i + 1)))).set 1 (.inr (some (i + 3))))))) (i + 5) (.inl (7, [.inl 0, .inl 0, .inl 0, .inl 0, .inl 0, .inl 0, .inl 0])))) i (.inl (1, ((([.inr none, .inr none, .inr none, .inl 0, .inl 0, .inl 0, .inl 0, .inl 0, .inl 0, .inl 0, .inl 0, .inl 0, .inl 0, .inl 0, .inl 0, .inl 0].set 0 (.inr (some (i + 1)))).set 1 (.inr (some (i + 3)))).set 2 (.inr (some (i + 5)))))))
theorem r_Cmd_lo {i j : Nat} {g : Nat → c_C} (h : j < i) : r_Cmd i g j = g j := by
  unfold r_Cmd
  exact (c_s_ne (by omega)).trans ((r_Pt_lo (by omega)).trans ((c_s_ne (by omega)).trans ((c_s_ne (by omega)).trans ((r_Addr_lo (by omega)).trans ((c_s_ne (by omega)).trans ((c_s_ne (by omega)).trans ((r_Addr_lo (by omega)).trans ((c_s_ne (by omega)).trans (rfl)))))))))
theorem r_Cmd_hd {i : Nat} {g : Nat → c_C} : r_Cmd i g i = .inl (1, ((([.inr none, .inr none, .inr none, .inl 0, .inl 0, .inl 0, .inl 0, .inl 0, .inl 0, .inl 0, .inl 0, .inl 0, .inl 0, .inl 0, .inl 0, .inl 0].set 0 (.inr (some (i + 1)))).set 1 (.inr (some (i + 3)))).set 2 (.inr (some (i + 5))))) := by
  unfold r_Cmd
  exact (c_s_eq _ _ _)
set_option maxRecDepth 20000 in
set_option maxHeartbeats 8000000 in
theorem k_Cmd_a {N B i a n : Nat} {g : Nat → c_C} (hg : g i = .inl (1, [.inr none, .inr none, .inr none, .inl 0, .inl 0, .inl 0, .inl 0, .inl 0, .inl 0, .inl 0, .inl 0, .inl 0, .inl 0, .inl 0, .inl 0, .inl 0])) (ea : a = B + i) (en : n = B + (i + 1)) : f_Cmd_init N a (c_h B (i + 1) g) n = some (c_h B (i + 6) (r_Cmd i g)) := by
  subst ea en
  unfold f_Cmd_init r_Cmd
  refine c_new_s (c := (.inl (0, [.inr none, .inl 0, .inl 0]))) (by omega) rfl ?_
  refine c_zD_s (i := (i + 1)) (by omega) (by omega) ?_
  refine c_call_s (k_Addr_a (c_s_eq _ _ _) (by omega) (by omega)) ?_
  refine c_sF_s (i := i) (w := (.inr (some (i + 1)))) (by omega) (by omega) ((r_Addr_lo (by omega)).trans ((c_s_ne (by omega)).trans (hg))) (Nat.le_of_ble_eq_true rfl) (c_rf (by omega)) ?_
  refine c_zD_s (i := (i + 2)) (by omega) (by omega) ?_
  refine c_new_s (c := (.inl (0, [.inr none, .inl 0, .inl 0]))) (by omega) rfl ?_
  refine c_zD_s (i := (i + 3)) (by omega) (by omega) ?_
  refine c_call_s (k_Addr_a (c_s_eq _ _ _) (by omega) (by omega)) ?_
  refine c_sF_s (i := i) (w := (.inr (some (i + 3)))) (by omega) (by omega) ((r_Addr_lo (by omega)).trans ((c_s_ne (by omega)).trans (c_s_eq _ _ _))) (Nat.le_of_ble_eq_true rfl) (c_rf (by omega)) ?_
  refine c_zD_s (i := (i + 4)) (by omega) (by omega) ?_
  refine c_new_s (c := (.inl (7, [.inl 0, .inl 0, .inl 0, .inl 0, .inl 0, .inl 0, .inl 0]))) (by omega) rfl ?_
  refine c_zD_s (i := (i + 5)) (by omega) (by omega) ?_
  refine c_call_s (k_Pt_a (c_s_eq _ _ _) (by omega) (by omega)) ?_
  refine c_sF_s (i := i) (w := (.inr (some (i + 5)))) (by omega) (by omega) ((r_Pt_lo (by omega)).trans ((c_s_ne (by omega)).trans (c_s_eq _ _ _))) (Nat.le_of_ble_eq_true rfl) (c_rf (by omega)) ?_
  refine c_zD_s (i := (i + 5)) (by omega) (by omega) ?_
  rfl
