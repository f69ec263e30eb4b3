/-! contents: the reference's pattern, step by step -/
section Q4
variable {h h' h2 : z_H} {v0 : Nat} {b q n : Int32} {A : x_PS} {t : Int32 → Int32}
theorem x_ev_g {k g : Int32} (h : ¬ x_ek k = 0) : x_ev k g = x_eg k g := by
  unfold x_ev x_eg
  rcases x_ek_c (k := k) with ⟨e, -⟩ | ⟨e, h1⟩ | ⟨e, h1⟩ | ⟨e, h1, h2, h3⟩
  · exact absurd e h
  · rw [if_pos h1, if_pos h1]
  · have h2 : ¬ k = 40 := by rw [h1]; decide
    rw [if_neg h2, if_neg h2, if_pos h1, if_pos h1]
  · rw [if_neg h1, if_neg h1, if_neg h2, if_neg h2, if_pos h3]
theorem x_ev_0 {k g : Int32} (h : x_ek k = 0) : x_ev k g = k ∧ x_er k = 0 := by
  unfold x_ek at h
  unfold x_ev x_er
  by_cases h1 : k = 40
  · rw [if_pos h1] at h; exact absurd h (by decide)
  rw [if_neg h1] at h ⊢
  rw [if_neg h1]
  by_cases h2 : k = 41
  · rw [if_pos h2] at h; exact absurd h (by decide)
  rw [if_neg h2] at h ⊢
  rw [if_neg h2]
  by_cases h3 : 49 ≤ k ∧ k ≤ 51
  · rw [if_pos h3] at h; exact absurd h (by decide)
  rw [if_neg h3, if_neg h3]
  exact ⟨rfl, rfl⟩
theorem r_lo (hA : r_PA h v0 q b A) : b ≤ r_IX h v0 ∧ (0 < xi A → b ≤ r_IX h v0 - 1) := by
  obtain ⟨⟨a1, a2, a3, -⟩, ⟨⟨b0, i0, i1, b1⟩, -⟩, -⟩ := hA
  rw [a3]
  exact ⟨by lia, fun _ => by lia⟩
theorem r_FBadd (hA : r_PA h v0 q b A) (n1 : n ≤ 240) (hc : vI h v0 41 < n) (e1 : ∀ j, 0 ≤ j → ¬ j = r_IX h v0 → vA h' (v0 + 26) j = vA h (v0 + 26) j) (e2 : ∀ j, 0 ≤ j → ¬ j = r_IX h v0 → vA h' (v0 + 27) j = vA h (v0 + 27) j) (e3 : ∀ j, 0 ≤ j → ¬ j = r_IX h v0 → vA h' (v0 + 29) j = vA h (v0 + 29) j) (e4 : ∀ j, 0 ≤ j → ¬ j = r_IX h v0 → vL h' (v0 + 32) j = vL h (v0 + 32) j) (e5 : ∀ j, 0 ≤ j → ¬ j = r_IX h v0 → vL h' (v0 + 33) j = vL h (v0 + 33) j) : r_FB h h' v0 b (260 * vI h v0 42 + 260) ∧ r_FB h h' v0 (r_IX h v0) (260 * vI h v0 42 + 260) :=
  ⟨r_FB_e e1 e2 e3 e4 e5 (r_lo hA).1 (r_bnd hA n1 hc).2.2.2.2.1, r_FB_e e1 e2 e3 e4 e5 (Int32.le_refl _) (r_bnd hA n1 hc).2.2.2.2.1⟩
theorem r_FBstar (hA : r_PA h v0 q b A) (n1 : n ≤ 240) (hc : vI h v0 41 < n) (m1 : ¬ vI h v0 50 = 0) (e1 : vA h' (v0 + 26) = vA h (v0 + 26)) (e2 : vA h' (v0 + 27) = vA h (v0 + 27)) (e4 : vL h' (v0 + 32) = vL h (v0 + 32)) (e5 : vL h' (v0 + 33) = vL h (v0 + 33)) (e6 : ∀ j, 0 ≤ j → ¬ j = r_IX h v0 - 1 → vA h' (v0 + 29) j = vA h (v0 + 29) j) : r_FB h h' v0 b (260 * vI h v0 42 + 260) := by
  have i0 := hA.2.2.1.2.2.2 m1
  have lo := (r_lo hA).2 i0
  have hi := (r_bnd hA n1 hc).2.2.2.2.1
  have i9 := (r_bnd hA n1 hc).1
  have hb := hA.2.1.1
  have a3 := hA.1.2.2.1
  refine r_FB_e (fun j _ _ => by rw [e1]) (fun j _ _ => by rw [e2]) e6 (fun j _ _ => by rw [e4]) (fun j _ _ => by rw [e5]) lo ?_
  obtain ⟨b0, i0', i1, b1⟩ := hb
  rw [a3] at hi ⊢
  refine Int32.lt_trans ?_ hi
  lia
theorem r_esc (hA : r_PA h v0 q b A) (n1 : n ≤ 240) (hc : vI h v0 41 < n) (q1 : vI h' v0 41 = vI h v0 41 + 2) (q2 : vI h' v0 44 = (if x_lk t n (vI h v0 41 + 1) = 40 then vI h v0 44 + 1 else vI h v0 44)) (q3 : vA h' (v0 + 21) (vI h v0 42) = vA h (v0 + 21) (vI h v0 42) + 1) (q0 : vI h' v0 42 = vI h v0 42) (q4 : vI h' v0 45 = vI h v0 45) (q5 : vA h' (v0 + 31) = vA h (v0 + 31)) (q6 : vA h' (v0 + 23) = vA h (v0 + 23)) (F : r_FB h h' v0 (r_IX h v0) (260 * vI h v0 42 + 260)) (e1 : vA h' (v0 + 26) (r_IX h v0) = x_er (x_lk t n (vI h v0 41 + 1))) (e2 : vA h' (v0 + 27) (r_IX h v0) = x_ev (x_lk t n (vI h v0 41 + 1)) (vI h v0 44)) (e4 : vA h' (v0 + 29) (r_IX h v0) = 0) : r_PA h' v0 q b (x_esc t n A) := by
  have a1 := hA.1.1
  have a2 := hA.1.2.1
  have hp : vI h v0 41 < vI h v0 41 + 2 := by lia
  rw [a1] at q1 q2 e1 e2
  rw [a2] at q2 e2
  refine r_add hA n1 hc (p := xp A + 2) (by rw [← a1]; exact hp) q1 q2 q3 q0 q4 q5 q6 F (r_kd_e e1) (fun z => by rw [e2]; exact x_ev_g z) (fun z c kc => ?_) e4
  have w := x_ev_0 (g := xg A) z
  unfold r_tb
  rw [e1, e2, w.1, w.2, if_neg (by decide), if_pos rfl]
  exact decide_eq_decide.mpr eq_comm
theorem r_pln {k v : Int32} (hA : r_PA h v0 q b A) (n1 : n ≤ 240) (hc : vI h v0 41 < n) (kv : (k = 1 ∧ x_lk t n (vI h v0 41) = 46) ∨ (k = 0 ∧ ¬ x_lk t n (vI h v0 41) = 46)) (hv : v = x_lk t n (vI h v0 41)) (q1 : vI h' v0 41 = vI h v0 41 + 1) (q2 : vI h' v0 44 = vI h v0 44) (q3 : vA h' (v0 + 21) (vI h v0 42) = vA h (v0 + 21) (vI h v0 42) + 1) (q0 : vI h' v0 42 = vI h v0 42) (q4 : vI h' v0 45 = vI h v0 45) (q5 : vA h' (v0 + 31) = vA h (v0 + 31)) (q6 : vA h' (v0 + 23) = vA h (v0 + 23)) (F : r_FB h h' v0 (r_IX h v0) (260 * vI h v0 42 + 260)) (e1 : vA h' (v0 + 26) (r_IX h v0) = k) (e2 : vA h' (v0 + 27) (r_IX h v0) = v) (e4 : vA h' (v0 + 29) (r_IX h v0) = 0) : r_PA h' v0 q b (x_pln t n A) := by
  have a1 := hA.1.1
  have a2 := hA.1.2.1
  have hp : vI h v0 41 < vI h v0 41 + 1 := by lia
  subst hv
  rw [a1] at q1 kv e2
  rw [a2] at q2
  refine r_add hA n1 hc (p := xp A + 1) (by rw [← a1]; exact hp) q1 q2 q3 q0 q4 q5 q6 F ?_ (fun z => absurd rfl z) (fun z c kc => ?_) e4
  · unfold r_kd
    rw [e1]
    rcases kv with ⟨e, -⟩ | ⟨e, -⟩ <;> rw [e] <;> decide
  · unfold r_tb
    rw [e1, e2]
    unfold x_pc
    rcases kv with ⟨e, w⟩ | ⟨e, w⟩
    · rw [e, if_pos rfl]; simp [w]
    · rw [e, if_neg (by decide), if_pos rfl]
      simp only [w, decide_false, Bool.false_or]
      exact decide_eq_decide.mpr eq_comm
theorem r_sett (hA : r_PA h v0 q b A) (n1 : n ≤ 240) (hc : vI h v0 41 < n) (hp : vI h v0 41 < vI h' v0 41) (q1 : x_set t n (x_sa t n (vI h v0 41)) = some (vI h' v0 41)) (q2 : vI h' v0 44 = vI h v0 44) (q3 : vA h' (v0 + 21) (vI h v0 42) = vA h (v0 + 21) (vI h v0 42) + 1) (q0 : vI h' v0 42 = vI h v0 42) (q4 : vI h' v0 45 = vI h v0 45) (q5 : vA h' (v0 + 31) = vA h (v0 + 31)) (q6 : vA h' (v0 + 23) = vA h (v0 + 23)) (F : r_FB h h' v0 (r_IX h v0) (260 * vI h v0 42 + 260)) (e1 : vA h' (v0 + 26) (r_IX h v0) = 2) (e3 : ∀ c, x_kc c → x_mr (vL h' (v0 + 32) (r_IX h v0)) (vL h' (v0 + 33) (r_IX h v0)) c = x_setS t n (vI h v0 41) c) (e4 : vA h' (v0 + 29) (r_IX h v0) = 0) : r_PA h' v0 q b (x_sset t n A) := by
  have a1 := hA.1.1
  have a2 := hA.1.2.1
  have q1' := q1
  rw [a1] at q1 e3
  rw [a2] at q2
  refine r_add hA n1 hc (p := (x_set t n (x_sa t n (xp A))).getD 0) (by rw [q1]; exact hp) (by rw [q1]; rfl) q2 q3 q0 q4 q5 q6 F ?_ (fun z => absurd rfl z) (fun z c kc => ?_) e4
  · unfold r_kd
    rw [e1]
    decide
  · unfold r_tb
    rw [e1, if_neg (by decide), if_neg (by decide)]
    exact e3 c kc
theorem r_fin (hA : r_PA h v0 q b A) (q2 : vA h' (v0 + 25) q = vI h v0 44) (q5 : vA h' (v0 + 31) = vA h (v0 + 31)) (q6 : vA h' (v0 + 23) = vA h (v0 + 23)) (q7 : vA h' (v0 + 24) q = r_IX h v0) (F : r_FB h h' v0 (r_IX h v0) (260 * vI h v0 42 + 260)) : r_PF h' v0 q b A := by
  obtain ⟨⟨a1, a2, a3, a4, a5, a6⟩, ⟨⟨b0, i0, i1, b1⟩, -⟩, -, I⟩ := hA
  rw [a3] at q7 F
  exact ⟨⟨q2.trans a2, by rw [q5]; exact a5, by rw [q6]; exact a6, q7⟩, ⟨b0, i0, i1, b1⟩, r_IT_f I b0 b1 i1 F (Int32.le_refl _)⟩
theorem r_lt (hA : r_PA h v0 q b A) (n1 : n ≤ 240) (c : x_lk t n (vI h v0 41) = 47) : (0 ≤ vA h (v0 + 21) (vI h v0 42) ∧ vA h (v0 + 21) (vI h v0 42) < vI h v0 41 + 1) ∧ vI h v0 41 + 1 ≤ n := by
  have hc : vI h v0 41 < n := x_lkn (by rw [c]; decide)
  obtain ⟨i9, c3, c4, hf, ib, c5⟩ := r_bnd hA n1 hc
  refine ⟨⟨c3, ?_⟩, ?_⟩ <;> lia
end Q4
