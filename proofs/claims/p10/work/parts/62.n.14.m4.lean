/-! matching, class side: the two loops of a place -/
theorem x_oo1 {o : Int32} (a : 0 ≤ o) (b : o ≤ 3) : o ≤ o + 1 := by lia
theorem x_w_kp {tx : Int32 → Int32} {n : Int32} {kd gp : Int32 → Int32} {tk : Int32 → Int32 → Int32} : ∀ (c : Nat) (i p o l : Int32) (gb ge : Int32 → Int32) (q : Int32) (b e : Int32 → Int32), x_wf kd gp c i o l → x_w tx n kd gp tk c i p gb ge = some (q, b, e) → x_ag o gb b ∧ x_ag l ge e ∧ o ≤ (x_oc kd c i o l).1 ∧ l ≤ (x_oc kd c i o l).2 := by
  intro c
  induction c with
  | zero =>
    intro i p o l gb ge q b e wf w
    rw [x_w] at w
    cases w
    exact ⟨x_ag_r, x_ag_r, Int32.le_refl _, Int32.le_refl _⟩
  | succ c ih =>
    intro i p o l gb ge q b e wf w
    have w0 := x_wf0 wf
    obtain ⟨-, w1, w2, w3, w4⟩ := wf
    rw [x_w] at w
    rw [x_oc]
    by_cases k1 : kd i = 1
    · rw [if_pos k1] at w ⊢
      obtain ⟨gg, wf⟩ := w1 k1
      have z := ih (i + 1) p (o + 1) l _ _ q b e wf w
      exact ⟨x_ag_dn (fun j _ => rfl) rfl gg (Int32.le_trans w0.1 w0.2.1) w0.2.2 z.1, z.2.1, Int32.le_trans (x_oo1 (Int32.le_trans w0.1 w0.2.1) w0.2.2) z.2.2.1, z.2.2.2⟩
    · rw [if_neg k1] at w ⊢
      by_cases k2 : kd i = 2
      · rw [if_pos k2] at w ⊢
        obtain ⟨gg, lo, wf⟩ := w2 k2
        have z := ih (i + 1) p o o _ _ q b e wf w
        exact ⟨z.1, x_ag_dn (fun j _ => rfl) lo gg w0.1 (Int32.le_trans w0.2.1 w0.2.2) z.2.1, z.2.2.1, Int32.le_trans w0.2.1 z.2.2.2⟩
      · rw [if_neg k2] at w ⊢
        by_cases k3 : kd i = 3
        · rw [if_pos k3] at w
          obtain ⟨⟨g1, gl⟩, wf⟩ := w3 k3
          by_cases s : x_sq tx n (gb (gp i)) (ge (gp i)) p
          · rw [x_cif_t s] at w
            exact ih (i + 1) _ o l _ _ q b e wf w
          · rw [x_cif_f s] at w; cases w
        · rw [if_neg k3] at w
          by_cases s : 0 ≤ p ∧ p < n ∧ tk i (tx p) = 1
          · rw [if_pos s] at w
            exact ih (i + 1) _ o l _ _ q b e (w4 k1 k2 k3) w
          · rw [if_neg s] at w; cases w
theorem x_ag_le {m m' : Int32} {f g : Int32 → Int32} (a : x_ag m f g) (h : m' ≤ m) : x_ag m' f g := fun j j1 j2 => a j j1 (Int32.le_trans j2 h)
theorem y_I_new {C : Int32 → Int32 → Int32 → (Int32 → Int32) → (Int32 → Int32) → Prop} {V V' : Int32 → Int32 → Prop} {st g k1 k2 y : Int32} {v0 : Nat} {h h' : z_H} {gb ge : Int32 → Int32} (I : y_I C V st g v0 h) (v : ∀ a b, V' a b → V a b ∨ (a = k1 ∧ b = k2)) (w : V' k1 k2) (lx : ∀ a b, V a b → a < k1 ∨ (a = k1 ∧ b ≤ k2)) (c : C k1 k2 y gb ge) (k0 : 0 ≤ k1) (k0' : 0 ≤ k2) (y0 : 0 ≤ y) (fn : ∀ e' gb' ge', C k1 k2 e' gb' ge' → e' = y) (gy : vI h v0 1 ≤ y) (u1 : vI h' v0 1 = y) (u0 : vI h' v0 0 = st) (u2 : x_ag g gb (vA h' (v0 + 1))) (u3 : x_ag g ge (vA h' (v0 + 2))) : y_I C V' st g v0 h' := by
  refine Or.inr ⟨k1, k2, y, gb, ge, ⟨k0, k0', w, c⟩, y0, u1, u0, u2, u3, ?_⟩
  intro a' b' e' gb' ge' a0 b0 vv cc
  rcases v a' b' vv with v1 | ⟨ea, eb⟩
  · have le : e' ≤ y := by
      rcases I with ⟨i1, i2⟩ | ⟨a, b, e, gb1, ge1, _, i1, i2, i3, i4, i5, i6⟩
      · exact absurd cc (i2 a' b' e' gb' ge' a0 b0 v1)
      · rw [i2] at gy
        rcases i6 a' b' e' gb' ge' a0 b0 v1 cc with q | q
        · exact Int32.le_of_lt (Int32.lt_of_lt_of_le q gy)
        · rw [q.1]; exact gy
    by_cases z : e' = y
    · exact Or.inr ⟨z, lx a' b' v1⟩
    · exact Or.inl (by lia)
  · subst ea; subst eb
    exact Or.inr ⟨fn _ _ _ cc, Or.inr ⟨rfl, Int32.le_refl _⟩⟩
theorem y_I_low {C : Int32 → Int32 → Int32 → (Int32 → Int32) → (Int32 → Int32) → Prop} {V V' : Int32 → Int32 → Prop} {st g k1 k2 y : Int32} {v0 : Nat} {h h' : z_H} (I : y_I C V st g v0 h) (v : ∀ a b, V' a b → V a b ∨ (a = k1 ∧ b = k2)) (w : ∀ a b, V a b → V' a b) (y0 : 0 ≤ y) (fn : ∀ e' gb' ge', C k1 k2 e' gb' ge' → e' = y) (gy : y < vI h v0 1) (c0 : vI h' v0 1 = vI h v0 1) (c1 : vI h' v0 0 = vI h v0 0) (c2 : vA h' (v0 + 1) = vA h (v0 + 1)) (c3 : vA h' (v0 + 2) = vA h (v0 + 2)) : y_I C V' st g v0 h' := by
  unfold y_I
  rw [c0, c1, c2, c3]
  rcases I with ⟨i1, i2⟩ | ⟨a, b, e, gb, ge, ⟨j1, j2, j3, j4⟩, i1, i2, i3, i4, i5, i6⟩
  · rw [i1] at gy
    exact absurd (Int32.lt_of_le_of_lt y0 gy) (by decide)
  · refine Or.inr ⟨a, b, e, gb, ge, ⟨j1, j2, w a b j3, j4⟩, i1, i2, i3, i4, i5, ?_⟩
    intro a' b' e' gb' ge' a0 b0 vv cc
    rcases v a' b' vv with v1 | ⟨ea, eb⟩
    · exact i6 a' b' e' gb' ge' a0 b0 v1 cc
    · subst ea; subst eb
      rw [fn _ _ _ cc, ← i2]
      exact Or.inl gy
/-- what a search reads stands as it did -/
def y_G (L : q_L) (π : Nat → Nat → Option Nat) (it pt tr v0 : Nat) (h0 : z_H) (tx : Int32 → Int32) (n : Int32) (kd gp : Int32 → Int32) (tk : Int32 → Int32 → Int32) (fr s1 s2 to g ae : Int32) (h : z_H) : Prop :=
  x_U L π h ∧ (∀ a, a < v0 ∨ v0 + 4 < a → h a = h0 a) ∧ (vA h (tr + 1) = tx ∧ vI h tr 1 = n ∧ vA h (it + 1) = kd ∧ vA h (it + 2) = gp ∧ x_tk h it = tk) ∧ (vI h pt 1 = ae ∧ vI h pt 2 = fr ∧ vI h pt 3 = to ∧ vI h pt 4 = s1 ∧ vI h pt 5 = s2 ∧ vI h pt 6 = g)
section FG
variable {L : q_L} {π : Nat → Nat → Option Nat} {N v0 it pt tr : Nat} {h0 : z_H} {tx : Int32 → Int32} {n : Int32} {kd gp : Int32 → Int32} {tk : Int32 → Int32 → Int32} {fr s1 s2 to g ae : Int32}
theorem y_G_f {h h' : z_H} (k5 : qκ L it = 5) (D1 : it + 4 < v0 ∨ v0 + 4 < it) (D2 : pt < v0 ∨ v0 + 4 < pt) (D3 : tr + 1 < v0 ∨ v0 + 4 < tr) (G : y_G L π it pt tr v0 h0 tx n kd gp tk fr s1 s2 to g ae h) (T : x_U L π h') (f : ∀ a, a < v0 ∨ v0 + 4 < a → h' a = h a) : y_G L π it pt tr v0 h0 tx n kd gp tk fr s1 s2 to g ae h' := by
  obtain ⟨T0, f0, ⟨q1, q2, q3, q4, q5⟩, r1, r2, r3, r4, r5, r6⟩ := G
  have P : ∀ k, vI h' pt k = vI h pt k := fun k => x_vI_c (f pt (by omega))
  refine ⟨T, fun a aa => (f a aa).trans (f0 a aa), ⟨?_, ?_, ?_, ?_, ?_⟩, ?_, ?_, ?_, ?_, ?_, ?_⟩
  · rw [x_vA_c (f (tr + 1) (by omega)), q1]
  · rw [x_vI_c (f tr (by omega)), q2]
  · rw [x_vA_c (f (it + 1) (by omega)), q3]
  · rw [x_vA_c (f (it + 2) (by omega)), q4]
  · rw [x_tk_c T0 k5 (f it (by omega)) (f (it + 3) (by omega)) (f (it + 4) (by omega)), q5]
  · rw [P, r1]
  · rw [P, r2]
  · rw [P, r3]
  · rw [P, r4]
  · rw [P, r5]
  · rw [P, r6]
/-- a way that counts -/
def y_C (tx : Int32 → Int32) (n : Int32) (kd gp : Int32 → Int32) (tk : Int32 → Int32 → Int32) (fr s1 s2 to ae : Int32) (gb0 ge0 : Int32 → Int32) (st a b e : Int32) (gb ge : Int32 → Int32) : Prop := x_pth tx n kd gp tk fr s1 s2 to gb0 ge0 st a b e gb ge ∧ (ae = 0 ∨ e = n)
variable {gb0 ge0 : Int32 → Int32} {st : Int32}
theorem x_kk {k n : Int32} (a : k ≤ n + 1) (n0 : n ≤ 1000) (m0 : 0 ≤ n) : k < k + 1 := by lia
theorem y_V_a {k1 k2 a b : Int32} (c : k2 < k2 + 1) (v : y_V k1 (k2 + 1) a b) : y_V k1 k2 a b ∨ (a = k1 ∧ b = k2) := by
  rcases v with v | ⟨v1, v2⟩
  · exact Or.inl (Or.inl v)
  · by_cases z : b = k2
    · exact Or.inr ⟨v1, z⟩
    · exact Or.inl (Or.inr ⟨v1, by lia⟩)
theorem y_V_b {k1 k2 a b : Int32} (c : k2 < k2 + 1) (v : y_V k1 k2 a b) : y_V k1 (k2 + 1) a b := by
  rcases v with v | ⟨v1, v2⟩
  · exact Or.inl v
  · exact Or.inr ⟨v1, Int32.lt_trans v2 c⟩
theorem y_V_c {k1 k2 a b : Int32} (v : y_V k1 k2 a b) : a < k1 ∨ (a = k1 ∧ b ≤ k2) := by
  rcases v with v | ⟨v1, v2⟩
  · exact Or.inl v
  · exact Or.inr ⟨v1, Int32.le_of_lt v2⟩
theorem y_V_n {C : Int32 → Int32 → Int32 → (Int32 → Int32) → (Int32 → Int32) → Prop} {k1 k2 g : Int32} {h : z_H} (c : k1 < k1 + 1) (I : y_I C (y_V k1 k2) st g v0 h) (H : ∀ b e gb ge, k2 ≤ b → ¬ C k1 b e gb ge) : y_I C (y_V (k1 + 1) 0) st g v0 h := by
  refine y_I_ext I (fun a b v => ?_) (fun a b e gb ge a0 b0 v cc => ?_) rfl rfl rfl rfl
  · rcases v with v | ⟨v1, v2⟩
    · exact Or.inl (Int32.lt_trans v c)
    · rw [v1]; exact Or.inl c
  · rcases v with v | ⟨v1, v2⟩
    · by_cases z : a = k1
      · subst z
        by_cases w : b < k2
        · exact Or.inr ⟨rfl, w⟩
        · exact absurd cc (H b e gb ge (Int32.not_lt.mp w))
      · exact Or.inl (by lia)
    · exact absurd (Int32.lt_of_le_of_lt b0 v2) Int32.lt_irrefl
set_option maxHeartbeats 4000000 in
theorem y_139 (k6 : qκ L v0 = 6) (k5 : qκ L it = 5) (k11 : qκ L tr = 11) (p2 : π v0 2 = some it) (p3 : π v0 3 = some pt) (p4 : π v0 4 = some tr) (D1 : it + 4 < v0 ∨ v0 + 4 < it) (D2 : pt < v0 ∨ v0 + 4 < pt) (D3 : tr + 1 < v0 ∨ v0 + 4 < tr) {k27 : Nat → Int32 → Int32 → Int32 → z_H → Option (Int32 × z_H)} {k94 : Nat → Int32 → Int32 → Int32 → Int32 → Int32 → z_H → Option (Int32 × z_H)} {Q : Int32 × z_H → Prop} {v2 v3 v4 v5 hd mid k1 k2 o2 l2 : Int32} {b1 e1 b2 e2 : Int32 → Int32} {h : z_H} (n0 : n ≤ 1000) (g3 : g ≤ 3) (bs : 0 ≤ s2 + 1) (bt : 0 ≤ to) (W3 : x_wf kd gp (x_ct (s2 + 1) to) (s2 + 1) o2 l2) (Z3 : x_oc kd (x_ct (s2 + 1) to) (s2 + 1) o2 l2 = (g, g)) (S1 : x_w tx n kd gp tk (x_ct fr s1) fr st gb0 ge0 = some (hd, b1, e1)) (R1 : x_rr tx n tk s1 to hd k1) (S2 : x_w tx n kd gp tk (x_ct (s1 + 1) s2) (s1 + 1) (hd + k1) b1 e1 = some (mid, b2, e2)) (R2 : x_rr tx n tk s2 to mid k2) (K1 : 0 ≤ k1) (K2 : 0 ≤ k2) (kk : k2 < k2 + 1) (e5 : v5 = mid + k2) (GK : x_gk n o2 l2 b2 e2 v5) (G : y_G L π it pt tr v0 h0 tx n kd gp tk fr s1 s2 to g ae h) (A1 : x_ag o2 b2 (vA h (v0 + 3))) (A2 : x_ag l2 e2 (vA h (v0 + 4))) (I : y_I (y_C tx n kd gp tk fr s1 s2 to ae gb0 ge0 st) (y_V k1 k2) st g v0 h) (K94 : ∀ h', y_G L π it pt tr v0 h0 tx n kd gp tk fr s1 s2 to g ae h' → x_ag o2 b2 (vA h' (v0 + 3)) → x_ag l2 e2 (vA h' (v0 + 4)) → y_I (y_C tx n kd gp tk fr s1 s2 to ae gb0 ge0 st) (y_V k1 (k2 + 1)) st g v0 h' → qi (k94 v0 st v2 v3 v4 (v5 + 1) h') Q) : qi (f_Ma_findLongest_139 N k27 k94 v0 st v2 v3 v4 v5 h) Q := by
  have G' := G
  obtain ⟨T, f0, ⟨q1, q2, q3, q4, q5⟩, r1, r2, r3, r4, r5, r6⟩ := G'
  unfold f_Ma_findLongest_139
  have WK := y_wk (N := N) (v3 := v5) k6 k5 k11 p2 p4 D1 D3 (v1 := s2 + 1) (v2 := to) (o := o2) (l := l2) T bs bt (by rw [q3, q4]; exact W3)
  unfold y_R at WK
  rw [q1, q2, q3, q4, q5, Z3] at WK
  refine l_gR T p3 (l_gI (e := s2) r5 (l_gR T p3 (l_gI (e := to) r3 (l_gO (qi_b WK ?_)))))
  rintro ⟨y, h1⟩ ⟨T1, f1, R, a3, a4⟩
  dsimp only at T1 f1 R a3 a4 ⊢
  have f1' : ∀ a, a < v0 ∨ v0 + 4 < a → h1 a = h a := fun a aa => f1 a (by omega) (by omega)
  have G1 := y_G_f k5 D1 D2 D3 G T1 f1'
  have G1' := G1
  obtain ⟨_, _, ⟨_, q2', _, _, _⟩, r1', _, _, _, _, r6'⟩ := G1'
  refine l_gO (qi_b (y_kp (N := N) (n := n) (ae := ae) (g := g) k6 p3 p4 D2 g3 T1 r6' r1' q2') ?_)
  rintro h2 ⟨T2, f2, KP⟩
  have R' := x_w_tr (o := o2) (l := l2) (B := vA h1 (v0 + 3)) (E := vA h1 (v0 + 4)) (y := y) W3 A1 A2 (by rw [Z3]; exact R)
  rw [Z3] at R'
  have c0 : ∀ k, vI h1 v0 k = vI h v0 k := fun k => x_vI_c (f1 v0 (by omega) (by omega))
  have c1 : vA h1 (v0 + 1) = vA h (v0 + 1) := x_vA_c (f1 (v0 + 1) (by omega) (by omega))
  have c2 : vA h1 (v0 + 2) = vA h (v0 + 2) := x_vA_c (f1 (v0 + 2) (by omega) (by omega))
  have E3 : vA h2 (v0 + 3) = vA h1 (v0 + 3) ∧ vA h2 (v0 + 4) = vA h1 (v0 + 4) := by
    rcases KP with ⟨_, e⟩ | ⟨_, _, _, _, _, e, e'⟩
    · rw [e]; exact ⟨rfl, rfl⟩
    · exact ⟨e, e'⟩
  refine qi_bs (K94 h2 (y_G_f k5 D1 D2 D3 G1 T2 f2) (by rw [E3.1]; exact x_ag_t A1 a3) (by rw [E3.2]; exact x_ag_t A2 a4) ?_)
  rw [e5] at R' GK
  rcases R' with ⟨z, w⟩ | ⟨b, e, w, w1, w2⟩
  · have e2 : h2 = h1 := by
      rcases KP with ⟨_, e⟩ | ⟨⟨e, _⟩, _⟩
      · exact e
      · exact absurd z e
    rw [e2]
    refine y_I_ext I (fun a b v => y_V_b kk v) (fun a b e gb ge a0 b0 v cc => ?_) (c0 1) (c0 0) c1 c2
    rcases y_V_a kk v with v | ⟨ea, eb⟩
    · exact v
    · subst ea; subst eb
      have p := (x_pth_2 S1 S2 cc.1).2
      rw [w] at p
      cases p
  · have y0 := (x_w_gk n0 _ _ _ _ _ _ _ _ _ _ W3 GK w).1.1.1
    have fn : ∀ e' gb' ge', y_C tx n kd gp tk fr s1 s2 to ae gb0 ge0 st k1 k2 e' gb' ge' → e' = y := by
      intro e' gb' ge' cc
      have p := (x_pth_2 S1 S2 cc.1).2
      rw [w] at p
      cases p
      rfl
    rcases KP with ⟨x, e3⟩ | ⟨⟨x1, x2, x3⟩, x4, x5, x6, x7, _⟩
    · rw [e3]
      rcases x with x | x | x
      · rw [x] at y0; exact absurd y0 (by decide)
      · rw [c0] at x
        exact y_I_low I (fun a b v => y_V_a kk v) (fun a b v => y_V_b kk v) y0 fn x (c0 1) (c0 0) c1 c2
      · refine y_I_ext I (fun a b v => y_V_b kk v) (fun a b e gb ge a0 b0 v cc => ?_) (c0 1) (c0 0) c1 c2
        rcases y_V_a kk v with v | ⟨ea, eb⟩
        · exact v
        · subst ea; subst eb
          have ey := fn _ _ _ cc
          rcases cc.2 with z | z
          · exact absurd z x.1
          · exact absurd (ey.symm.trans z) x.2
    · rw [c0] at x2
      exact y_I_new I (fun a b v => y_V_a kk v) (Or.inr ⟨rfl, kk⟩) (fun a b v => y_V_c v) ⟨⟨_, _, _, _, _, _, S1, R1, S2, R2, w⟩, x3⟩ K1 K2 y0 fn x2 x5 x4 (x_ag_t w1 x6) (x_ag_t w2 x7)
set_option maxHeartbeats 4000000 in
theorem y_94 (k6 : qκ L v0 = 6) (k5 : qκ L it = 5) (k11 : qκ L tr = 11) (p2 : π v0 2 = some it) (p3 : π v0 3 = some pt) (p4 : π v0 4 = some tr) (D1 : it + 4 < v0 ∨ v0 + 4 < it) (D2 : pt < v0 ∨ v0 + 4 < pt) (D3 : tr + 1 < v0 ∨ v0 + 4 < tr) {k27 : Nat → Int32 → Int32 → Int32 → z_H → Option (Int32 × z_H)} {Q : Int32 × z_H → Prop} {v2 v3 hd mid k1 o2 l2 : Int32} {b1 e1 b2 e2 : Int32 → Int32} (n0 : n ≤ 1000) (g3 : g ≤ 3) (bs : 0 ≤ s2 + 1) (bt : 0 ≤ to) (W3 : x_wf kd gp (x_ct (s2 + 1) to) (s2 + 1) o2 l2) (Z3 : x_oc kd (x_ct (s2 + 1) to) (s2 + 1) o2 l2 = (g, g)) (S1 : x_w tx n kd gp tk (x_ct fr s1) fr st gb0 ge0 = some (hd, b1, e1)) (R1 : x_rr tx n tk s1 to hd k1) (S2 : x_w tx n kd gp tk (x_ct (s1 + 1) s2) (s1 + 1) (hd + k1) b1 e1 = some (mid, b2, e2)) (K1 : 0 ≤ k1) (kk : k1 < k1 + 1) (GK : x_gk n o2 l2 b2 e2 mid) (K27 : ∀ h', y_G L π it pt tr v0 h0 tx n kd gp tk fr s1 s2 to g ae h' → x_ag o2 b2 (vA h' (v0 + 3)) → x_ag l2 e2 (vA h' (v0 + 4)) → y_I (y_C tx n kd gp tk fr s1 s2 to ae gb0 ge0 st) (y_V (k1 + 1) 0) st g v0 h' → qi (k27 v0 st v2 (v3 + 1) h') Q) : ∀ (m : Nat) (v5 k2 : Int32) (h : z_H), v5 = mid + k2 → 0 ≤ k2 → k2 ≤ n + 1 → v5 ≤ n + 1 → x_rr tx n tk s2 to mid (k2 - 1) → y_G L π it pt tr v0 h0 tx n kd gp tk fr s1 s2 to g ae h → x_ag o2 b2 (vA h (v0 + 3)) → x_ag l2 e2 (vA h (v0 + 4)) → y_I (y_C tx n kd gp tk fr s1 s2 to ae gb0 ge0 st) (y_V k1 k2) st g v0 h → qi (f_Ma_findLongest_94 N k27 m v0 st v2 v3 mid v5 h) Q := by
  intro m
  induction m with
  | zero => intro v5 k2 h e5 K2 kn v5n RN G A1 A2 I r e; rw [f_Ma_findLongest_94] at e; cases e
  | succ m ih =>
    intro v5 k2 h e5 K2 kn v5n RN G A1 A2 I
    have G' := G
    obtain ⟨T, f0, ⟨q1, q2, q3, q4, q5⟩, r1, r2, r3, r4, r5, r6⟩ := G'
    have m0 := GK.1.1
    have mn := GK.1.2
    have nn : 0 ≤ n := Int32.le_trans m0 mn
    have kk2 : k2 < k2 + 1 := x_kk kn n0 nn
    have v50 : 0 ≤ v5 ∧ mid ≤ v5 := by rw [e5]; constructor <;> lia
    have B : (∀ b, k2 ≤ b → ¬ x_rr tx n tk s2 to mid b) → y_I (y_C tx n kd gp tk fr s1 s2 to ae gb0 ge0 st) (y_V (k1 + 1) 0) st g v0 h := fun H => y_V_n kk I (fun b e gb ge hb cc => H b hb (x_pth_2 S1 S2 cc.1).1)
    have J : x_rr tx n tk s2 to mid k2 → v5 ≤ n → qi (f_Ma_findLongest_139 N k27 (f_Ma_findLongest_94 N k27 m) v0 st v2 v3 mid v5 h) Q := fun R2 vn =>
      y_139 (N := N) k6 k5 k11 p2 p3 p4 D1 D2 D3 n0 g3 bs bt W3 Z3 S1 R1 S2 R2 K1 K2 kk2 e5 (x_gk_up GK v50.2 vn) G A1 A2 I (fun h' G' A1' A2' I' => ih (v5 + 1) (k2 + 1) h' (by rw [e5, Int32.add_assoc]) (by lia) (by lia) (by lia) (by rw [show k2 + 1 - 1 = k2 from by grind]; exact R2) G' A1' A2' I')
    rw [f_Ma_findLongest_94]
    refine qi_if (fun c => ?_) (fun c => ?_)
    · exact absurd (Int32.lt_of_lt_of_le c v50.1) Int32.lt_irrefl
    · refine l_gR T p4 (l_gI (e := n) q2 ?_)
      refine qi_if (fun c1 => ?_) (fun c1 => ?_)
      · refine qi_bs (K27 h G A1 A2 (B (fun b hb rn => ?_)))
        have k1' : 1 ≤ k2 := by lia
        have z := (x_rr_g rn k1' hb).2.2.1
        lia
      · have vn := Int32.not_lt.mp c1
        refine qi_if (fun c2 => ?_) (fun c2 => ?_)
        · exact J (x_rr_0 (by lia)) vn
        · have k1' : 1 ≤ k2 := by lia
          have ev : v5 - 1 = mid + (k2 - 1) := by rw [e5]; grind
          refine l_gR T p3 (l_gI (e := s2) r5 (l_gO (qi_b (y_rep (N := N) k6 k5 k11 p2 p3 p4 T) ?_)))
          rw [ev, r3, q1, q5]
          rintro ⟨y, hz⟩ ⟨ez, z | z⟩
          · dsimp only at ez z ⊢
            rw [ez, z.1, if_neg (by decide)]
            exact J (x_rr_s k1' RN ⟨z.2.1, z.2.2.1, by lia, z.2.2.2⟩) vn
          · dsimp only at ez z ⊢
            rw [ez, z.1, if_pos rfl]
            refine qi_bs (K27 h G A1 A2 (B (fun b hb rn => ?_)))
            have w := x_rr_g rn k1' hb
            exact z.2 ⟨w.1, w.2.1, w.2.2.2⟩
theorem y_178 (k6 : qκ L v0 = 6) (k5 : qκ L it = 5) (k11 : qκ L tr = 11) (p2 : π v0 2 = some it) (p3 : π v0 3 = some pt) (p4 : π v0 4 = some tr) (D1 : it + 4 < v0 ∨ v0 + 4 < it) (D2 : pt < v0 ∨ v0 + 4 < pt) (D3 : tr + 1 < v0 ∨ v0 + 4 < tr) {h : z_H} : qi (f_Ma_findLongest_178 N v0 h) (fun r => r.2 = h ∧ ((r.1 = 0 ∧ vI h v0 1 = -1) ∨ (r.1 = 1 ∧ ¬ vI h v0 1 = -1))) := by
  clear k6 k5 k11 p2 p3 p4 D1 D2 D3
  unfold f_Ma_findLongest_178
  refine l_gI (e := vI h v0 1) rfl ?_
  exact qi_if (fun c => qi_some ⟨rfl, Or.inl ⟨rfl, c⟩⟩) (fun c => qi_some ⟨rfl, Or.inr ⟨rfl, c⟩⟩)
set_option maxHeartbeats 4000000 in
theorem y_27 (k6 : qκ L v0 = 6) (k5 : qκ L it = 5) (k11 : qκ L tr = 11) (p2 : π v0 2 = some it) (p3 : π v0 3 = some pt) (p4 : π v0 4 = some tr) (D1 : it + 4 < v0 ∨ v0 + 4 < it) (D2 : pt < v0 ∨ v0 + 4 < pt) (D3 : tr + 1 < v0 ∨ v0 + 4 < tr) {hd o1 l1 o2 l2 : Int32} {b1 e1 : Int32 → Int32} (n0 : n ≤ 1000) (g3 : g ≤ 3) (bs1 : 0 ≤ s1 + 1) (bs : 0 ≤ s2 + 1) (b2' : 0 ≤ s2) (bt : 0 ≤ to) (W2 : x_wf kd gp (x_ct (s1 + 1) s2) (s1 + 1) o1 l1) (Z2 : x_oc kd (x_ct (s1 + 1) s2) (s1 + 1) o1 l1 = (o2, l2)) (W3 : x_wf kd gp (x_ct (s2 + 1) to) (s2 + 1) o2 l2) (Z3 : x_oc kd (x_ct (s2 + 1) to) (s2 + 1) o2 l2 = (g, g)) (S1 : x_w tx n kd gp tk (x_ct fr s1) fr st gb0 ge0 = some (hd, b1, e1)) (GK : x_gk n o1 l1 b1 e1 hd) : ∀ (m : Nat) (v3 k1 : Int32) (h : z_H), v3 = hd + k1 → 0 ≤ k1 → k1 ≤ n + 1 → v3 ≤ n + 1 → x_rr tx n tk s1 to hd (k1 - 1) → y_G L π it pt tr v0 h0 tx n kd gp tk fr s1 s2 to g ae h → x_ag o1 b1 (vA h (v0 + 3)) → x_ag l1 e1 (vA h (v0 + 4)) → y_I (y_C tx n kd gp tk fr s1 s2 to ae gb0 ge0 st) (y_V k1 0) st g v0 h → qi (f_Ma_findLongest_27 N m v0 st hd v3 h) (fun r => y_G L π it pt tr v0 h0 tx n kd gp tk fr s1 s2 to g ae r.2 ∧ y_I (y_C tx n kd gp tk fr s1 s2 to ae gb0 ge0 st) (fun _ _ => True) st g v0 r.2 ∧ ((r.1 = 0 ∧ vI r.2 v0 1 = -1) ∨ (r.1 = 1 ∧ ¬ vI r.2 v0 1 = -1))) := by
  intro m
  induction m with
  | zero => intro v3 k1 h e3 K1 kn v3n RN G A1 A2 I r e; rw [f_Ma_findLongest_27] at e; cases e
  | succ m ih =>
    intro v3 k1 h e3 K1 kn v3n RN G A1 A2 I
    have G' := G
    obtain ⟨T, f0, ⟨q1, q2, q3, q4, q5⟩, r1, r2, r3, r4, r5, r6⟩ := G'
    have m0 := GK.1.1
    have mn := GK.1.2
    have nn : 0 ≤ n := Int32.le_trans m0 mn
    have kk1 : k1 < k1 + 1 := x_kk kn n0 nn
    have v30 : 0 ≤ v3 ∧ hd ≤ v3 := by rw [e3]; constructor <;> lia
    have X : (∀ b, k1 ≤ b → ¬ x_rr tx n tk s1 to hd b) → qi (f_Ma_findLongest_178 N v0 h) (fun r => y_G L π it pt tr v0 h0 tx n kd gp tk fr s1 s2 to g ae r.2 ∧ y_I (y_C tx n kd gp tk fr s1 s2 to ae gb0 ge0 st) (fun _ _ => True) st g v0 r.2 ∧ ((r.1 = 0 ∧ vI r.2 v0 1 = -1) ∨ (r.1 = 1 ∧ ¬ vI r.2 v0 1 = -1))) := by
      intro H
      refine qi_mono (y_178 k6 k5 k11 p2 p3 p4 D1 D2 D3) ?_
      rintro r ⟨e, z⟩
      rw [e]
      refine ⟨G, y_I_ext I (fun _ _ _ => trivial) (fun a b e gb ge a0 b0 _ cc => ?_) rfl rfl rfl rfl, z⟩
      by_cases w : a < k1
      · exact Or.inl w
      · exact absurd (x_pth_1 S1 cc.1).1 (H a (Int32.not_lt.mp w))
    have J : x_rr tx n tk s1 to hd k1 → v3 ≤ n → qi (f_Ma_findLongest_67 N (f_Ma_findLongest_27 N m) v0 st hd v3 h) (fun r => y_G L π it pt tr v0 h0 tx n kd gp tk fr s1 s2 to g ae r.2 ∧ y_I (y_C tx n kd gp tk fr s1 s2 to ae gb0 ge0 st) (fun _ _ => True) st g v0 r.2 ∧ ((r.1 = 0 ∧ vI r.2 v0 1 = -1) ∨ (r.1 = 1 ∧ ¬ vI r.2 v0 1 = -1))) := by
      intro R1 vn
      have NX : ∀ h', y_G L π it pt tr v0 h0 tx n kd gp tk fr s1 s2 to g ae h' → x_ag o1 b1 (vA h' (v0 + 3)) → x_ag l1 e1 (vA h' (v0 + 4)) → y_I (y_C tx n kd gp tk fr s1 s2 to ae gb0 ge0 st) (y_V (k1 + 1) 0) st g v0 h' → qi (f_Ma_findLongest_27 N m v0 st hd (v3 + 1) h') (fun r => y_G L π it pt tr v0 h0 tx n kd gp tk fr s1 s2 to g ae r.2 ∧ y_I (y_C tx n kd gp tk fr s1 s2 to ae gb0 ge0 st) (fun _ _ => True) st g v0 r.2 ∧ ((r.1 = 0 ∧ vI r.2 v0 1 = -1) ∨ (r.1 = 1 ∧ ¬ vI r.2 v0 1 = -1))) := fun h' G' A1' A2' I' => ih (v3 + 1) (k1 + 1) h' (by rw [e3, Int32.add_assoc]) (by lia) (by lia) (by lia) (by rw [show k1 + 1 - 1 = k1 from by grind]; exact R1) G' A1' A2' I'
      unfold f_Ma_findLongest_67
      have WK := y_wk (N := N) (v3 := v3) k6 k5 k11 p2 p4 D1 D3 (v1 := s1 + 1) (v2 := s2) (o := o1) (l := l1) T bs1 b2' (by rw [q3, q4]; exact W2)
      unfold y_R at WK
      rw [q1, q2, q3, q4, q5, Z2] at WK
      refine l_gR T p3 (l_gI (e := s1) r4 (l_gR T p3 (l_gI (e := s2) r5 (l_gO (qi_b WK ?_)))))
      rintro ⟨y, h1⟩ ⟨T1, f1, R, a3, a4⟩
      dsimp only at T1 f1 R a3 a4 ⊢
      have f1' : ∀ a, a < v0 ∨ v0 + 4 < a → h1 a = h a := fun a aa => f1 a (by omega) (by omega)
      have G1 := y_G_f k5 D1 D2 D3 G T1 f1'
      have R' := x_w_tr (o := o1) (l := l1) (B := vA h1 (v0 + 3)) (E := vA h1 (v0 + 4)) (y := y) W2 A1 A2 (by rw [Z2]; exact R)
      rw [Z2] at R'
      have c0 : ∀ k, vI h1 v0 k = vI h v0 k := fun k => x_vI_c (f1 v0 (by omega) (by omega))
      have c1 : vA h1 (v0 + 1) = vA h (v0 + 1) := x_vA_c (f1 (v0 + 1) (by omega) (by omega))
      have c2 : vA h1 (v0 + 2) = vA h (v0 + 2) := x_vA_c (f1 (v0 + 2) (by omega) (by omega))
      have I1 : y_I (y_C tx n kd gp tk fr s1 s2 to ae gb0 ge0 st) (y_V k1 0) st g v0 h1 := y_I_ext I (fun _ _ v => v) (fun _ _ _ _ _ _ _ v _ => v) (c0 1) (c0 0) c1 c2
      rw [e3] at R'
      refine qi_bs ?_
      rcases R' with ⟨z, w⟩ | ⟨b2, e2, w, w1, w2⟩
      · rw [z]
        have I2 := y_V_n kk1 I1 (fun b e gb ge _ cc => by
          obtain ⟨p2, b2, e2, x⟩ := (x_pth_1 S1 cc.1).2
          rw [w] at x
          cases x)
        cases N with
        | zero => intro r e; rw [f_Ma_findLongest_94] at e; cases e
        | succ N =>
          rw [f_Ma_findLongest_94]
          refine qi_if (fun c => ?_) (fun c => absurd (by decide : (-1 : Int32) < 0) c)
          exact qi_bs (NX h1 G1 (x_ag_t A1 a3) (x_ag_t A2 a4) I2)
      · have gk := (x_w_gk n0 _ _ _ _ _ _ _ _ _ _ W2 (x_gk_up GK (e3 ▸ v30.2) (e3 ▸ vn)) w).1
        rw [Z2] at gk
        have kp := x_w_kp _ _ _ _ _ _ _ _ _ _ W2 w
        rw [Z2] at kp
        refine y_94 (N := N) k6 k5 k11 p2 p3 p4 D1 D2 D3 n0 g3 bs bt W3 Z3 S1 R1 w K1 kk1 gk (fun h' G' B1 B2 I' => NX h' G' (x_ag_t kp.1 (x_ag_le B1 kp.2.2.1)) (x_ag_t kp.2.1 (x_ag_le B2 kp.2.2.2)) I') N y 0 h1 (Int32.add_zero y).symm (by decide) (by lia) (by have := gk.1.2; lia) (x_rr_0 (by decide)) G1 w1 w2 I1
    rw [f_Ma_findLongest_27]
    refine qi_if (fun c => ?_) (fun c => ?_)
    · exact absurd (Int32.lt_of_lt_of_le c v30.1) Int32.lt_irrefl
    · refine l_gR T p4 (l_gI (e := n) q2 ?_)
      refine qi_if (fun c1 => ?_) (fun c1 => ?_)
      · refine X (fun b hb rn => ?_)
        have k1' : 1 ≤ k1 := by lia
        have z := (x_rr_g rn k1' hb).2.2.1
        lia
      · have vn := Int32.not_lt.mp c1
        refine qi_if (fun c2 => ?_) (fun c2 => ?_)
        · exact J (x_rr_0 (by lia)) vn
        · have k1' : 1 ≤ k1 := by lia
          have ev : v3 - 1 = hd + (k1 - 1) := by rw [e3]; grind
          refine l_gR T p3 (l_gI (e := s1) r4 (l_gO (qi_b (y_rep (N := N) k6 k5 k11 p2 p3 p4 T) ?_)))
          rw [ev, r3, q1, q5]
          rintro ⟨y, hz⟩ ⟨ez, z | z⟩
          · dsimp only at ez z ⊢
            rw [ez, z.1, if_neg (by decide)]
            exact J (x_rr_s k1' RN ⟨z.2.1, z.2.2.1, by lia, z.2.2.2⟩) vn
          · dsimp only at ez z ⊢
            rw [ez, z.1, if_pos rfl]
            refine X (fun b hb rn => ?_)
            have w := x_rr_g rn k1' hb
            exact z.2 ⟨w.1, w.2.1, w.2.2.2⟩
end FG
