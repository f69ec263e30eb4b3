theorem q_zc {s s1 a b c : Int32} (h0 : 0 ≤ s) (e1 : s1 = s) (z : s ≤ a) (ha : a < 240) (eb : b = a + 1) (hb : b < 240) (ec : c = b ∨ c = b + 1) : s1 ≤ c := by
  subst e1 eb
  rcases ec with e | e <;> subst e <;> lia
theorem q_cmi {i j : Int32} (hi : 0 ≤ i) (hj : 0 ≤ j) (h : i.toNatClampNeg = j.toNatClampNeg) : i = j := by
  have h1 := Int32.le_iff_toInt_le.mp hi
  have h2 := Int32.le_iff_toInt_le.mp hj
  have e : (0 : Int32).toInt = 0 := rfl
  refine Int32.toInt_inj.mp ?_
  unfold Int32.toNatClampNeg at h
  omega
theorem q_cml {i j : Int32} (hi : 0 ≤ i) (h : i < j) : i.toNatClampNeg < j.toNatClampNeg := by
  have h1 := Int32.le_iff_toInt_le.mp hi
  have h2 := Int32.lt_iff_toInt_lt.mp h
  have e : (0 : Int32).toInt = 0 := rfl
  unfold Int32.toNatClampNeg
  omega
theorem q_cm40 {i j : Int32} (hi : 0 ≤ i) (h : i < j) (hj : j ≤ 40) : i.toNatClampNeg < 40 := by
  have h1 := q_cml hi (show i < 40 by lia)
  exact h1
theorem q_PW_eq3 {h h' : z_H} {it pt : Nat} (P : q_PW h it pt) (e : ∀ j, 0 ≤ j → j < vI h it 4 → vA h' (it + 1) j = vA h (it + 1) j ∧ vA h' (it + 2) j = vA h (it + 2) j) (e0 : vI h it 4 ≤ vI h' it 4) (e1 : ∀ k, k < 7 → vI h' pt k = vI h pt k) : q_PW h' it pt := by
  refine ⟨q_PV_eq P.1 (fun j h1 h2 => e j h1 (by have := P.2; lia)) (e1 _ (by decide)) (e1 _ (by decide)) (e1 _ (by decide)) (e1 _ (by decide)), ?_⟩
  rw [e1 3 (by decide)]
  have := P.2
  lia
theorem q_CV_eq3 {h h' : z_H} {c it : Nat} (P : q_CV h c it) (e : ∀ j, 0 ≤ j → j < vI h it 4 → vA h' (it + 1) j = vA h (it + 1) j ∧ vA h' (it + 2) j = vA h (it + 2) j) (e0 : vI h it 4 ≤ vI h' it 4) (e1 : ∀ a k, c ≤ a → a < c + 6 → k < 7 → vI h' a k = vI h a k) : q_CV h' c it := by
  obtain ⟨p1, p2, p3⟩ := P
  have a1 := e1 c 5 (by omega) (by omega) (by decide)
  have a2 := e1 c 3 (by omega) (by omega) (by decide)
  have a3 := e1 (c + 1) 1 (by omega) (by omega) (by decide)
  have a4 := e1 (c + 3) 1 (by omega) (by omega) (by decide)
  refine ⟨fun b1 b2 => q_PW_eq3 (p1 (a1 ▸ b1) (a3 ▸ b2)) e e0 (fun k hk => e1 _ k (by omega) (by omega) hk), fun b1 b2 => q_PW_eq3 (p2 (a1 ▸ b1) (a4 ▸ b2)) e e0 (fun k hk => e1 _ k (by omega) (by omega) hk), fun b1 => q_PW_eq3 (p3 (a2 ▸ b1)) e e0 (fun k hk => e1 _ k (by omega) (by omega) hk)⟩
/-- the commands read so far may be matched -/
def q_CA (h : z_H) (pg : Nat) : Prop := ∀ i : Int32, 0 ≤ i → i < vI h pg 3 → q_CV h (pg + (9 + 6 * i.toNatClampNeg)) (pg + 3)
/-- every { has a target, or is open -/
def q_OB (h : z_H) (pg v0 : Nat) : Prop := ∀ i : Int32, 0 ≤ i → i < vI h pg 3 → vI h (pg + (9 + 6 * i.toNatClampNeg)) 3 = 123 → 0 ≤ vI h (pg + (9 + 6 * i.toNatClampNeg)) 7 ∨ ∃ d, 0 ≤ d ∧ d < vI h v0 4 ∧ vA h (v0 + 3) d = i
/-- a program that may be run -/
def q_PG (h : z_H) (pg : Nat) : Prop := ∀ i : Int32, 0 ≤ i → i < vI h pg 3 → q_CV h (pg + (9 + 6 * i.toNatClampNeg)) (pg + 3) ∧ (vI h (pg + (9 + 6 * i.toNatClampNeg)) 3 = 98 ∨ vI h (pg + (9 + 6 * i.toNatClampNeg)) 3 = 116 ∨ vI h (pg + (9 + 6 * i.toNatClampNeg)) 3 = 123 → 0 ≤ vI h (pg + (9 + 6 * i.toNatClampNeg)) 7)
theorem q_CA_eq {h h' : z_H} {pg : Nat} (P : q_CA h pg) (hs : vI h' pg 3 = vI h pg 3) (e : ∀ j, 0 ≤ j → j < vI h (pg + 3) 4 → vA h' (pg + 3 + 1) j = vA h (pg + 3 + 1) j ∧ vA h' (pg + 3 + 2) j = vA h (pg + 3 + 2) j) (e0 : vI h (pg + 3) 4 ≤ vI h' (pg + 3) 4) (e1 : ∀ a k, pg + 9 ≤ a → k < 7 → vI h' a k = vI h a k) : q_CA h' pg := by
  intro i i0 i1
  rw [hs] at i1
  exact q_CV_eq3 (P i i0 i1) e e0 (fun a k ha _ hk => e1 a k (by omega) hk)
theorem q_CA_add {h h' : z_H} {pg : Nat} (P : q_CA h pg) (s0 : 0 ≤ vI h pg 3) (s1 : vI h pg 3 ≤ 40) (hs : vI h' pg 3 = vI h pg 3 + 1) (e : ∀ j, 0 ≤ j → j < vI h (pg + 3) 4 → vA h' (pg + 3 + 1) j = vA h (pg + 3 + 1) j ∧ vA h' (pg + 3 + 2) j = vA h (pg + 3 + 2) j) (e0 : vI h (pg + 3) 4 ≤ vI h' (pg + 3) 4) (e1 : ∀ a k, pg + 9 ≤ a → a < pg + (9 + 6 * (vI h pg 3).toNatClampNeg) → k < 7 → vI h' a k = vI h a k) (N : q_CV h' (pg + (9 + 6 * (vI h pg 3).toNatClampNeg)) (pg + 3)) : q_CA h' pg := by
  intro i i0 i1
  rw [hs] at i1
  by_cases q : i = vI h pg 3
  · rw [q]; exact N
  · have i2 : i < vI h pg 3 := by lia
    have i3 := q_cml i0 i2
    exact q_CV_eq3 (P i i0 i2) e e0 (fun a k ha hb hk => e1 a k (by omega) (by omega) hk)
theorem q_OB_eq {h h' : z_H} {pg v0 : Nat} (P : q_OB h pg v0) (hs : vI h' pg 3 = vI h pg 3) (h40 : vI h pg 3 ≤ 40) (k3 : ∀ a, pg + 9 ≤ a → a < pg + 249 → vI h' a 3 = vI h a 3) (k7 : ∀ a, pg + 9 ≤ a → a < pg + 249 → vI h' a 7 = vI h a 7 ∨ 0 ≤ vI h' a 7) (st : ∀ d, 0 ≤ d → d < vI h' v0 4 → vA h' (v0 + 3) d = vA h (v0 + 3) d) (d4 : vI h v0 4 ≤ 4) (dp : vI h' v0 4 = vI h v0 4 ∨ (1 ≤ vI h v0 4 ∧ vI h' v0 4 = vI h v0 4 - 1 ∧ 0 ≤ vI h' (pg + (9 + 6 * (vA h (v0 + 3) (vI h v0 4 - 1)).toNatClampNeg)) 7)) : q_OB h' pg v0 := by
  intro i i0 i1 ik
  rw [hs] at i1
  have b := q_cm40 i0 i1 h40
  rw [k3 _ (by omega) (by omega)] at ik
  have t := k7 (pg + (9 + 6 * i.toNatClampNeg)) (by omega) (by omega)
  rcases P i i0 i1 ik with z | ⟨d, z0, z1, z2⟩
  · left
    rcases t with t | t
    · rw [t]; exact z
    · exact t
  · rcases dp with dp | ⟨dp0, dp1, dp2⟩
    · right
      exact ⟨d, z0, by rw [dp]; exact z1, by rw [st d z0 (by rw [dp]; exact z1)]; exact z2⟩
    · by_cases q : d = vI h v0 4 - 1
      · left
        rw [q] at z2
        rw [z2] at dp2
        exact dp2
      · right
        have z3 : d < vI h' v0 4 := by rw [dp1]; lia
        exact ⟨d, z0, z3, by rw [st d z0 z3]; exact z2⟩
theorem q_OB_add {h h' : z_H} {pg v0 : Nat} (P : q_OB h pg v0) (s0 : 0 ≤ vI h pg 3) (h40 : vI h pg 3 < 40) (hs : vI h' pg 3 = vI h pg 3 + 1) (e1 : ∀ a k, pg + 9 ≤ a → a < pg + (9 + 6 * (vI h pg 3).toNatClampNeg) → vI h' a k = vI h a k) (d0 : 0 ≤ vI h v0 4) (st : ∀ d, 0 ≤ d → d < vI h v0 4 → vA h' (v0 + 3) d = vA h (v0 + 3) d) (dp : vI h v0 4 ≤ vI h' v0 4) (nw : vI h' (pg + (9 + 6 * (vI h pg 3).toNatClampNeg)) 3 = 123 → vI h v0 4 < vI h' v0 4 ∧ vA h' (v0 + 3) (vI h v0 4) = vI h pg 3) : q_OB h' pg v0 := by
  intro i i0 i1 ik
  rw [hs] at i1
  by_cases q : i = vI h pg 3
  · subst q
    obtain ⟨n1, n2⟩ := nw ik
    exact Or.inr ⟨_, d0, n1, n2⟩
  · have i2 : i < vI h pg 3 := by lia
    have i3 := q_cml i0 i2
    rw [e1 _ _ (by omega) (by omega)] at ik
    rw [e1 _ _ (by omega) (by omega)]
    rcases P i i0 i2 ik with z | ⟨d, z0, z1, z2⟩
    · exact Or.inl z
    · exact Or.inr ⟨d, z0, by lia, by rw [st d z0 z1]; exact z2⟩
theorem q_jb {h h1 : z_H} {pg : Nat} {v1 s : Int32} (v0 : 0 ≤ v1) (vb : v1 ≤ 100) (J : ∀ i : Int32, 0 ≤ i → i < v1 → vI h (pg + (9 + 6 * i.toNatClampNeg)) 3 = 98 ∨ vI h (pg + (9 + 6 * i.toNatClampNeg)) 3 = 116 → 0 ≤ vI h (pg + (9 + 6 * i.toNatClampNeg)) 7) (w : ∀ a k, vI h1 a k = if a = pg + (9 + 6 * v1.toNatClampNeg) ∧ k = 7 then s else vI h a k) (hs : 0 ≤ s) : ∀ i : Int32, 0 ≤ i → i < v1 + 1 → vI h1 (pg + (9 + 6 * i.toNatClampNeg)) 3 = 98 ∨ vI h1 (pg + (9 + 6 * i.toNatClampNeg)) 3 = 116 → 0 ≤ vI h1 (pg + (9 + 6 * i.toNatClampNeg)) 7 := by
  intro i i0 i1 ik
  by_cases q : i = v1
  · subst q
    rw [w, if_pos ⟨rfl, rfl⟩]; exact hs
  · have n : ¬ (pg + (9 + 6 * i.toNatClampNeg) = pg + (9 + 6 * v1.toNatClampNeg)) := fun z => q (q_cmi i0 v0 (by omega))
    rw [w, if_neg (fun z => absurd z.2 (by decide))] at ik
    rw [w, if_neg (fun z => n z.1)]
    exact J i i0 (by lia) ik
theorem q_jb0 {h : z_H} {pg : Nat} {v1 : Int32} (v0 : 0 ≤ v1) (vb : v1 ≤ 100) (J : ∀ i : Int32, 0 ≤ i → i < v1 → vI h (pg + (9 + 6 * i.toNatClampNeg)) 3 = 98 ∨ vI h (pg + (9 + 6 * i.toNatClampNeg)) 3 = 116 → 0 ≤ vI h (pg + (9 + 6 * i.toNatClampNeg)) 7) (n : ¬ vI h (pg + (9 + 6 * v1.toNatClampNeg)) 3 = 98) (n' : ¬ vI h (pg + (9 + 6 * v1.toNatClampNeg)) 3 = 116) : ∀ i : Int32, 0 ≤ i → i < v1 + 1 → vI h (pg + (9 + 6 * i.toNatClampNeg)) 3 = 98 ∨ vI h (pg + (9 + 6 * i.toNatClampNeg)) 3 = 116 → 0 ≤ vI h (pg + (9 + 6 * i.toNatClampNeg)) 7 := by
  intro i i0 i1 ik
  by_cases q : i = v1
  · subst q
    rcases ik with z | z
    · exact absurd z n
    · exact absurd z n'
  · exact J i i0 (by lia) ik
theorem q_PG_of {h h' : z_H} {pg v0 : Nat} (C : q_CA h pg) (O : q_OB h pg v0) (d : vI h v0 4 = 0) (h40 : vI h pg 3 ≤ 40) (hs : vI h' pg 3 = vI h pg 3) (e : ∀ a j, vA h' a j = vA h a j) (e0 : vI h' (pg + 3) 4 = vI h (pg + 3) 4) (e1 : ∀ a k, pg + 9 ≤ a → k < 7 → vI h' a k = vI h a k) (e7 : ∀ a, pg + 9 ≤ a → a < pg + 249 → ¬ vI h a 3 = 98 → ¬ vI h a 3 = 116 → vI h' a 7 = vI h a 7) (J : ∀ i : Int32, 0 ≤ i → i < vI h pg 3 → vI h (pg + (9 + 6 * i.toNatClampNeg)) 3 = 98 ∨ vI h (pg + (9 + 6 * i.toNatClampNeg)) 3 = 116 → 0 ≤ vI h' (pg + (9 + 6 * i.toNatClampNeg)) 7) : q_PG h' pg := by
  intro i i0 i1
  rw [hs] at i1
  have b := q_cm40 i0 i1 h40
  refine ⟨q_CV_eq3 (C i i0 i1) (fun j _ _ => ⟨e _ j, e _ j⟩) (by rw [e0]; exact Int32.le_refl _) (fun a k ha _ hk => e1 a k (by omega) hk), fun z => ?_⟩
  rw [e1 _ 3 (by omega) (by decide)] at z
  have z1 : vI h (pg + (9 + 6 * i.toNatClampNeg)) 3 = 98 ∨ vI h (pg + (9 + 6 * i.toNatClampNeg)) 3 = 116 ∨ vI h (pg + (9 + 6 * i.toNatClampNeg)) 3 = 123 := z
  by_cases q : vI h (pg + (9 + 6 * i.toNatClampNeg)) 3 = 123
  · rw [e7 _ (by omega) (by omega) (by rw [q]; decide) (by rw [q]; decide)]
    rcases O i i0 i1 q with y | ⟨x, x0, x1, x2⟩
    · exact y
    · rw [d] at x1
      exact absurd x1 (by lia)
  · exact J i i0 i1 (by rcases z1 with y | y | y; exact Or.inl y; exact Or.inr y; exact absurd y q)
