/-! more of the reference; what both keep besides -/
section W5
variable {L : q_L} {W : Nat → Prop} {h h0 h' : z_H} {π : Nat → Nat → Option Nat} {sf mo N : Nat} {w : Int64}
theorem x_Mod_more (T : q_U L W h0 π h) (M : q_M L π mo) (hN : 100000 ≤ N) : qi (f_Mod_more N mo w h) (fun r => (∀ a, a ≠ mo → a ≠ mo + 2 → a ≠ mo + 3 → r.2 a = h a) ∧ ((q_okc w 0 8 ≠ 0 ∧ vI h mo 4 ≠ 0 ∧ vA h (mo + 2) (vI h mo 4 - 1) + q_cn w 8 ≤ 24 → (∀ j, 0 ≤ j → j < vA h (mo + 2) (vI h mo 4 - 1) + q_cn w 8 → vA r.2 (mo + 3) (24 * (vI h mo 4 - 1) + j) = x_app w 8 (fun j => vA h (mo + 3) (24 * (vI h mo 4 - 1) + j)) (vA h (mo + 2) (vI h mo 4 - 1)) j) ∧ (∀ j, 0 ≤ j → j < 24 * (vI h mo 4 - 1) ∨ 24 * (vI h mo 4 - 1) + 24 ≤ j → vA r.2 (mo + 3) j = vA h (mo + 3) j) ∧ ∀ j, 0 ≤ j → ¬ j = vI h mo 4 - 1 → vA r.2 (mo + 2) j = vA h (mo + 2) j) ∧ (¬ (q_okc w 0 8 ≠ 0 ∧ vI h mo 4 ≠ 0 ∧ vA h (mo + 2) (vI h mo 4 - 1) + q_cn w 8 ≤ 24) → ∀ a, a ≠ mo → r.2 a = h a))) := by
  have U := x_U_of T
  have r4 := g_Mo_4 T M
  have c1 := q_cnr_8 w
  generalize hP : (q_okc w 0 8 ≠ 0 ∧ vI h mo 4 ≠ 0 ∧ vA h (mo + 2) (vI h mo 4 - 1) + q_cn w 8 ≤ 24) = P
  have fl : ∀ (x : Int32), ¬ P → qi (z_b (f_Mod_fail N mo x h) fun r => some (r.1, r.2)) (fun r => (∀ a, a ≠ mo → a ≠ mo + 2 → a ≠ mo + 3 → r.2 a = h a) ∧ ((P → (∀ j, 0 ≤ j → j < vA h (mo + 2) (vI h mo 4 - 1) + q_cn w 8 → vA r.2 (mo + 3) (24 * (vI h mo 4 - 1) + j) = x_app w 8 (fun j => vA h (mo + 3) (24 * (vI h mo 4 - 1) + j)) (vA h (mo + 2) (vI h mo 4 - 1)) j) ∧ (∀ j, 0 ≤ j → j < 24 * (vI h mo 4 - 1) ∨ 24 * (vI h mo 4 - 1) + 24 ≤ j → vA r.2 (mo + 3) j = vA h (mo + 3) j) ∧ ∀ j, 0 ≤ j → ¬ j = vI h mo 4 - 1 → vA r.2 (mo + 2) j = vA h (mo + 2) j) ∧ (¬ P → ∀ a, a ≠ mo → r.2 a = h a))) := by
    intro x nP
    unfold f_Mod_fail
    refine qi_b (P := fun r => ∀ b, b ≠ mo → r.2 b = h b) ?_ ?_
    · refine l_sIc U (q_Mk M) (by decide) rfl ?_
      intro h1 _ c _
      exact qi_some c
    · intro r c
      exact qi_some ⟨fun a n1 _ _ => c a n1, fun z => absurd z nP, fun _ a n1 => c a n1⟩
  unfold f_Mod_more
  rcases q_ok01_8 w 0 with z1 | z1
  · have em : f_Mod_measure N w 0 h = some (-1, h) := by rw [q_measure hN w 0 h, z1, if_neg (by decide)]
    rw [em, z_b_some]
    dsimp only
    rw [z_b_some, if_neg (by decide)]
    refine qi_b (P := fun _ => True) (fun _ _ => trivial) (fun _ _ => ?_)
    exact fl 1 (fun q => by rw [← hP] at q; exact q.1 z1)
  have em : f_Mod_measure N w 0 h = some (q_cn w 8, h) := by rw [q_measure hN w 0 h, z1, if_pos rfl]
  rw [em, z_b_some]
  dsimp only
  rw [z_b_some, if_pos c1.1]
  refine l_gI (e := vI h mo 4) rfl ?_
  refine qi_if (fun c0 => ?_) (fun c0 => ?_)
  · unfold f_Mod_more_41
    refine qi_b (P := fun _ => True) (fun _ _ => trivial) (fun _ _ => ?_)
    exact fl 2 (fun q => by rw [← hP] at q; exact q.2.1 c0)
  have r6 : 0 ≤ vI h mo 4 - 1 ∧ vI h mo 4 - 1 < 12 := by
    obtain ⟨p1, p2⟩ := r4
    constructor <;> lia
  have r2 := g_Mo_e2 T M (vI h mo 4 - 1)
  refine l_gR U (d_Mo_1 M) ?_
  refine l_gI (e := vI h mo 4) rfl ?_
  refine l_aI (e := vA h (mo + 2) (vI h mo 4 - 1)) (fun _ => rfl) (fun _ => ?_)
  refine qi_if (fun c24 => ?_) (fun c24 => ?_)
  · have yP : P := by rw [← hP]; exact ⟨by rw [z1]; decide, c0, c24⟩
    refine l_sIc U (q_Mk M) (by decide) rfl ?_
    intro h10 U10 c10 i10
    have k10 : vI h10 mo 4 = vI h mo 4 := by rw [i10, if_neg (by decide)]
    refine l_gI (e := vI h mo 4) k10 ?_
    refine qi_b (P := fun _ => True) (fun _ _ => trivial) (fun _ _ => ?_)
    have a2 : vA h10 (mo + 2) = vA h (mo + 2) := x_vA_c (c10 (mo + 2) (by omega))
    have a3 : vA h10 (mo + 3) = vA h (mo + 3) := x_vA_c (c10 (mo + 3) (by omega))
    have s1 := x_uT_8 (N := N) (m := N) (w := w) (v1 := vI h mo 4 - 1) U10 M r6.1 r6.2 (by rw [a2]; exact r2.1) (by rw [a2]; exact ⟨c24, by obtain ⟨p1, p2⟩ := r2; obtain ⟨p3, p4⟩ := c1; lia⟩)
    refine qi_b (P := fun r => _) (show qi (f_Mod_addTo N mo (vI h mo 4 - 1) w h10) _ from s1) ?_
    rintro h13 ⟨U13, d13, n13, o13, b13, s13⟩
    rw [a2, a3] at b13
    rw [a3] at s13
    rw [a2] at o13
    refine l_gR U13 (d_Mo_1 M) ?_
    refine l_gI (e := vI h13 mo 4) rfl ?_
    refine l_aI (e := vA h13 (mo + 2) (vI h13 mo 4 - 1)) (fun _ => rfl) (fun _ => ?_)
    exact qi_some ⟨fun a n1 n2 n3 => (d13 a n2 n3).trans (c10 a n1), fun _ => ⟨b13, s13, o13⟩, fun z => absurd yP z⟩
  · unfold f_Mod_more_41
    refine qi_b (P := fun _ => True) (fun _ _ => trivial) (fun _ _ => ?_)
    exact fl 2 (fun q => by rw [← hP] at q; exact c24 q.2.2)
/-- the script's characters -/
def x_K1 (mo : Nat) (h : z_H) : Prop := ∀ j, 0 ≤ j → j < vI h mo 3 → x_kc (vA h (mo + 1) j)
/-- the lines -/
def x_K2 (sf mo : Nat) (h : z_H) : Prop := ∀ i : Nat, i < 12 → Int32.ofNat i < vI h mo 4 → ∀ j, 0 ≤ j → j < vA h (mo + 2) (Int32.ofNat i) → vA h (sf + (528 + 2 * i) + 1) j = vA h (mo + 3) (24 * Int32.ofNat i + j) ∧ x_kc (vA h (mo + 3) (24 * Int32.ofNat i + j))
/-- the program -/
def x_K3 (sf mo : Nat) (h : z_H) : Prop := (vI h sf 8 = 0 ∧ vI h mo 8 = 0) ∨ (¬ vI h sf 8 = 0 ∧ ¬ vI h mo 8 = 0 ∧ ∃ pg t n B, vR h sf 6 = some pg ∧ (pg = sf + 30 ∨ pg = sf + 279) ∧ (∀ j, x_kc (t j)) ∧ (0 ≤ n ∧ n ≤ 240) ∧ c_TX h pg t n ∧ c_PRG h pg t n B ∧ r_PRG h mo (vI h mo 7) t n B)
def x_K8 (sf mo : Nat) (h : z_H) : Prop := x_K1 mo h ∧ x_K2 sf mo h ∧ x_K3 sf mo h
theorem x_K1_f (K : x_K1 mo h) (m3 : vI h' mo 3 = vI h mo 3) (m1 : ∀ j, 0 ≤ j → vA h' (mo + 1) j = vA h (mo + 1) j) : x_K1 mo h' := fun j j0 j1 => by
  rw [m1 j j0]
  exact K j j0 (by rw [← m3]; exact j1)
theorem x_i24 {i : Nat} {j : Int32} (hi : i < 12) (j0 : 0 ≤ j) (j1 : j ≤ 24) : 0 ≤ 24 * Int32.ofNat i + j := by
  have e : (Int32.ofNat i).toInt = i := Int32.toInt_ofNat_of_lt (by omega)
  have a : 0 ≤ Int32.ofNat i := Int32.le_iff_toInt_le.mpr (by rw [e]; exact Int.natCast_nonneg i)
  have b : Int32.ofNat i < 12 := Int32.lt_iff_toInt_lt.mpr (by rw [e]; have z : (12 : Int32).toInt = 12 := rfl; omega)
  lia
theorem x_on0 {i : Nat} (hi : i < 12) : 0 ≤ Int32.ofNat i ∧ Int32.ofNat i < 12 := by
  have e : (Int32.ofNat i).toInt = i := Int32.toInt_ofNat_of_lt (by omega)
  exact ⟨Int32.le_iff_toInt_le.mpr (by rw [e]; exact Int.natCast_nonneg i), Int32.lt_iff_toInt_lt.mpr (by rw [e]; have z : (12 : Int32).toInt = 12 := rfl; omega)⟩
theorem x_K2_f (K : x_K2 sf mo h) (T : q_U L W h0 π h) (M : q_M L π mo) (m4 : vI h' mo 4 = vI h mo 4) (m2 : ∀ j, 0 ≤ j → vA h' (mo + 2) j = vA h (mo + 2) j) (m3 : ∀ j, 0 ≤ j → vA h' (mo + 3) j = vA h (mo + 3) j) (c : ∀ i : Nat, i < 12 → ∀ j, 0 ≤ j → vA h' (sf + (528 + 2 * i) + 1) j = vA h (sf + (528 + 2 * i) + 1) j) : x_K2 sf mo h' := fun i hi il j j0 j1 => by
  rw [m2 _ (x_on0 hi).1] at j1
  have le := Int32.le_trans (Int32.le_of_lt j1) (g_Mo_e2 T M _).2
  rw [c i hi j j0, m3 _ (x_i24 hi j0 le)]
  exact K i hi (by rw [← m4]; exact il) j j0 j1
theorem q_cm12 {i : Int32} (i0 : 0 ≤ i) (i1 : i < 12) : i.toNatClampNeg < 12 := by
  have a0 := Int32.le_iff_toInt_le.mp i0
  have a1 := Int32.lt_iff_toInt_lt.mp i1
  have z0 : (0 : Int32).toInt = 0 := rfl
  have z2 : (12 : Int32).toInt = 12 := rfl
  show i.toInt.toNat < 12
  omega
theorem x_on9 {i : Nat} (hi : i < 12) : (Int32.ofNat i).toNatClampNeg = i := by
  have e : (Int32.ofNat i).toInt = i := Int32.toInt_ofNat_of_lt (by omega)
  show (Int32.ofNat i).toInt.toNat = i
  omega
theorem x_K2_up {p : Int32} (Kb : x_K2 sf mo h) (ln : ∀ i, vA h (mo + 2) i ≤ 24) (p0 : 0 ≤ p) (p1 : p < 12) (cnt : ∀ i : Nat, i < 12 → ¬ Int32.ofNat i = p → Int32.ofNat i < vI h' mo 4 → Int32.ofNat i < vI h mo 4) (l2 : ∀ j, 0 ≤ j → ¬ j = p → vA h' (mo + 2) j = vA h (mo + 2) j) (a3 : ∀ j, 0 ≤ j → j < 24 * p ∨ 24 * p + 24 ≤ j → vA h' (mo + 3) j = vA h (mo + 3) j) (cl : ∀ i : Nat, i < 12 → i ≠ p.toNatClampNeg → ∀ j, 0 ≤ j → vA h' (sf + (528 + 2 * i) + 1) j = vA h (sf + (528 + 2 * i) + 1) j) (new : ∀ j, 0 ≤ j → j < vA h' (mo + 2) p → vA h' (sf + (528 + 2 * p.toNatClampNeg) + 1) j = vA h' (mo + 3) (24 * p + j) ∧ x_kc (vA h' (mo + 3) (24 * p + j))) : x_K2 sf mo h' := by
  intro i hi il j j0 jl
  by_cases q : Int32.ofNat i = p
  · have ei : i = p.toNatClampNeg := by rw [← q, x_on9 hi]
    rw [q] at jl ⊢
    rw [ei]
    exact new j j0 jl
  · have i0 := x_on0 hi
    rw [l2 _ i0.1 q] at jl
    have le := ln (Int32.ofNat i)
    have ne : i ≠ p.toNatClampNeg := fun w => q (by rw [w]; exact Int32.ofNat_toNatClampNeg _ p0)
    have j24 : j < 24 := Int32.lt_of_lt_of_le jl le
    obtain ⟨i1, i2⟩ := i0
    have ex : 24 * Int32.ofNat i + j < 24 * p ∨ 24 * p + 24 ≤ 24 * Int32.ofNat i + j := by
      by_cases c : Int32.ofNat i < p
      · left; lia
      · right; lia
    rw [cl i hi ne j j0, a3 _ (x_i24 hi j0 (Int32.le_of_lt j24)) ex]
    exact Kb i hi (cnt i hi q il) j j0 jl
theorem r_PRG_a {f : Int32} {t : Int32 → Int32} {n : Int32} {B : x_SS} (P : r_PRG h mo f t n B) (e : ∀ a, mo + 4 ≤ a → a ≤ mo + 31 → ∀ j, 0 ≤ j → vA h' a j = vA h a j) (l1 : vL h' (mo + 32) = vL h (mo + 32)) (l2 : vL h' (mo + 33) = vL h (mo + 33)) : r_PRG h' mo f t n B :=
  r_PRG_f (g := 1 - f) P rfl ⟨fun a ha j j0 _ => e a (by omega) (by omega) j j0, fun j j0 _ => e _ (by omega) (by omega) j j0, fun j j0 _ => ⟨e _ (by omega) (by omega) j j0, e _ (by omega) (by omega) j j0, e _ (by omega) (by omega) j j0, e _ (by omega) (by omega) j j0, e _ (by omega) (by omega) j j0⟩, fun j j0 _ => ⟨e _ (by omega) (by omega) j j0, e _ (by omega) (by omega) j j0, e _ (by omega) (by omega) j j0, by rw [l1], by rw [l2]⟩, fun j j0 _ => e _ (by omega) (by omega) j j0⟩
theorem c_TX_f {pg : Nat} {t : Int32 → Int32} {n : Int32} (P : c_TX h pg t n) (i : vI h' (pg + 1) 1 = vI h (pg + 1) 1) (a : vA h' (pg + 1 + 1) = vA h (pg + 1 + 1)) : c_TX h' pg t n := ⟨fun j j0 j1 => by rw [a]; exact P.1 j j0 j1, i.trans P.2⟩
theorem c_PRG_f9 {pg : Nat} {B : x_SS} {t : Int32 → Int32} {n : Int32} (P : c_PRG h pg t n B) (i : ∀ a k, pg ≤ a → a < pg + 249 → ¬ k = 15 → vI h' a k = vI h a k) (a : ∀ b, pg ≤ b → b < pg + 9 → vA h' b = vA h b) (l : ∀ b, pg ≤ b → b < pg + 9 → vL h' b = vL h b) : c_PRG h' pg t n B := by
  obtain ⟨⟨p1, p2, p3⟩, c⟩ := P
  refine ⟨⟨(i pg 3 (by omega) (by omega) (by decide)).trans p1, p2, p3⟩, fun k k0 k1 => ?_⟩
  obtain ⟨c1, c2, c3⟩ := c k k0 k1
  have kk : k.toNatClampNeg < 40 := q_clp k0 (Int32.lt_of_lt_of_le k1 p3)
  have b1 : pg + 9 ≤ y_cm pg k ∧ y_cm pg k + 6 ≤ pg + 249 := by unfold y_cm; omega
  refine ⟨c_CMD_f c1 (c_FB_a (a _ (by omega) (by omega)) (a _ (by omega) (by omega)) (l _ (by omega) (by omega)) (l _ (by omega) (by omega))) (Int32.le_of_eq (i (pg + 3) 4 (by omega) (by omega) (by decide)).symm) (fun b k' h1 h2 _ h15 => i b k' (by omega) (by omega) h15), fun z => ?_, fun z => ?_⟩
  · rw [i _ 7 (by omega) (by omega) (by decide), i _ 8 (by omega) (by omega) (by decide)]; exact c2 z
  · rw [i _ 7 (by omega) (by omega) (by decide)]; exact c3 z
theorem x_K3_f (K : x_K3 sf mo h) (c8 : vI h' sf 8 = vI h sf 8) (c6 : vR h' sf 6 = vR h sf 6) (ci : ∀ a k, sf + 30 ≤ a → a < sf + 528 → ¬ k = 15 → vI h' a k = vI h a k) (ca : ∀ a, (sf + 30 ≤ a ∧ a < sf + 39) ∨ (sf + 279 ≤ a ∧ a < sf + 288) → vA h' a = vA h a) (cl : ∀ a, (sf + 30 ≤ a ∧ a < sf + 39) ∨ (sf + 279 ≤ a ∧ a < sf + 288) → vL h' a = vL h a) (m7 : vI h' mo 7 = vI h mo 7) (m8 : vI h' mo 8 = vI h mo 8) (e : ∀ a, mo + 4 ≤ a → a ≤ mo + 31 → ∀ j, 0 ≤ j → vA h' a j = vA h a j) (l1 : vL h' (mo + 32) = vL h (mo + 32)) (l2 : vL h' (mo + 33) = vL h (mo + 33)) : x_K3 sf mo h' := by
  unfold x_K3
  rw [c8, m8, c6, m7]
  rcases K with K | ⟨k1, k2, pg, t, n, B, p6, pp, kt, nn, X, C, R⟩
  · exact Or.inl K
  · have b1 : sf + 30 ≤ pg ∧ pg + 249 ≤ sf + 528 := by omega
    exact Or.inr ⟨k1, k2, pg, t, n, B, p6, pp, kt, nn, c_TX_f X (ci _ _ (by omega) (by omega) (by decide)) (ca _ (by omega)), c_PRG_f9 C (fun a k h1 h2 h3 => ci a k (by omega) (by omega) h3) (fun a h1 h2 => ca a (by omega)) (fun a h1 h2 => cl a (by omega)), r_PRG_a R e l1 l2⟩
theorem x_vR_c {a k : Nat} (e : h' a = h a) : vR h' a k = vR h a k := by unfold vR; rw [e]
end W5
