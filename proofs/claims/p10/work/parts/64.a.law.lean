/-! the law's calls: class and reference side by side -/
def q_Wm (mo : Nat) : Nat → Prop := fun a => mo ≤ a ∧ a < mo + 46
def q_INV (L : q_L) (sf mo : Nat) (h : z_H) : Prop := ∃ π, q_U L (fun _ => True) h π h ∧ q_M L π mo ∧ q_IC L π h sf ∧ (vI h mo 8 ≠ 0 → q_LV h mo (vI h mo 7)) ∧ vI h (sf + 1) 1 = vI h mo 3 ∧ vI h sf 5 = vI h mo 4 ∧ (∀ j : Nat, j < 12 → Int32.ofNat j < vI h mo 4 → vI h (sf + (528 + 2 * j)) 1 = vA h (mo + 2) (Int32.ofNat j)) ∧ ∀ j, 0 ≤ j → j < vI h mo 3 → vA h (sf + 2) j = vA h (mo + 1) j
theorem x_01 {l : Int32} (a : 0 ≤ l) (b : l ≤ 1) : l = 0 ∨ l = 1 := by lia
theorem x_app_lt (w : Int64) {f g : Int32 → Int32} {n : Int32} (n0 : 0 ≤ n) (n1 : n ≤ 240) (rm : n + q_cn w 8 ≤ 240) (e : ∀ i, 0 ≤ i → i < n → f i = g i) : ∀ j, 0 ≤ j → j < n + q_cn w 8 → x_app w 8 f n j = x_app w 8 g n j := x_al_8 w f g n n0 ⟨rm, x_rm5 n0 n1 (q_cnr_8 w)⟩ e
section LAW
variable {L : q_L} {W W' : Nat → Prop} {h0 : z_H} {π : Nat → Nat → Option Nat} {h h1 h2 : z_H} {sf mo ou N : Nat}
theorem q_root (T : q_U L W h0 π h) : q_U L W' h π h := ⟨T.1, T.2.1, T.2.2.1, T.2.2.2.1, T.2.2.2.2.1, T.2.2.2.2.2.1, T.2.2.2.2.2.2.1, fun _ _ => rfl⟩
theorem q_M_eq {π' : Nat → Nat → Option Nat} (M : q_M L π mo) (f : ∀ k, π' mo k = π mo k) : q_M L π' mo := by
  refine ⟨M.1, M.2.1, ?_⟩
  have z := M.2.2
  unfold q_F_Mo q_FM0 q_FM1 q_FM2 q_FM3 at *
  simp only [f]
  exact z
theorem q_LVk (T : q_U L W h0 π h) (M : q_M L π mo) (V : vI h mo 8 ≠ 0 → q_LV h mo (vI h mo 7)) (e8 : vI h1 mo 8 = vI h mo 8) (e7 : vI h1 mo 7 = vI h mo 7) (e : ∀ a j, 0 ≤ j → (mo + 4 ≤ a ∧ a ≤ mo + 27) → vA h1 a j = vA h a j) : vI h1 mo 8 ≠ 0 → q_LV h1 mo (vI h1 mo 7) := by
  intro p
  rw [e8] at p
  rw [e7]
  exact q_LV_run (V p) (g_Mo_7 T M).1 (g_Mo_7 T M).2 (g_Mo_e19 T M _).2 (g_Mo_e22 T M _).1 (g_Mo_e22 T M _).2 e
theorem q_on {j : Nat} (hj : j < 12) : (0 : Int32) ≤ Int32.ofNat j := by
  have e : (Int32.ofNat j).toInt = j := by rw [Int32.toInt_ofNat_of_lt]; omega
  refine Int32.le_iff_toInt_le.mpr ?_
  have e0 : (0 : Int32).toInt = 0 := rfl
  omega
theorem q_ofc {x : Int32} (h : 0 ≤ x) : Int32.ofNat x.toNatClampNeg = x := by
  apply Int32.toInt_inj.mp
  have e1 : x.toNatClampNeg = x.toInt.toNat := rfl
  have e2 := Int32.le_iff_toInt_le.mp h
  have e0 : (0 : Int32).toInt = 0 := rfl
  have e3 := x.toInt_lt
  rw [Int32.toInt_ofNat_of_lt (by omega)]
  omega
theorem q_ofne {x : Int32} {j : Nat} (hj : j < 12) (ne : j ≠ x.toNatClampNeg) (h : 0 ≤ x) : Int32.ofNat j ≠ x := by
  intro e
  apply ne
  have e1 : (Int32.ofNat j).toInt = j := by rw [Int32.toInt_ofNat_of_lt]; omega
  have e2 : x.toNatClampNeg = x.toInt.toNat := rfl
  rw [e2, ← e, e1]; omega
theorem q_ltn {x y : Int32} (a : 0 ≤ x) (b : x ≤ 12) (ne : y ≠ x) (l : y < x + 1) : y < x := by lia
theorem q_m10 {x : Int32} (a : 0 ≤ x) (b : x ≤ 12) (c : ¬ x = 0) : 0 ≤ x - 1 := by lia
theorem q_m11 {x : Int32} (a : 0 ≤ x) (b : x ≤ 12) (c : ¬ x = 0) : x - 1 < x := by lia
/-- between the two calls -/
def q_MID (L : q_L) (π : Nat → Nat → Option Nat) (sf mo : Nat) (h h1 : z_H) : Prop := q_U L (q_Wm mo) h1 π h1 ∧ q_M L π mo ∧ q_IC L π h1 sf ∧ (vI h1 mo 8 ≠ 0 → q_LV h1 mo (vI h1 mo 7)) ∧ vI h1 mo 3 = vI h mo 3 ∧ vI h1 mo 4 = vI h mo 4 ∧ (∀ j, 0 ≤ j → vA h1 (mo + 2) j = vA h (mo + 2) j) ∧ ∀ j, 0 ≤ j → vA h1 (mo + 1) j = vA h (mo + 1) j
theorem q_mid (T : q_U L (fun _ => True) h π h) (M : q_M L π mo) (V : vI h mo 8 ≠ 0 → q_LV h mo (vI h mo 7)) (d1 : sf + 552 ≤ mo) (R : q_WR0 L (fun _ => True) h π sf h h1) : ∃ π', q_MID L π' sf mo h h1 := by
  obtain ⟨π', T1, I1, F1, F2, F3⟩ := R
  have M1 : q_M L π' mo := q_M_eq M (fun k => F3 mo k (by omega))
  exact ⟨π', q_root T1, M1, I1, q_LVk T M V (F1 _ _ (by omega) (by decide)) (F1 _ _ (by omega) (by decide)) (fun a j j0 z => F2 a j j0 (by omega)), F1 _ _ (by omega) (by decide), F1 _ _ (by omega) (by decide), fun j j0 => F2 _ j j0 (by omega), fun j j0 => F2 _ j j0 (by omega)⟩
theorem q_end (D : q_MID L π sf mo h h1) (d1 : sf + 552 ≤ mo) (T2 : q_U L (q_Wm mo) h1 π h2) (f1 : ∀ a k, a ≠ mo → vI h2 a k = vI h1 a k) (f2 : ∀ a j, 0 ≤ j → (a ≤ mo ∨ mo + 46 ≤ a) → vA h2 a j = vA h1 a j) (V2 : vI h2 mo 8 ≠ 0 → q_LV h2 mo (vI h2 mo 7)) (e1 : vI h1 (sf + 1) 1 = vI h2 mo 3) (e2 : vI h1 sf 5 = vI h2 mo 4) (e3 : ∀ j : Nat, j < 12 → Int32.ofNat j < vI h2 mo 4 → vI h1 (sf + (528 + 2 * j)) 1 = vA h2 (mo + 2) (Int32.ofNat j)) (e4 : ∀ j, 0 ≤ j → j < vI h2 mo 3 → vA h1 (sf + 2) j = vA h2 (mo + 1) j) : q_INV L sf mo h2 := by
  obtain ⟨T1, M1, I1, -⟩ := D
  refine ⟨π, q_root T2, M1, q_IC_eq T1 I1 (fun _ _ _ => rfl) (fun z => z) (fun a k _ _ _ => f1 a k (by omega)) (fun a j j0 _ _ => f2 a j j0 (by omega)), V2, ?_, ?_, fun j hj jl => ?_, fun j j0 jl => ?_⟩
  · rw [f1 _ _ (by omega)]; exact e1
  · rw [f1 _ _ (by omega)]; exact e2
  · rw [f1 _ _ (by omega)]; exact e3 j hj jl
  · rw [f2 _ j j0 (by omega)]; exact e4 j j0 jl
theorem q_Wmw : ∀ a, mo ≤ a → a < mo + 46 → q_Wm mo a := fun _ a b => ⟨a, b⟩
theorem q_gOm (T : q_U L W h0 π h) (M : q_M L π mo) : gO h mo 12 = some () := q_gO (ci := 12) T.2.2 M.1 (by decide)
theorem q_aLk (T2 : q_U L (q_Wm mo) h1 π h2) (d2 : mo + 46 ≤ ou) : aL h2 ou 0 = aL h1 ou 0 := by
  have e := T2.2.2.2.2.2.2.2 ou (fun z => by have := z.2; omega)
  unfold aL
  rw [e]
theorem q_thr (T : q_U L W h0 π h) (M : q_M L π mo) : f_Mod_thrown N mo h = some (vI h mo 6, h) := by
  obtain ⟨r, e, a, b⟩ := p_Mod_thrown (N := N) T M
  rw [e]
  obtain ⟨x, y⟩ := r
  dsimp only at a b
  rw [a, b]
/-- lengths after calls that keep them -/
theorem q_KPe (D : q_MID L π sf mo h h1) (K : q_KP sf h h1) (e1 : vI h (sf + 1) 1 = vI h mo 3) (e2 : vI h sf 5 = vI h mo 4) (e3 : ∀ j : Nat, j < 12 → Int32.ofNat j < vI h mo 4 → vI h (sf + (528 + 2 * j)) 1 = vA h (mo + 2) (Int32.ofNat j)) : vI h1 (sf + 1) 1 = vI h1 mo 3 ∧ vI h1 sf 5 = vI h1 mo 4 ∧ ∀ j : Nat, j < 12 → Int32.ofNat j < vI h1 mo 4 → vI h1 (sf + (528 + 2 * j)) 1 = vA h1 (mo + 2) (Int32.ofNat j) := by
  obtain ⟨-, -, -, -, m3, m4, m2, -⟩ := D
  refine ⟨by rw [K.1, m3]; exact e1, by rw [K.2.1, m4]; exact e2, fun j hj jl => ?_⟩
  rw [m4] at jl
  rw [K.2.2 j hj, m2 _ (q_on hj)]; exact e3 j hj jl
theorem q_TE (D : q_MID L π sf mo h h1) (k : ∀ j, 0 ≤ j → vA h1 (sf + 2) j = vA h (sf + 2) j) (e4 : ∀ j, 0 ≤ j → j < vI h mo 3 → vA h (sf + 2) j = vA h (mo + 1) j) (a3 : vI h2 mo 3 = vI h1 mo 3) (a1 : ∀ j, 0 ≤ j → vA h2 (mo + 1) j = vA h1 (mo + 1) j) : ∀ j, 0 ≤ j → j < vI h2 mo 3 → vA h1 (sf + 2) j = vA h2 (mo + 1) j := by
  obtain ⟨-, -, -, -, m3, m4, m2, m1⟩ := D
  intro j j0 jl
  rw [a3, m3] at jl
  rw [k j j0, a1 j j0, m1 j j0]
  exact e4 j j0 jl
theorem l_where  (hN : 100000 ≤ N) (ks : qκ L sf = 12) (ko : qκ L ou = 1 * 1000 + 200) (d1 : sf + 552 ≤ mo) (d2 : mo + 46 ≤ ou) (V : q_INV L sf mo h) : ∃ y h1 b h2, gO h sf 11 = some () ∧ f_SF_where N sf h = some (y, h1) ∧ gO h1 mo 12 = some () ∧ f_Mod_where N mo h1 = some (b, h2) ∧ q_INV L sf mo h2 := by
  obtain ⟨π, T, M, I, L0, e1, e2, e3, e4⟩ := V
  obtain ⟨⟨y, h1⟩, c1, c2⟩ := p_SF_where (N := N) T ks
  dsimp only at c2
  subst c2
  have W1 : q_WR L (fun _ => True) h1 π sf h1 h1 := ⟨π, T, I, fun _ _ _ _ => rfl, fun _ _ _ _ => rfl, fun _ _ _ => rfl⟩
  have K1 : q_KP sf h1 h1 := ⟨rfl, rfl, fun _ _ => rfl⟩
  obtain ⟨π1, D⟩ := q_mid T M L0 d1 (q_WR_0 W1)
  obtain ⟨k1, k2, k3⟩ := q_KPe D K1 e1 e2 e3
  obtain ⟨T1, M1, I1, L1, -⟩ := id D
  obtain ⟨⟨b, h2⟩, c3, T2, g0, g1⟩ := p_Mod_where (N := N) T1 M1 q_Wmw
  dsimp only at *
  refine ⟨y, h1, b, h2, q_gO (ci := 11) T.2.2 ks (by decide), c1, q_gOm T1 M1, c3, q_end D d1 T2 (fun a k z => g0 a k (by omega)) (fun a j j0 z => g1 a j) (q_LVk T1 M1 L1 (g0 _ _ (by omega)) (g0 _ _ (by omega)) (fun a j j0 z => g1 a j)) ?_ ?_ (fun j hj jl => ?_) (q_TE D (q_WR_T W1) e4 (g0 _ _ (by omega)) (fun j j0 => g1 _ j))⟩
  · rw [g0 _ _ (by omega)]; exact k1
  · rw [g0 _ _ (by omega)]; exact k2
  · rw [g0 _ _ (by omega)] at jl; rw [g1 _ _]; exact k3 j hj jl
theorem l_out {w : Int32} (hN : 100000 ≤ N) (ks : qκ L sf = 12) (ko : qκ L ou = 1 * 1000 + 200) (d1 : sf + 552 ≤ mo) (d2 : mo + 46 ≤ ou) (V : q_INV L sf mo h) : ∃ y h1 b h2, f_Law_out N sf w ou h = some (y, h1) ∧ gO h1 mo 12 = some () ∧ f_Mod_out N mo w h1 = some (b, h2) ∧ q_INV L sf mo h2 := by
  obtain ⟨π, T, M, I, L0, e1, e2, e3, e4⟩ := V
  obtain ⟨⟨y, h1⟩, c1, W1, K1⟩ := i_out (N := N) (w := w) T ks (fun _ _ _ => trivial) ko trivial I hN
  obtain ⟨π1, D⟩ := q_mid T M L0 d1 (q_WR_0 W1)
  obtain ⟨k1, k2, k3⟩ := q_KPe D K1 e1 e2 e3
  obtain ⟨T1, M1, I1, L1, -⟩ := id D
  obtain ⟨⟨b, h2⟩, c3, T2, g0, g1⟩ := p_Mod_out (N := N) (v1 := w) T1 M1 q_Wmw
  dsimp only at *
  refine ⟨y, h1, b, h2, c1, q_gOm T1 M1, c3, q_end D d1 T2 (fun a k z => g0 a k (by omega)) (fun a j j0 z => g1 a j) (q_LVk T1 M1 L1 (g0 _ _ (by omega)) (g0 _ _ (by omega)) (fun a j j0 z => g1 a j)) ?_ ?_ (fun j hj jl => ?_) (q_TE D (q_WR_T W1) e4 (g0 _ _ (by omega)) (fun j j0 => g1 _ j))⟩
  · rw [g0 _ _ (by omega)]; exact k1
  · rw [g0 _ _ (by omega)]; exact k2
  · rw [g0 _ _ (by omega)] at jl; rw [g1 _ _]; exact k3 j hj jl
theorem l_ran {w : Int32} (hN : 100000 ≤ N) (ks : qκ L sf = 12) (ko : qκ L ou = 1 * 1000 + 200) (d1 : sf + 552 ≤ mo) (d2 : mo + 46 ≤ ou) (V : q_INV L sf mo h) : ∃ y h1 b h2, f_Law_ran N sf w ou h = some (y, h1) ∧ gO h1 mo 12 = some () ∧ f_Mod_ran N mo w h1 = some (b, h2) ∧ q_INV L sf mo h2 := by
  obtain ⟨π, T, M, I, L0, e1, e2, e3, e4⟩ := V
  obtain ⟨⟨y, h1⟩, c1, W1, K1⟩ := i_ran (N := N) (w := w) T ks (fun _ _ _ => trivial) ko trivial I hN
  obtain ⟨π1, D⟩ := q_mid T M L0 d1 (q_WR_0 W1)
  obtain ⟨k1, k2, k3⟩ := q_KPe D K1 e1 e2 e3
  obtain ⟨T1, M1, I1, L1, -⟩ := id D
  obtain ⟨⟨b, h2⟩, c3, T2, g0, g1⟩ := p_Mod_ran (N := N) (v1 := w) T1 M1 q_Wmw
  dsimp only at *
  refine ⟨y, h1, b, h2, c1, q_gOm T1 M1, c3, q_end D d1 T2 (fun a k z => g0 a k (by omega)) (fun a j j0 z => g1 a j) (q_LVk T1 M1 L1 (g0 _ _ (by omega)) (g0 _ _ (by omega)) (fun a j j0 z => g1 a j)) ?_ ?_ (fun j hj jl => ?_) (q_TE D (q_WR_T W1) e4 (g0 _ _ (by omega)) (fun j j0 => g1 _ j))⟩
  · rw [g0 _ _ (by omega)]; exact k1
  · rw [g0 _ _ (by omega)]; exact k2
  · rw [g0 _ _ (by omega)] at jl; rw [g1 _ _]; exact k3 j hj jl
theorem l_count {w : Int32} (hN : 100000 ≤ N) (ks : qκ L sf = 12) (ko : qκ L ou = 1 * 1000 + 200) (d1 : sf + 552 ≤ mo) (d2 : mo + 46 ≤ ou) (V : q_INV L sf mo h) : ∃ y h1 b h2, f_Law_count N sf w ou h = some (y, h1) ∧ gO h1 mo 12 = some () ∧ f_Mod_count N mo w h1 = some (b, h2) ∧ q_INV L sf mo h2 := by
  obtain ⟨π, T, M, I, L0, e1, e2, e3, e4⟩ := V
  obtain ⟨⟨y, h1⟩, c1, W1, K1⟩ := i_count (N := N) (w := w) T ks (fun _ _ _ => trivial) ko trivial I hN
  obtain ⟨π1, D⟩ := q_mid T M L0 d1 (q_WR_0 W1)
  obtain ⟨k1, k2, k3⟩ := q_KPe D K1 e1 e2 e3
  obtain ⟨T1, M1, I1, L1, -⟩ := id D
  obtain ⟨⟨b, h2⟩, c3, T2, g0, g1⟩ := p_Mod_count (N := N) (v1 := w) T1 M1 q_Wmw
  dsimp only at *
  refine ⟨y, h1, b, h2, c1, q_gOm T1 M1, c3, q_end D d1 T2 (fun a k z => g0 a k (by omega)) (fun a j j0 z => g1 a j) (q_LVk T1 M1 L1 (g0 _ _ (by omega)) (g0 _ _ (by omega)) (fun a j j0 z => g1 a j)) ?_ ?_ (fun j hj jl => ?_) (q_TE D (q_WR_T W1) e4 (g0 _ _ (by omega)) (fun j j0 => g1 _ j))⟩
  · rw [g0 _ _ (by omega)]; exact k1
  · rw [g0 _ _ (by omega)]; exact k2
  · rw [g0 _ _ (by omega)] at jl; rw [g1 _ _]; exact k3 j hj jl
theorem l_parse  (hN : 100000 ≤ N) (ks : qκ L sf = 12) (ko : qκ L ou = 1 * 1000 + 200) (d1 : sf + 552 ≤ mo) (d2 : mo + 46 ≤ ou) (V : q_INV L sf mo h) : ∃ y h1 b h2, f_Law_parse N sf  ou h = some (y, h1) ∧ gO h1 mo 12 = some () ∧ f_Mod_parse N mo  h1 = some (b, h2) ∧ q_INV L sf mo h2 ∧ gO h2 mo 12 = some () ∧ f_Mod_thrown N mo h2 = some (y, h2) ∧ (y = 0 → aL h2 ou 0 = some (Int32.toInt64 b)) := by
  obtain ⟨π, T, M, I, L0, e1, e2, e3, e4⟩ := V
  obtain ⟨⟨y, h1⟩, c1, W1, K1⟩ := i_parse (N := N) T ks (fun _ _ _ => trivial) ko trivial I hN
  obtain ⟨π1, D⟩ := q_mid T M L0 d1 (q_WR_0 W1)
  obtain ⟨k1, k2, k3⟩ := q_KPe D K1 e1 e2 e3
  obtain ⟨T1, M1, I1, L1, -⟩ := id D
  obtain ⟨⟨b, h2⟩, c3, T2, g0, g1, g2⟩ := p_Mod_parse (N := N) T1 M1 q_Wmw L1 hN
  dsimp only at *
  have V9 : q_INV L sf mo h2 := q_end D d1 T2 (fun a k z => g0 a k (by omega)) (fun a j j0 z => g1 a j j0 (by omega)) g2 (by rw [g0 _ _ (by omega)]; exact k1) (by rw [g0 _ _ (by omega)]; exact k2) (fun j hj jl => by rw [g0 _ _ (by omega)] at jl; rw [g1 _ _ (q_on hj) (by omega)]; exact k3 j hj jl) (q_TE D (q_WR_T W1) e4 (g0 _ _ (by omega)) (fun j j0 => g1 _ j j0 (by omega)))
  have m1 := D.2.2.2.2.2.2.2
  have m3 := D.2.2.2.2.1
  have lv := g_Mo_7 T1 M1
  have A := x_Law_parse (t := vA h (mo + 1)) (n := vI h mo 3) T ks (fun _ _ _ => trivial) ko trivial I hN e4 e1 (fun j q => absurd (q ▸ (g_Mo_e1 T M j).1) (by decide)) _ c1
  have B := (i_Mod_parse (t := vA h (mo + 1)) (n := vI h mo 3) (x_U_of T1) M1 (fun j j0 _ => m1 j j0) m3 (g_Mo_3 T M).2 (fun j q => absurd (q ▸ (g_Mo_e1 T M j).1) (by decide)) (x_01 lv.1 lv.2) _ c3).2
  dsimp only at A B
  refine ⟨y, h1, b, h2, c1, q_gOm T1 M1, c3, V9, q_gOm T2 M1, ?_⟩
  rw [q_thr T2 M1]
  rcases A with ⟨y0, s, P, o⟩ | ⟨y1, P⟩
  · rcases B with ⟨w0, Q⟩ | ⟨w1, Q⟩
    · refine ⟨by rw [w0, y0], fun _ => ?_⟩
      rw [q_aLk T2 d2, o, x_P11 P Q]
    · exact absurd (x_P10 P Q) (fun z => z)
  · rcases B with ⟨w0, Q⟩ | ⟨w1, Q⟩
    · exact absurd (x_P10 Q P) (fun z => z)
    · exact ⟨by rw [w1, y1], fun z => absurd (y1.symm.trans z) (by decide)⟩
theorem l_run  (hN : 100000 ≤ N) (ks : qκ L sf = 12) (ko : qκ L ou = 1 * 1000 + 200) (d1 : sf + 552 ≤ mo) (d2 : mo + 46 ≤ ou) (V : q_INV L sf mo h) : ∃ y h1 b h2, f_Law_run N sf  ou h = some (y, h1) ∧ gO h1 mo 12 = some () ∧ f_Mod_run N mo  h1 = some (b, h2) ∧ q_INV L sf mo h2 := by
  obtain ⟨π, T, M, I, L0, e1, e2, e3, e4⟩ := V
  obtain ⟨⟨y, h1⟩, c1, W1, K1⟩ := i_run (N := N) T ks (fun _ _ _ => trivial) ko trivial I hN
  obtain ⟨π1, D⟩ := q_mid T M L0 d1 (q_WR_0 W1)
  obtain ⟨k1, k2, k3⟩ := q_KPe D K1 e1 e2 e3
  obtain ⟨T1, M1, I1, L1, -⟩ := id D
  obtain ⟨⟨b, h2⟩, c3, T2, g0, g1⟩ := p_Mod_run (N := N) T1 M1 q_Wmw L1 hN
  dsimp only at *
  refine ⟨y, h1, b, h2, c1, q_gOm T1 M1, c3, q_end D d1 T2 (fun a k z => g0 a k (by omega)) (fun a j j0 z => g1 a j j0 (by omega)) (q_LVk T1 M1 L1 (g0 _ _ (by omega)) (g0 _ _ (by omega)) (fun a j j0 z => g1 a j j0 (by omega))) ?_ ?_ (fun j hj jl => ?_) (q_TE D (q_WR_T W1) e4 (g0 _ _ (by omega)) (fun j j0 => g1 _ j j0 (by omega)))⟩
  · rw [g0 _ _ (by omega)]; exact k1
  · rw [g0 _ _ (by omega)]; exact k2
  · rw [g0 _ _ (by omega)] at jl; rw [g1 _ _ (q_on hj) (by omega)]; exact k3 j hj jl
theorem l_match {w : Int32} {u : Int32} {v : Int32} (hN : 100000 ≤ N) (ks : qκ L sf = 12) (ko : qκ L ou = 1 * 1000 + 200) (d1 : sf + 552 ≤ mo) (d2 : mo + 46 ≤ ou) (V : q_INV L sf mo h) : ∃ y h1 b h2, f_Law_match N sf w u v ou h = some (y, h1) ∧ gO h1 mo 12 = some () ∧ f_Mod_match N mo w u v h1 = some (b, h2) ∧ q_INV L sf mo h2 := by
  obtain ⟨π, T, M, I, L0, e1, e2, e3, e4⟩ := V
  obtain ⟨⟨y, h1⟩, c1, W1, K1⟩ := i_match (N := N) (w := w) (u := u) (v := v) T ks (fun _ _ _ => trivial) ko trivial I hN
  obtain ⟨π1, D⟩ := q_mid T M L0 d1 (q_WR_0 W1)
  obtain ⟨k1, k2, k3⟩ := q_KPe D K1 e1 e2 e3
  obtain ⟨T1, M1, I1, L1, -⟩ := id D
  obtain ⟨⟨b, h2⟩, c3, T2, g0, g1⟩ := p_Mod_match (N := N) (v1 := w) (v2 := u) (v3 := v) T1 M1 q_Wmw L1 hN
  dsimp only at *
  refine ⟨y, h1, b, h2, c1, q_gOm T1 M1, c3, q_end D d1 T2 (fun a k z => g0 a k (by omega)) (fun a j j0 z => g1 a j j0 (by omega)) (q_LVk T1 M1 L1 (g0 _ _ (by omega)) (g0 _ _ (by omega)) (fun a j j0 z => g1 a j j0 (by omega))) ?_ ?_ (fun j hj jl => ?_) (q_TE D (q_WR_T W1) e4 (g0 _ _ (by omega)) (fun j j0 => g1 _ j j0 (by omega)))⟩
  · rw [g0 _ _ (by omega)]; exact k1
  · rw [g0 _ _ (by omega)]; exact k2
  · rw [g0 _ _ (by omega)] at jl; rw [g1 _ _ (q_on hj) (by omega)]; exact k3 j hj jl
theorem l_script {w : Int64} (hN : 100000 ≤ N) (ks : qκ L sf = 12) (ko : qκ L ou = 1 * 1000 + 200) (d1 : sf + 552 ≤ mo) (d2 : mo + 46 ≤ ou) (V : q_INV L sf mo h) : ∃ y h1 b h2, f_Law_script N sf w ou h = some (y, h1) ∧ gO h1 mo 12 = some () ∧ f_Mod_script N mo w h1 = some (b, h2) ∧ q_INV L sf mo h2 ∧ gO h2 mo 12 = some () ∧ f_Mod_thrown N mo h2 = some (y, h2) ∧ (y = 0 → aL h2 ou 0 = some (Int32.toInt64 b)) := by
  obtain ⟨π, T, M, I, L0, e1, e2, e3, e4⟩ := V
  obtain ⟨⟨y, h1⟩, c1, W1, K1, i0, i1, i2⟩ := i_script (N := N) (w := w) T ks (fun _ _ _ => trivial) ko trivial I hN
  obtain ⟨π1, D⟩ := q_mid T M L0 d1 W1
  obtain ⟨T1, M1, I1, L1, m3, m4, m2, m1⟩ := id D
  obtain ⟨⟨b, h2⟩, c3, T2, g0, g1, g2, g3, g4⟩ := p_Mod_script (N := N) (v1 := w) T1 M1 q_Wmw hN
  dsimp only at *
  have V2 : vI h2 mo 8 ≠ 0 → q_LV h2 mo (vI h2 mo 7) := q_LVk T1 M1 L1 (g3 _ _ (by omega)) (g3 _ _ (by omega)) (fun a j j0 z => g4 a j j0 (by omega))
  have s2 : vI h1 sf 5 = vI h2 mo 4 := by rw [g3 _ _ (by omega), K1.1, m4]; exact e2
  have s3 : ∀ j : Nat, j < 12 → Int32.ofNat j < vI h2 mo 4 → vI h1 (sf + (528 + 2 * j)) 1 = vA h2 (mo + 2) (Int32.ofNat j) := fun j hj jl => by rw [g3 _ _ (by omega), m4] at jl; rw [g4 _ _ (q_on hj) (by omega), K1.2 j hj, m2 _ (q_on hj)]; exact e3 j hj jl
  obtain ⟨u0, u1, u2⟩ := x_Law_script (ou := ou) (w := w) T ks (fun _ _ _ => trivial) hN _ c1
  obtain ⟨o0, o1, o2⟩ := x_Mod_script (w := w) T1 M1 q_Wmw hN _ c3
  dsimp only at *
  have fin : vI h1 (sf + 1) 1 = vI h2 mo 3 → (∀ j, 0 ≤ j → j < vI h2 mo 3 → vA h1 (sf + 2) j = vA h2 (mo + 1) j) → q_INV L sf mo h2 := fun s1 s4 => q_end D d1 T2 (fun a k z => g3 a k (by omega)) (fun a j j0 z => g4 a j j0 (by omega)) V2 s1 s2 s3 s4
  refine ⟨y, h1, b, h2, c1, q_gOm T1 M1, c3, ?_⟩
  rw [q_thr T2 M1]
  by_cases z : q_okc w 1 8 = 0
  · obtain ⟨a1, a2⟩ := i0 z
    obtain ⟨b1, b2⟩ := g0 z
    refine ⟨fin (by rw [a2, b2, m3]; exact e1) (q_TE D (u0 z) e4 b2 (fun j j0 => o0 z j)), q_gOm T2 M1, by rw [a1, b1], fun y0 => ?_⟩
    rw [a1] at y0; exact absurd y0 (by decide)
  · by_cases z' : 240 < vI h (sf + 1) 1 + q_cn w 8
    · obtain ⟨a1, a2⟩ := i1 z z'
      obtain ⟨b1, b2⟩ := g1 z (by rw [m3, ← e1]; exact z')
      refine ⟨fin (by rw [a2, b2, m3]; exact e1) (q_TE D (u1 z z') e4 b2 (fun j j0 => o1 z (by rw [m3, ← e1]; exact z') j)), q_gOm T2 M1, by rw [a1, b1], fun y0 => ?_⟩
      rw [a1] at y0; exact absurd y0 (by decide)
    · obtain ⟨a1, a2, a3⟩ := i2 z (Int32.not_lt.mp z')
      obtain ⟨b1, b2, b3⟩ := g2 z (by rw [m3, ← e1]; exact Int32.not_lt.mp z')
      refine ⟨fin (by rw [a2, b3, m3, e1]) (fun j j0 jl => ?_), q_gOm T2 M1, by rw [a1, b1], fun y0 => ?_⟩
      · rw [u2 z (Int32.not_lt.mp z') j j0, o2 z (by rw [m3, ← e1]; exact Int32.not_lt.mp z') j j0, e1, ← m3]
        rw [b3] at jl
        exact x_app_lt w (g_Mo_3 T1 M1).1 (g_Mo_3 T1 M1).2 (by rw [m3, ← e1]; exact Int32.not_lt.mp z') (fun i i0 il => (e4 i i0 (by rw [← m3]; exact il)).trans (m1 i i0).symm) j j0 jl
      · rw [q_aLk T2 d2, a3, b2, m3, e1]
theorem l_clear {w : Int32} (hN : 100000 ≤ N) (ks : qκ L sf = 12) (ko : qκ L ou = 1 * 1000 + 200) (d1 : sf + 552 ≤ mo) (d2 : mo + 46 ≤ ou) (V : q_INV L sf mo h) : ∃ y h1 b h2, f_Law_clear N sf w ou h = some (y, h1) ∧ gO h1 mo 12 = some () ∧ f_Mod_clear N mo w h1 = some (b, h2) ∧ q_INV L sf mo h2 ∧ gO h2 mo 12 = some () ∧ f_Mod_thrown N mo h2 = some (y, h2) ∧ (y = 0 → aL h2 ou 0 = some (Int32.toInt64 b)) := by
  obtain ⟨π, T, M, I, L0, e1, e2, e3, e4⟩ := V
  obtain ⟨⟨y, h1⟩, c1, W1, K1, i0, i1, i2⟩ := i_clear (N := N) (w := w) T ks (fun _ _ _ => trivial) ko trivial I hN
  obtain ⟨π1, D⟩ := q_mid T M L0 d1 (q_WR_0 W1)
  obtain ⟨T1, M1, I1, L1, m3, m4, m2, m1⟩ := id D
  obtain ⟨⟨b, h2⟩, c3, T2, g0, g1, g2, g3, g4⟩ := p_Mod_clear (N := N) (v1 := w) T1 M1 q_Wmw
  dsimp only at *
  have V2 : vI h2 mo 8 ≠ 0 → q_LV h2 mo (vI h2 mo 7) := q_LVk T1 M1 L1 (g3 _ _ (by omega)) (g3 _ _ (by omega)) (fun a j j0 z => g4 a j j0)
  have s3 : (vI h2 mo 4 = 0 ∨ vI h2 mo 4 = vI h1 mo 4) → ∀ j : Nat, j < 12 → Int32.ofNat j < vI h2 mo 4 → vI h1 (sf + (528 + 2 * j)) 1 = vA h2 (mo + 2) (Int32.ofNat j) := fun c j hj jl => by
    rcases c with c | c
    · rw [c] at jl; exact absurd (Int32.lt_of_le_of_lt (q_on hj) jl) Int32.lt_irrefl
    · rw [c, m4] at jl; rw [g4 _ _ (q_on hj), K1 j hj, m2 _ (q_on hj)]; exact e3 j hj jl
  have fin : vI h1 (sf + 1) 1 = vI h2 mo 3 → vI h1 sf 5 = vI h2 mo 4 → (vI h2 mo 4 = 0 ∨ vI h2 mo 4 = vI h1 mo 4) → (vI h2 mo 3 = 0 ∨ vI h2 mo 3 = vI h1 mo 3) → q_INV L sf mo h2 := fun s1 s2 c d => q_end D d1 T2 (fun a k z => g3 a k (by omega)) (fun a j j0 z => g4 a j j0) V2 s1 s2 (s3 c) (d.elim (fun d j j0 jl => absurd (Int32.lt_of_le_of_lt j0 (d ▸ jl)) Int32.lt_irrefl) (fun d => q_TE D (q_WR_T W1) e4 d (fun j j0 => g4 _ j j0)))
  refine ⟨y, h1, b, h2, c1, q_gOm T1 M1, c3, ?_⟩
  rw [q_thr T2 M1]
  by_cases z : w = 0
  · obtain ⟨a1, a2, a3, a4⟩ := i0 z
    obtain ⟨b1, b2, b3, b4⟩ := g0 z
    exact ⟨fin (by rw [a3, b3]) (by rw [a4, b4, m4]; exact e2) (Or.inr b4) (Or.inl b3), q_gOm T2 M1, by rw [a1, b1], fun y0 => by rw [q_aLk T2 d2, a2, b2, m3, e1]⟩
  · by_cases z' : w = 1
    · obtain ⟨a1, a2, a3, a4⟩ := i1 z'
      obtain ⟨b1, b2, b3, b4⟩ := g1 z'
      exact ⟨fin (by rw [a4, b4, m3]; exact e1) (by rw [a3, b3]) (Or.inl b3) (Or.inr b4), q_gOm T2 M1, by rw [a1, b1], fun y0 => by rw [q_aLk T2 d2, a2, b2, m4, e2]⟩
    · obtain ⟨a1, a2, a3⟩ := i2 z z'
      obtain ⟨b1, b2, b3⟩ := g2 z z'
      exact ⟨fin (by rw [a3, b2, m3]; exact e1) (by rw [a2, b3, m4]; exact e2) (Or.inr b3) (Or.inr b2), q_gOm T2 M1, by rw [a1, b1], fun y0 => by rw [a1] at y0; exact absurd y0 (by decide)⟩
theorem l_line {w u : Int64} (hN : 100000 ≤ N) (ks : qκ L sf = 12) (ko : qκ L ou = 1 * 1000 + 200) (d1 : sf + 552 ≤ mo) (d2 : mo + 46 ≤ ou) (V : q_INV L sf mo h) : ∃ y h1 b h2, f_Law_line N sf w u ou h = some (y, h1) ∧ gO h1 mo 12 = some () ∧ f_Mod_line N mo w u h1 = some (b, h2) ∧ q_INV L sf mo h2 ∧ gO h2 mo 12 = some () ∧ f_Mod_thrown N mo h2 = some (y, h2) ∧ (y = 0 → aL h2 ou 0 = some (Int32.toInt64 b)) := by
  obtain ⟨π, T, M, I, L0, e1, e2, e3, e4⟩ := V
  have s5 := q_s5 T ks
  obtain ⟨⟨y, h1⟩, c1, W1, K1, i0, i1, i2⟩ := i_line (N := N) (w := w) (u := u) T ks (fun _ _ _ => trivial) ko trivial I hN
  obtain ⟨π1, D⟩ := q_mid T M L0 d1 (q_WR_0 W1)
  obtain ⟨T1, M1, I1, L1, m3, m4, m2, m1⟩ := id D
  obtain ⟨⟨b, h2⟩, c3, T2, g0, g1, g2, g3, g4, g5⟩ := p_Mod_line (N := N) (v1 := w) (v3 := u) T1 M1 q_Wmw hN
  dsimp only at *
  have V2 : vI h2 mo 8 ≠ 0 → q_LV h2 mo (vI h2 mo 7) := q_LVk T1 M1 L1 (g3 _ _ (by omega)) (g3 _ _ (by omega)) (fun a j j0 z => g4 a j j0 (by omega))
  have s1 : vI h1 (sf + 1) 1 = vI h2 mo 3 := by rw [g3 _ _ (by omega), K1, m3]; exact e1
  have fin : vI h1 sf 5 = vI h2 mo 4 → (∀ j : Nat, j < 12 → Int32.ofNat j < vI h2 mo 4 → vI h1 (sf + (528 + 2 * j)) 1 = vA h2 (mo + 2) (Int32.ofNat j)) → q_INV L sf mo h2 := fun s2 s3 => q_end D d1 T2 (fun a k z => g3 a k (by omega)) (fun a j j0 z => g4 a j j0 (by omega)) V2 s1 s2 s3 (q_TE D (q_WR_T W1) e4 (g3 _ _ (by omega)) (fun j j0 => g4 _ j j0 (by omega)))
  have x5 : vI h1 mo 4 = vI h sf 5 := by rw [m4]; exact e2.symm
  have ref : q_KP sf h h1 → vI h2 mo 4 = vI h1 mo 4 → q_INV L sf mo h2 := fun K b2 => fin (by rw [K.2.1, b2, x5]) (fun j hj jl => by
    rw [b2] at jl
    rw [g5 _ (q_on hj) (fun z => absurd jl (by rw [z]; exact Int32.lt_irrefl)), K.2.2 j hj, m2 _ (q_on hj)]
    exact e3 j hj (by rwa [m4] at jl))
  refine ⟨y, h1, b, h2, c1, q_gOm T1 M1, c3, ?_⟩
  rw [q_thr T2 M1]
  by_cases z : q_okc w 0 8 = 0 ∨ q_okc u 0 8 = 0
  · obtain ⟨a1, K⟩ := i0 z
    obtain ⟨b1, b2⟩ := g0 z
    exact ⟨ref K b2, q_gOm T2 M1, by rw [a1, b1], fun y0 => by rw [a1] at y0; exact absurd y0 (by decide)⟩
  · have z1 : q_okc w 0 8 ≠ 0 := fun q => z (Or.inl q)
    have z2 : q_okc u 0 8 ≠ 0 := fun q => z (Or.inr q)
    by_cases c : vI h sf 5 = 12
    · obtain ⟨a1, K⟩ := i1 z1 z2 c
      obtain ⟨b1, b2⟩ := g1 z1 z2 (x5.trans c)
      exact ⟨ref K b2, q_gOm T2 M1, by rw [a1, b1], fun y0 => by rw [a1] at y0; exact absurd y0 (by decide)⟩
    · obtain ⟨a1, a2, a3, a4, a5⟩ := i2 z1 z2 c
      obtain ⟨b1, b2, b3, b4⟩ := g2 z1 z2 (by rw [x5]; exact c)
      refine ⟨fin (by rw [a3, b3, x5]) (fun j hj jl => ?_), q_gOm T2 M1, by rw [a1, b1], fun y0 => by rw [q_aLk T2 d2, a2, b2, x5]⟩
      by_cases q : j = Int32.toNatClampNeg (vI h sf 5)
      · subst q
        rw [a4, q_ofc s5.1, ← x5, b4]
      · have ne := q_ofne hj q s5.1
        rw [g5 _ (q_on hj) (by rw [x5]; exact ne), a5 j hj q, m2 _ (q_on hj)]
        refine e3 j hj ?_
        rw [b3, x5] at jl
        rw [← e2]
        exact q_ltn s5.1 s5.2 ne jl
theorem l_more {w : Int64} (hN : 100000 ≤ N) (ks : qκ L sf = 12) (ko : qκ L ou = 1 * 1000 + 200) (d1 : sf + 552 ≤ mo) (d2 : mo + 46 ≤ ou) (V : q_INV L sf mo h) : ∃ y h1 b h2, f_Law_more N sf w ou h = some (y, h1) ∧ gO h1 mo 12 = some () ∧ f_Mod_more N mo w h1 = some (b, h2) ∧ q_INV L sf mo h2 ∧ gO h2 mo 12 = some () ∧ f_Mod_thrown N mo h2 = some (y, h2) ∧ (y = 0 → aL h2 ou 0 = some (Int32.toInt64 b)) := by
  obtain ⟨π, T, M, I, L0, e1, e2, e3, e4⟩ := V
  have s5 := q_s5 T ks
  obtain ⟨⟨y, h1⟩, c1, W1, ⟨K1, K2⟩, i0, i1, i2, i2'⟩ := i_more (N := N) (w := w) T ks (fun _ _ _ => trivial) ko trivial I hN
  obtain ⟨π1, D⟩ := q_mid T M L0 d1 (q_WR_0 W1)
  obtain ⟨T1, M1, I1, L1, m3, m4, m2, m1⟩ := id D
  obtain ⟨⟨b, h2⟩, c3, T2, g0, g1, g2, g2', g3, g4, g5, g6⟩ := p_Mod_more (N := N) (v1 := w) T1 M1 q_Wmw hN
  dsimp only at *
  have V2 : vI h2 mo 8 ≠ 0 → q_LV h2 mo (vI h2 mo 7) := q_LVk T1 M1 L1 (g3 _ _ (by omega)) (g3 _ _ (by omega)) (fun a j j0 z => g4 a j j0 (by omega))
  have s1 : vI h1 (sf + 1) 1 = vI h2 mo 3 := by rw [g3 _ _ (by omega), K1, m3]; exact e1
  have x5 : vI h1 mo 4 = vI h sf 5 := by rw [m4]; exact e2.symm
  have x6 : vI h2 mo 4 = vI h sf 5 := by rw [g3 _ _ (by omega)]; exact x5
  have s2 : vI h1 sf 5 = vI h2 mo 4 := by rw [K2, x6]
  have fin : (∀ j : Nat, j < 12 → Int32.ofNat j < vI h2 mo 4 → vI h1 (sf + (528 + 2 * j)) 1 = vA h2 (mo + 2) (Int32.ofNat j)) → q_INV L sf mo h2 := fun s3 => q_end D d1 T2 (fun a k z => g3 a k (by omega)) (fun a j j0 z => g4 a j j0 (by omega)) V2 s1 s2 s3 (q_TE D (q_WR_T W1) e4 (g3 _ _ (by omega)) (fun j j0 => g4 _ j j0 (by omega)))
  -- refused
  have ref : q_KP sf h h1 → vI h2 mo 6 ≠ 0 → q_INV L sf mo h2 := fun K t6 => fin (fun j hj jl => by
    have n0 : vI h1 mo 4 ≠ 0 := fun z => by
      rw [x6, ← x5, z] at jl
      exact absurd (Int32.lt_of_le_of_lt (q_on hj) jl) Int32.lt_irrefl
    have eqA : vA h2 (mo + 2) (Int32.ofNat j) = vA h1 (mo + 2) (Int32.ofNat j) := by
      by_cases q : Int32.ofNat j = vI h1 mo 4 - 1
      · rw [q]; exact g6 t6 n0
      · exact g5 _ (q_on hj) q
    rw [eqA, K.2.2 j hj, m2 _ (q_on hj)]
    exact e3 j hj (by rw [x6, e2] at jl; exact jl))
  refine ⟨y, h1, b, h2, c1, q_gOm T1 M1, c3, ?_⟩
  rw [q_thr T2 M1]
  by_cases z : q_okc w 0 8 = 0
  · obtain ⟨a1, K⟩ := i0 z
    have b1 := g0 z
    exact ⟨ref K (by rw [b1]; decide), q_gOm T2 M1, by rw [a1, b1], fun y0 => by rw [a1] at y0; exact absurd y0 (by decide)⟩
  · by_cases c : vI h sf 5 = 0
    · obtain ⟨a1, K⟩ := i1 z c
      have b1 := g1 z (x5.trans c)
      exact ⟨ref K (by rw [b1]; decide), q_gOm T2 M1, by rw [a1, b1], fun y0 => by rw [a1] at y0; exact absurd y0 (by decide)⟩
    · have c' : vI h1 mo 4 ≠ 0 := by rw [x5]; exact c
      have p0 : 0 ≤ vI h sf 5 - 1 := q_m10 s5.1 s5.2 c
      have hl := q_cl11m s5.1 s5.2 c
      have el : vI h (sf + (528 + 2 * Int32.toNatClampNeg (vI h sf 5 - 1))) 1 = vA h1 (mo + 2) (vI h1 mo 4 - 1) := by
        have q := e3 _ hl (by rw [q_ofc p0, ← e2]; exact q_m11 s5.1 s5.2 c)
        rw [q_ofc p0] at q
        rw [q, x5, m2 _ p0]
      by_cases d : 24 < vI h (sf + (528 + 2 * Int32.toNatClampNeg (vI h sf 5 - 1))) 1 + q_cn w 8
      · obtain ⟨a1, K⟩ := i2 z c d
        have b1 := g2 z c' (by rw [← el]; exact d)
        exact ⟨ref K (by rw [b1]; decide), q_gOm T2 M1, by rw [a1, b1], fun y0 => by rw [a1] at y0; exact absurd y0 (by decide)⟩
      · obtain ⟨a1, a2, a3, a4⟩ := i2' z c (Int32.not_lt.mp d)
        obtain ⟨b1, b2, b3⟩ := g2' z c' (by rw [← el]; exact Int32.not_lt.mp d)
        refine ⟨fin (fun j hj jl => ?_), q_gOm T2 M1, by rw [a1, b1], fun y0 => by rw [q_aLk T2 d2, a2, b2, el]⟩
        by_cases q : j = Int32.toNatClampNeg (vI h sf 5 - 1)
        · subst q
          rw [a3, q_ofc p0, el, ← x5, b3]
        · have ne := q_ofne hj q p0
          rw [g5 _ (q_on hj) (by rw [x5]; exact ne), a4 j hj q, m2 _ (q_on hj)]
          exact e3 j hj (by rw [x6, e2] at jl; exact jl)
end LAW
