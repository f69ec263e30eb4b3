/-! matching: a whole walk, as the reference does it -/
/-- stars take k1 and k2 characters; first: the star that is stuck (0: none) -/
noncomputable def x_v (tx : Int32 → Int32) (n : Int32) (kd gp : Int32 → Int32) (tk : Int32 → Int32 → Int32) (sr : Int32 → Int32) (to k1 k2 : Int32) : Nat → Int32 → Int32 → Int32 → (Int32 → Int32) → (Int32 → Int32) → Int32 × Option (Int32 × (Int32 → Int32) × (Int32 → Int32))
  | 0, _, p, _, gb, ge => (0, some (p, gb, ge))
  | c + 1, i, p, s, gb, ge =>
    if kd i = 1 then x_v tx n kd gp tk sr to k1 k2 c (i + 1) p s (x_up gb (gp i) p) ge
    else if kd i = 2 then x_v tx n kd gp tk sr to k1 k2 c (i + 1) p s gb (x_up ge (gp i) p)
    else if kd i = 3 then x_cif (x_sq tx n (gb (gp i)) (ge (gp i)) p) (x_v tx n kd gp tk sr to k1 k2 c (i + 1) (p + (ge (gp i) - gb (gp i))) s gb ge) (0, none)
    else if sr i = 0 then (if 0 ≤ p ∧ p < n ∧ tk i (tx p) = 1 then x_v tx n kd gp tk sr to k1 k2 c (i + 1) (p + 1) s gb ge else (0, none))
    else x_cif (x_rr tx n tk i to p (if s = 0 then k1 else k2)) (x_v tx n kd gp tk sr to k1 k2 c (i + 1) (p + (if s = 0 then k1 else k2)) (s + 1) gb ge) (s + 1, none)
section XV
variable {tx : Int32 → Int32} {n : Int32} {kd gp : Int32 → Int32} {tk : Int32 → Int32 → Int32} {sr : Int32 → Int32} {fr s1 s2 to k1 k2 : Int32} {gb0 ge0 : Int32 → Int32} {st : Int32}
theorem x_io1 (i : Int32) (k : Nat) : i + Int32.ofNat (k + 1) = i + 1 + Int32.ofNat k := by
  rw [Int32.ofNat_add, Int32.add_assoc, Int32.add_comm (Int32.ofNat k)]; rfl
theorem x_v_w (c2 : Nat) : ∀ (c1 : Nat) (i p s : Int32) (gb ge : Int32 → Int32), (∀ k : Nat, k < c1 → sr (i + Int32.ofNat k) = 0) → (x_w tx n kd gp tk c1 i p gb ge = none ∧ x_v tx n kd gp tk sr to k1 k2 (c1 + c2) i p s gb ge = (0, none)) ∨ ∃ q b e, x_w tx n kd gp tk c1 i p gb ge = some (q, b, e) ∧ x_v tx n kd gp tk sr to k1 k2 (c1 + c2) i p s gb ge = x_v tx n kd gp tk sr to k1 k2 c2 (i + Int32.ofNat c1) q s b e := by
  intro c1
  induction c1 with
  | zero =>
    intro i p s gb ge H
    refine Or.inr ⟨p, gb, ge, rfl, ?_⟩
    rw [Nat.zero_add, show i + Int32.ofNat 0 = i from Int32.add_zero i]
  | succ c1 ih =>
    intro i p s gb ge H
    have h0 : sr i = 0 := by
      have q := H 0 (Nat.succ_pos c1)
      rwa [show i + Int32.ofNat 0 = i from Int32.add_zero i] at q
    have h1 : ∀ k : Nat, k < c1 → sr (i + 1 + Int32.ofNat k) = 0 := fun k hk => by
      have q := H (k + 1) (by omega)
      rwa [x_io1] at q
    rw [show c1 + 1 + c2 = (c1 + c2) + 1 from by omega, x_io1]
    rw [x_w, x_v]
    by_cases z1 : kd i = 1
    · rw [if_pos z1, if_pos z1]; exact ih _ _ _ _ _ h1
    · rw [if_neg z1, if_neg z1]
      by_cases z2 : kd i = 2
      · rw [if_pos z2, if_pos z2]; exact ih _ _ _ _ _ h1
      · rw [if_neg z2, if_neg z2]
        by_cases z3 : kd i = 3
        · rw [if_pos z3, if_pos z3]
          by_cases q : x_sq tx n (gb (gp i)) (ge (gp i)) p
          · rw [x_cif_t q, x_cif_t q]; exact ih _ _ _ _ _ h1
          · rw [x_cif_f q, x_cif_f q]; exact Or.inl ⟨rfl, rfl⟩
        · rw [if_neg z3, if_neg z3, if_pos h0]
          by_cases q : 0 ≤ p ∧ p < n ∧ tk i (tx p) = 1
          · rw [if_pos q, if_pos q]; exact ih _ _ _ _ _ h1
          · rw [if_neg q, if_neg q]; exact Or.inl ⟨rfl, rfl⟩
theorem x_v_s {c : Nat} {i p s : Int32} {gb ge : Int32 → Int32} (z : kd i = 0) (q : ¬ sr i = 0) : x_v tx n kd gp tk sr to k1 k2 (c + 1) i p s gb ge = x_cif (x_rr tx n tk i to p (if s = 0 then k1 else k2)) (x_v tx n kd gp tk sr to k1 k2 c (i + 1) (p + (if s = 0 then k1 else k2)) (s + 1) gb ge) (s + 1, none) := by
  rw [x_v, if_neg (by rw [z]; decide), if_neg (by rw [z]; decide), if_neg (by rw [z]; decide), if_neg q]
/-- how a walk goes, segment by segment -/
def x_vd (tx : Int32 → Int32) (n : Int32) (kd gp : Int32 → Int32) (tk : Int32 → Int32 → Int32) (fr s1 s2 to : Int32) (gb0 ge0 : Int32 → Int32) (st k1 k2 : Int32) (V : Int32 × Option (Int32 × (Int32 → Int32) × (Int32 → Int32))) : Prop :=
  (x_w tx n kd gp tk (x_ct fr s1) fr st gb0 ge0 = none ∧ V = (0, none)) ∨ ∃ p1 b1 e1, x_w tx n kd gp tk (x_ct fr s1) fr st gb0 ge0 = some (p1, b1, e1) ∧ ((¬ x_rr tx n tk s1 to p1 k1 ∧ V = (1, none)) ∨ (x_rr tx n tk s1 to p1 k1 ∧ ((x_w tx n kd gp tk (x_ct (s1 + 1) s2) (s1 + 1) (p1 + k1) b1 e1 = none ∧ V = (0, none)) ∨ ∃ p2 b2 e2, x_w tx n kd gp tk (x_ct (s1 + 1) s2) (s1 + 1) (p1 + k1) b1 e1 = some (p2, b2, e2) ∧ ((¬ x_rr tx n tk s2 to p2 k2 ∧ V = (2, none)) ∨ (x_rr tx n tk s2 to p2 k2 ∧ ((x_w tx n kd gp tk (x_ct (s2 + 1) to) (s2 + 1) (p2 + k2) b2 e2 = none ∧ V = (0, none)) ∨ ∃ e gb ge, x_w tx n kd gp tk (x_ct (s2 + 1) to) (s2 + 1) (p2 + k2) b2 e2 = some (e, gb, ge) ∧ V = (0, some (e, gb, ge))))))))
/-- where stars stand -/
def x_sx (kd sr : Int32 → Int32) (fr s1 s2 to : Int32) : Prop := (0 ≤ fr ∧ fr ≤ s1 ∧ s1 ≤ s2 ∧ s2 ≤ to ∧ to ≤ 1000) ∧ (s1 < s2 ∨ s1 = to) ∧ (∀ i, fr ≤ i → i < to → ¬ i = s1 → ¬ i = s2 → sr i = 0) ∧ (s1 < to → kd s1 = 0 ∧ ¬ sr s1 = 0) ∧ (s2 < to → kd s2 = 0 ∧ ¬ sr s2 = 0)
theorem x_ct_t {a b : Int32} (h : a ≤ b) (a0 : 0 ≤ a) : (x_ct a b : Int) = b.toInt - a.toInt := by
  have e := Int32.le_iff_toInt_le.mp h
  have e1 := Int32.le_iff_toInt_le.mp a0
  have z : (0 : Int32).toInt = 0 := rfl
  rw [z] at e1
  have l1 := b.toInt_lt
  have q : (b - a).toInt = b.toInt - a.toInt := by rw [Int32.toInt_sub]; exact Int.bmod_eq_of_le_mul_two (by omega) (by omega)
  unfold x_ct
  show ((b - a).toInt.toNat : Int) = _
  omega
theorem x_ct_p {a b c : Int32} (h : a ≤ b) (h' : b ≤ c) (a0 : 0 ≤ a) : x_ct a c = x_ct a b + x_ct b c := by
  have q1 := x_ct_t h a0
  have q2 := x_ct_t h' (Int32.le_trans a0 h)
  have q3 := x_ct_t (Int32.le_trans h h') a0
  omega
theorem x_ct_e {a b : Int32} (h : a ≤ b) (a0 : 0 ≤ a) : a + Int32.ofNat (x_ct a b) = b := by
  have d : 0 ≤ b - a := by
    have e := Int32.le_iff_toInt_le.mp h
    have e1 := Int32.le_iff_toInt_le.mp a0
    have z : (0 : Int32).toInt = 0 := rfl
    rw [z] at e1
    have l1 := b.toInt_lt
    have q : (b - a).toInt = b.toInt - a.toInt := by rw [Int32.toInt_sub]; exact Int.bmod_eq_of_le_mul_two (by omega) (by omega)
    rw [Int32.le_iff_toInt_le, q, z]
    omega
  unfold x_ct
  rw [Int32.ofNat_toNatClampNeg _ d]
  grind
theorem x_ct_i {a b : Int32} {k : Nat} (h : a ≤ b) (a0 : 0 ≤ a) (hk : k < x_ct a b) : a ≤ a + Int32.ofNat k ∧ a + Int32.ofNat k < b := by
  have q1 := x_ct_t h a0
  have l1 := b.toInt_lt
  have e1 := Int32.le_iff_toInt_le.mp a0
  have z : (0 : Int32).toInt = 0 := rfl
  rw [z] at e1
  have s : (Int32.ofNat k).toInt = k := Int32.toInt_ofNat_of_lt (by omega)
  have q : (a + Int32.ofNat k).toInt = a.toInt + k := by rw [Int32.toInt_add, s]; exact Int.bmod_eq_of_le_mul_two (by omega) (by omega)
  rw [Int32.le_iff_toInt_le, Int32.lt_iff_toInt_lt, q]
  omega
theorem x_ss1 {a b : Int32} (h : a < b) (a0 : 0 ≤ a) : a + 1 ≤ b ∧ 0 ≤ a + 1 := by constructor <;> lia
theorem x_v_seg {i s c2 : Int32} {p z : Int32} {gb ge : Int32 → Int32} (h1 : i ≤ s) (h2 : s ≤ c2) (i0 : 0 ≤ i) (H : ∀ k, i ≤ k → k < s → sr k = 0) : (x_w tx n kd gp tk (x_ct i s) i p gb ge = none ∧ x_v tx n kd gp tk sr to k1 k2 (x_ct i c2) i p z gb ge = (0, none)) ∨ ∃ q b e, x_w tx n kd gp tk (x_ct i s) i p gb ge = some (q, b, e) ∧ x_v tx n kd gp tk sr to k1 k2 (x_ct i c2) i p z gb ge = x_v tx n kd gp tk sr to k1 k2 (x_ct s c2) s q z b e := by
  have t := x_v_w (tx := tx) (n := n) (kd := kd) (gp := gp) (tk := tk) (sr := sr) (to := to) (k1 := k1) (k2 := k2) (x_ct s c2) (x_ct i s) i p z gb ge (fun k hk => H _ (x_ct_i h1 i0 hk).1 (x_ct_i h1 i0 hk).2)
  rw [← x_ct_p h1 h2 i0, x_ct_e h1 i0] at t
  exact t
theorem x_v_d (S : x_sx kd sr fr s1 s2 to) (K1 : s1 = to → k1 = 0) (K2 : s2 = to → k2 = 0) : x_vd tx n kd gp tk fr s1 s2 to gb0 ge0 st k1 k2 (x_v tx n kd gp tk sr to k1 k2 (x_ct fr to) fr st 0 gb0 ge0) := by
  obtain ⟨⟨a0, a1, a2, a3, a4⟩, hs, H, h1, h2⟩ := S
  have E : ∀ (k1 k2 q : Int32) (b e : Int32 → Int32) (z : Int32), x_v tx n kd gp tk sr to k1 k2 (x_ct to to) to q z b e = (0, some (q, b, e)) := by
    intro k1 k2 q b e z
    rw [x_ct0 (Int32.le_refl _) (by lia) (by lia), x_v]
  have c0 : x_ct (to + 1) to = 0 := x_ct0 (by lia) (by lia) (by lia)
  unfold x_vd
  rcases x_v_seg (tx := tx) (n := n) (kd := kd) (gp := gp) (tk := tk) (sr := sr) (to := to) (k1 := k1) (k2 := k2) (p := st) (z := 0) (gb := gb0) (ge := ge0) a1 (Int32.le_trans a2 a3) a0 (fun k x1 x2 => H k x1 (by lia) (by lia) (by lia)) with ⟨w, v⟩ | ⟨p1, b1, e1, w, v⟩
  · exact Or.inl ⟨w, v⟩
  · refine Or.inr ⟨p1, b1, e1, w, ?_⟩
    rw [v]
    by_cases t1 : s1 = to
    · have t2 : s2 = to := by lia
      rw [K1 t1, K2 t2, t1, t2, E, c0]
      refine Or.inr ⟨x_rr_0 (by decide), Or.inr ⟨p1 + 0, b1, e1, rfl, Or.inr ⟨x_rr_0 (by decide), Or.inr ⟨p1 + 0 + 0, b1, e1, rfl, ?_⟩⟩⟩⟩
      rw [Int32.add_zero, Int32.add_zero]
    · have l1 : s1 < to := by lia
      have l2 : s1 < s2 := hs.resolve_right t1
      rw [x_ct1 l1 (by lia), x_v_s (h1 l1).1 (h1 l1).2, if_pos rfl]
      by_cases r1 : x_rr tx n tk s1 to p1 k1
      · rw [x_cif_t r1]
        refine Or.inr ⟨r1, ?_⟩
        rcases x_v_seg (tx := tx) (n := n) (kd := kd) (gp := gp) (tk := tk) (sr := sr) (to := to) (k1 := k1) (k2 := k2) (p := p1 + k1) (z := 0 + 1) (gb := b1) (ge := e1) (x_ss1 l2 (by lia)).1 a3 (x_ss1 l2 (by lia)).2 (fun k x1 x2 => H k (by lia) (by lia) (by lia) (by lia)) with ⟨w, v⟩ | ⟨p2, b2, e2, w, v⟩
        · exact Or.inl ⟨w, v⟩
        · refine Or.inr ⟨p2, b2, e2, w, ?_⟩
          rw [v]
          by_cases t2 : s2 = to
          · rw [K2 t2, t2, E, c0]
            refine Or.inr ⟨x_rr_0 (by decide), Or.inr ⟨p2 + 0, b2, e2, rfl, ?_⟩⟩
            rw [Int32.add_zero]
          · have l3 : s2 < to := by lia
            rw [x_ct1 l3 (by lia), x_v_s (h2 l3).1 (h2 l3).2, if_neg (by decide)]
            by_cases r2 : x_rr tx n tk s2 to p2 k2
            · rw [x_cif_t r2]
              refine Or.inr ⟨r2, ?_⟩
              rcases x_v_seg (tx := tx) (n := n) (kd := kd) (gp := gp) (tk := tk) (sr := sr) (to := to) (k1 := k1) (k2 := k2) (s := to) (p := p2 + k2) (z := 0 + 1 + 1) (gb := b2) (ge := e2) (x_ss1 l3 (by lia)).1 (Int32.le_refl _) (x_ss1 l3 (by lia)).2 (fun k x1 x2 => H k (by lia) (by lia) (by lia) (by lia)) with ⟨w, v⟩ | ⟨e, gb, ge, w, v⟩
              · exact Or.inl ⟨w, v⟩
              · exact Or.inr ⟨e, gb, ge, w, by rw [v, E]⟩
            · rw [x_cif_f r2]; exact Or.inl ⟨r2, rfl⟩
      · rw [x_cif_f r1]; exact Or.inl ⟨r1, rfl⟩
theorem x_rr_le {s p k b : Int32} (r : x_rr tx n tk s to p b) (h : k ≤ b) : x_rr tx n tk s to p k := fun j j0 jk => r j j0 (Int32.lt_of_lt_of_le jk h)
theorem x_vd_1 {V : Int32 × Option (Int32 × (Int32 → Int32) × (Int32 → Int32))} {e : Int32} {gb ge : Int32 → Int32} (d : x_vd tx n kd gp tk fr s1 s2 to gb0 ge0 st k1 k2 V) (q : V.2 = some (e, gb, ge)) : V.1 = 0 ∧ x_pth tx n kd gp tk fr s1 s2 to gb0 ge0 st k1 k2 e gb ge := by
  rcases d with ⟨_, v⟩ | ⟨p1, b1, e1, w1, ⟨_, v⟩ | ⟨r1, ⟨_, v⟩ | ⟨p2, b2, e2, w2, ⟨_, v⟩ | ⟨r2, ⟨_, v⟩ | ⟨e', gb', ge', w3, v⟩⟩⟩⟩⟩
  · rw [v] at q; cases q
  · rw [v] at q; cases q
  · rw [v] at q; cases q
  · rw [v] at q; cases q
  · rw [v] at q; cases q
  · rw [v] at q ⊢
    cases q
    exact ⟨rfl, p1, b1, e1, p2, b2, e2, w1, r1, w2, r2, w3⟩
theorem x_vd_2 {V : Int32 × Option (Int32 × (Int32 → Int32) × (Int32 → Int32))} (d : x_vd tx n kd gp tk fr s1 s2 to gb0 ge0 st k1 k2 V) : (V.2 = none → ∀ e gb ge, ¬ x_pth tx n kd gp tk fr s1 s2 to gb0 ge0 st k1 k2 e gb ge) ∧ (V.1 = 2 → ∀ b e gb ge, k2 ≤ b → ¬ x_pth tx n kd gp tk fr s1 s2 to gb0 ge0 st k1 b e gb ge) ∧ (V.1 = 1 → ∀ a b e gb ge, k1 ≤ a → ¬ x_pth tx n kd gp tk fr s1 s2 to gb0 ge0 st a b e gb ge) ∧ (V.1 = 0 ∨ V.1 = 1 ∨ V.1 = 2) := by
  rcases d with ⟨w, v⟩ | ⟨p1, b1, e1, w1, ⟨r1, v⟩ | ⟨r1, ⟨w2, v⟩ | ⟨p2, b2, e2, w2, ⟨r2, v⟩ | ⟨r2, ⟨w3, v⟩ | ⟨e', gb', ge', w3, v⟩⟩⟩⟩⟩
  · subst v
    refine ⟨fun _ e gb ge P => ?_, fun z => absurd z (by decide), fun z => absurd z (by decide), Or.inl rfl⟩
    obtain ⟨_, _, _, _, _, _, m1, _⟩ := P
    rw [w] at m1; cases m1
  · subst v
    refine ⟨fun _ e gb ge P => r1 (x_pth_1 w1 P).1, fun z => absurd z (by decide), fun _ a b e gb ge ha P => r1 (x_rr_le (x_pth_1 w1 P).1 ha), Or.inr (Or.inl rfl)⟩
  · subst v
    refine ⟨fun _ e gb ge P => ?_, fun z => absurd z (by decide), fun z => absurd z (by decide), Or.inl rfl⟩
    obtain ⟨p2, b2, e2, m⟩ := (x_pth_1 w1 P).2
    rw [w2] at m; cases m
  · subst v
    refine ⟨fun _ e gb ge P => r2 (x_pth_2 w1 w2 P).1, fun _ b e gb ge hb P => r2 (x_rr_le (x_pth_2 w1 w2 P).1 hb), fun z => absurd z (by decide), Or.inr (Or.inr rfl)⟩
  · subst v
    refine ⟨fun _ e gb ge P => ?_, fun z => absurd z (by decide), fun z => absurd z (by decide), Or.inl rfl⟩
    have m := (x_pth_2 w1 w2 P).2
    rw [w3] at m; cases m
  · subst v
    exact ⟨fun z => (by cases z), fun z => absurd (show (0 : Int32) = 2 from z) (by decide), fun z => absurd (show (0 : Int32) = 1 from z) (by decide), Or.inl rfl⟩
end XV
