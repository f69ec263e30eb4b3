/-! matching: where items lead to -/
def x_sq (tx : Int32 → Int32) (n b e p : Int32) : Prop := e - b ≤ n - p ∧ ∀ j, 0 ≤ j → j < e - b → tx (b + j) = tx (p + j)
noncomputable def x_cif {α : Type} (P : Prop) (a b : α) : α := @ite α P (Classical.propDecidable P) a b
theorem x_cif_t {α : Type} {P : Prop} {a b : α} (h : P) : x_cif P a b = a := if_pos h
theorem x_cif_f {α : Type} {P : Prop} {a b : α} (h : ¬ P) : x_cif P a b = b := if_neg h
/-- c items from i on, from the place p, with what groups have taken; none: they don't fit -/
noncomputable def x_w (tx : Int32 → Int32) (n : Int32) (kd gp : Int32 → Int32) (tk : Int32 → Int32 → Int32) : Nat → Int32 → Int32 → (Int32 → Int32) → (Int32 → Int32) → Option (Int32 × (Int32 → Int32) × (Int32 → Int32))
  | 0, _, p, gb, ge => some (p, gb, ge)
  | c + 1, i, p, gb, ge =>
    if kd i = 1 then x_w tx n kd gp tk c (i + 1) p (x_up gb (gp i) p) ge
    else if kd i = 2 then x_w tx n kd gp tk c (i + 1) p gb (x_up ge (gp i) p)
    else if kd i = 3 then x_cif (x_sq tx n (gb (gp i)) (ge (gp i)) p) (x_w tx n kd gp tk c (i + 1) (p + (ge (gp i) - gb (gp i))) gb ge) none
    else if 0 ≤ p ∧ p < n ∧ tk i (tx p) = 1 then x_w tx n kd gp tk c (i + 1) (p + 1) gb ge else none
def x_ag (m : Int32) (f g : Int32 → Int32) : Prop := ∀ j, 1 ≤ j → j ≤ m → f j = g j
/-- c items from i on, o groups begun, l groups ended before: each group begins and ends in its turn, what stands again has ended -/
def x_wf (kd gp : Int32 → Int32) : Nat → Int32 → Int32 → Int32 → Prop
  | 0, _, o, l => 0 ≤ l ∧ l ≤ o ∧ o ≤ 3
  | c + 1, i, o, l => (0 ≤ l ∧ l ≤ o ∧ o ≤ 3) ∧ (kd i = 1 → gp i = o + 1 ∧ x_wf kd gp c (i + 1) (o + 1) l) ∧ (kd i = 2 → gp i = o ∧ l + 1 = o ∧ x_wf kd gp c (i + 1) o o) ∧ (kd i = 3 → (1 ≤ gp i ∧ gp i ≤ l) ∧ x_wf kd gp c (i + 1) o l) ∧ (¬ kd i = 1 → ¬ kd i = 2 → ¬ kd i = 3 → x_wf kd gp c (i + 1) o l)
def x_oc (kd : Int32 → Int32) : Nat → Int32 → Int32 → Int32 → Int32 × Int32
  | 0, _, o, l => (o, l)
  | c + 1, i, o, l => if kd i = 1 then x_oc kd c (i + 1) (o + 1) l else if kd i = 2 then x_oc kd c (i + 1) o o else x_oc kd c (i + 1) o l
theorem x_wf0 {kd gp : Int32 → Int32} : ∀ {c : Nat} {i o l : Int32}, x_wf kd gp c i o l → 0 ≤ l ∧ l ≤ o ∧ o ≤ 3
  | 0, _, _, _, h => h
  | _ + 1, _, _, _, h => h.1
theorem x_ag_up {o p : Int32} {f g : Int32 → Int32} (a : x_ag o f g) (h : 0 ≤ o ∧ o ≤ 3) : x_ag (o + 1) (x_up f (o + 1) p) (x_up g (o + 1) p) := by
  intro j j1 j2
  unfold x_up
  by_cases q : j = o + 1
  · rw [if_pos q, if_pos q]
  · rw [if_neg q, if_neg q]
    obtain ⟨h0, h3⟩ := h
    exact a j j1 (by lia)
theorem x_ag_up2 {o l p : Int32} {f g : Int32 → Int32} (a : x_ag l f g) (h : l + 1 = o) (h0 : 0 ≤ l) (h3 : l ≤ 3) : x_ag o (x_up f o p) (x_up g o p) := by
  intro j j1 j2
  unfold x_up
  by_cases q : j = o
  · rw [if_pos q, if_pos q]
  · rw [if_neg q, if_neg q]
    exact a j j1 (by lia)
theorem x_w_ag {tx : Int32 → Int32} {n : Int32} {kd gp : Int32 → Int32} {tk : Int32 → Int32 → Int32} : ∀ (c : Nat) (i p o l : Int32) (gb ge gb' ge' : Int32 → Int32), x_wf kd gp c i o l → x_ag o gb gb' → x_ag l ge ge' → (x_w tx n kd gp tk c i p gb ge = none ∧ x_w tx n kd gp tk c i p gb' ge' = none) ∨ ∃ q b e b' e', x_w tx n kd gp tk c i p gb ge = some (q, b, e) ∧ x_w tx n kd gp tk c i p gb' ge' = some (q, b', e') ∧ x_ag (x_oc kd c i o l).1 b b' ∧ x_ag (x_oc kd c i o l).2 e e' := by
  intro c
  induction c with
  | zero =>
    intro i p o l gb ge gb' ge' wf a1 a2
    exact Or.inr ⟨p, gb, ge, gb', ge', rfl, rfl, a1, a2⟩
  | succ c ih =>
    intro i p o l gb ge gb' ge' wf a1 a2
    have w0 := x_wf0 wf
    obtain ⟨-, w1, w2, w3, w4⟩ := wf
    rw [x_w, x_w, x_oc]
    by_cases k1 : kd i = 1
    · rw [if_pos k1, if_pos k1, if_pos k1]
      obtain ⟨g, wf⟩ := w1 k1
      rw [g]
      exact ih (i + 1) p (o + 1) l _ _ _ _ wf (x_ag_up a1 ⟨Int32.le_trans w0.1 w0.2.1, w0.2.2⟩) a2
    · rw [if_neg k1, if_neg k1, if_neg k1]
      by_cases k2 : kd i = 2
      · rw [if_pos k2, if_pos k2, if_pos k2]
        obtain ⟨g, lo, wf⟩ := w2 k2
        rw [g]
        exact ih (i + 1) p o o _ _ _ _ wf a1 (x_ag_up2 a2 lo w0.1 (Int32.le_trans w0.2.1 w0.2.2))
      · rw [if_neg k2, if_neg k2, if_neg k2]
        by_cases k3 : kd i = 3
        · rw [if_pos k3, if_pos k3]
          obtain ⟨⟨g1, gl⟩, wf⟩ := w3 k3
          have eb := a1 (gp i) g1 (Int32.le_trans gl w0.2.1)
          have ee := a2 (gp i) g1 gl
          rw [eb, ee]
          by_cases s : x_sq tx n (gb' (gp i)) (ge' (gp i)) p
          · rw [x_cif_t s, x_cif_t s]
            exact ih (i + 1) _ o l _ _ _ _ wf a1 a2
          · rw [x_cif_f s, x_cif_f s]
            exact Or.inl ⟨rfl, rfl⟩
        · rw [if_neg k3, if_neg k3]
          by_cases s : 0 ≤ p ∧ p < n ∧ tk i (tx p) = 1
          · rw [if_pos s, if_pos s]
            exact ih (i + 1) _ o l _ _ _ _ (w4 k1 k2 k3) a1 a2
          · rw [if_neg s, if_neg s]
            exact Or.inl ⟨rfl, rfl⟩
/-- items of two rows that are alike -/
theorem x_w_eq {tx : Int32 → Int32} {n : Int32} {kd gp kd' gp' : Int32 → Int32} {tk tk' : Int32 → Int32 → Int32} {d : Int32} (E : Int32 → Prop) (ek : ∀ i, E i → kd' (i + d) = kd i) (eg : ∀ i, E i → ¬ kd i = 0 → gp' (i + d) = gp i) (ez : ∀ i, E i → kd i = 0 ∨ kd i = 1 ∨ kd i = 2 ∨ kd i = 3) (et : ∀ i p, E i → kd i = 0 → 0 ≤ p → p < n → tk' (i + d) (tx p) = tk i (tx p)) : ∀ (c : Nat) (i p : Int32) (gb ge : Int32 → Int32), (∀ k : Nat, k < c → E (i + Int32.ofNat k)) → x_w tx n kd' gp' tk' c (i + d) p gb ge = x_w tx n kd gp tk c i p gb ge := by
  intro c
  induction c with
  | zero => intro i p gb ge _; rfl
  | succ c ih =>
    intro i p gb ge H
    have h0 : E i := by
      have q := H 0 (Nat.succ_pos c)
      rwa [show i + Int32.ofNat 0 = i from Int32.add_zero i] at q
    have s : i + d + 1 = i + 1 + d := by rw [Int32.add_assoc, Int32.add_comm d 1, ← Int32.add_assoc]
    have h1 : ∀ k : Nat, k < c → E (i + 1 + Int32.ofNat k) := fun k hk => by
      have q := H (k + 1) (by omega)
      rwa [show i + Int32.ofNat (k + 1) = i + 1 + Int32.ofNat k from by rw [Int32.ofNat_add, Int32.add_assoc, Int32.add_comm (Int32.ofNat k)]; rfl] at q
    rw [x_w, x_w, ek i h0, s]
    have J := fun q b e => ih (i + 1) q b e h1
    rcases ez i h0 with z | z | z | z
    · have n1 : ¬ kd i = 1 := by rw [z]; decide
      have n2 : ¬ kd i = 2 := by rw [z]; decide
      have n3 : ¬ kd i = 3 := by rw [z]; decide
      rw [if_neg n1, if_neg n1, if_neg n2, if_neg n2, if_neg n3, if_neg n3]
      by_cases c1 : 0 ≤ p ∧ p < n ∧ tk i (tx p) = 1
      · have c2 : 0 ≤ p ∧ p < n ∧ tk' (i + d) (tx p) = 1 := ⟨c1.1, c1.2.1, (et i p h0 z c1.1 c1.2.1).trans c1.2.2⟩
        rw [if_pos c1, if_pos c2, J]
      · have c2 : ¬ (0 ≤ p ∧ p < n ∧ tk' (i + d) (tx p) = 1) := fun w => c1 ⟨w.1, w.2.1, (et i p h0 z w.1 w.2.1).symm.trans w.2.2⟩
        rw [if_neg c1, if_neg c2]
    · have n0 : ¬ kd i = 0 := by rw [z]; decide
      rw [if_pos z, if_pos z, eg i h0 n0, J]
    · have n0 : ¬ kd i = 0 := by rw [z]; decide
      have n1 : ¬ kd i = 1 := by rw [z]; decide
      rw [if_neg n1, if_neg n1, if_pos z, if_pos z, eg i h0 n0, J]
    · have n0 : ¬ kd i = 0 := by rw [z]; decide
      have n1 : ¬ kd i = 1 := by rw [z]; decide
      have n2 : ¬ kd i = 2 := by rw [z]; decide
      rw [if_neg n1, if_neg n1, if_neg n2, if_neg n2, if_pos z, if_pos z, eg i h0 n0, J]
/-- the star s takes k characters from p on -/
def x_rr (tx : Int32 → Int32) (n : Int32) (tk : Int32 → Int32 → Int32) (s to p k : Int32) : Prop := ∀ j, 0 ≤ j → j < k → s < to ∧ 0 ≤ p + j ∧ p + j < n ∧ tk s (tx (p + j)) = 1
def x_ct (a b : Int32) : Nat := (b - a).toNatClampNeg
/-- the way on which the first star takes k1, the second k2 characters: it ends at e -/
def x_pth (tx : Int32 → Int32) (n : Int32) (kd gp : Int32 → Int32) (tk : Int32 → Int32 → Int32) (fr s1 s2 to : Int32) (gb0 ge0 : Int32 → Int32) (st k1 k2 e : Int32) (gb ge : Int32 → Int32) : Prop := ∃ p1 b1 e1 p2 b2 e2, x_w tx n kd gp tk (x_ct fr s1) fr st gb0 ge0 = some (p1, b1, e1) ∧ x_rr tx n tk s1 to p1 k1 ∧ x_w tx n kd gp tk (x_ct (s1 + 1) s2) (s1 + 1) (p1 + k1) b1 e1 = some (p2, b2, e2) ∧ x_rr tx n tk s2 to p2 k2 ∧ x_w tx n kd gp tk (x_ct (s2 + 1) to) (s2 + 1) (p2 + k2) b2 e2 = some (e, gb, ge)
/-- a pattern: its groups begin and end in their turn, g of them -/
def x_pw (kd gp : Int32 → Int32) (fr s1 s2 to g : Int32) : Prop := ∃ o1 l1 o2 l2, x_wf kd gp (x_ct fr s1) fr 0 0 ∧ x_oc kd (x_ct fr s1) fr 0 0 = (o1, l1) ∧ x_wf kd gp (x_ct (s1 + 1) s2) (s1 + 1) o1 l1 ∧ x_oc kd (x_ct (s1 + 1) s2) (s1 + 1) o1 l1 = (o2, l2) ∧ x_wf kd gp (x_ct (s2 + 1) to) (s2 + 1) o2 l2 ∧ x_oc kd (x_ct (s2 + 1) to) (s2 + 1) o2 l2 = (g, g)
theorem x_ag0 {f g : Int32 → Int32} : x_ag 0 f g := fun _ a b => absurd (Int32.le_trans a b) (by decide)
theorem x_w_ags {tx : Int32 → Int32} {n : Int32} {kd gp : Int32 → Int32} {tk : Int32 → Int32 → Int32} {c : Nat} {i p o l o' l' q : Int32} {gb ge gb' ge' b e : Int32 → Int32} (w : x_wf kd gp c i o l) (z : x_oc kd c i o l = (o', l')) (a1 : x_ag o gb gb') (a2 : x_ag l ge ge') (h : x_w tx n kd gp tk c i p gb ge = some (q, b, e)) : ∃ b' e', x_w tx n kd gp tk c i p gb' ge' = some (q, b', e') ∧ x_ag o' b b' ∧ x_ag l' e e' := by
  rcases x_w_ag (tx := tx) (n := n) (tk := tk) c i p o l gb ge gb' ge' w a1 a2 with ⟨m, _⟩ | ⟨q1, b1, e1, b2, e2, m1, m2, m3, m4⟩
  · rw [h] at m; cases m
  · rw [h] at m1
    cases m1
    rw [z] at m3 m4
    exact ⟨b2, e2, m2, m3, m4⟩
theorem x_pth_ag {tx : Int32 → Int32} {n : Int32} {kd gp : Int32 → Int32} {tk : Int32 → Int32 → Int32} {fr s1 s2 to g : Int32} {gb0 ge0 gb0' ge0' : Int32 → Int32} {st k1 k2 e : Int32} {gb ge : Int32 → Int32} (W : x_pw kd gp fr s1 s2 to g) (P : x_pth tx n kd gp tk fr s1 s2 to gb0 ge0 st k1 k2 e gb ge) : ∃ gb' ge', x_pth tx n kd gp tk fr s1 s2 to gb0' ge0' st k1 k2 e gb' ge' ∧ x_ag g gb gb' ∧ x_ag g ge ge' := by
  obtain ⟨o1, l1, o2, l2, w1, z1, w2, z2, w3, z3⟩ := W
  obtain ⟨p1, b1, e1, p2, b2, e2, m1, r1, m2, r2, m3⟩ := P
  obtain ⟨b1', e1', n1, a1, c1⟩ := x_w_ags (gb' := gb0') (ge' := ge0') w1 z1 x_ag0 x_ag0 m1
  obtain ⟨b2', e2', n2, a2, c2⟩ := x_w_ags w2 z2 a1 c1 m2
  obtain ⟨b3', e3', n3, a3, c3⟩ := x_w_ags w3 z3 a2 c2 m3
  exact ⟨b3', e3', ⟨p1, b1', e1', p2, b2', e2', n1, r1, n2, r2, n3⟩, a3, c3⟩
/-- of the ways that are told by C the longest, of these the latest -/
def x_bst (C : Int32 → Int32 → Int32 → Prop) (k1 k2 e : Int32) : Prop := (C k1 k2 e ∧ 0 ≤ k1 ∧ 0 ≤ k2) ∧ ∀ a b e', 0 ≤ a → 0 ≤ b → C a b e' → e' < e ∨ (e' = e ∧ (a < k1 ∨ (a = k1 ∧ b ≤ k2)))
theorem x_bst_u {C : Int32 → Int32 → Int32 → Prop} {k1 k2 e k1' k2' e' : Int32} (h : x_bst C k1 k2 e) (h' : x_bst C k1' k2' e') : k1 = k1' ∧ k2 = k2' ∧ e = e' := by
  obtain ⟨⟨c, c1, c2⟩, m⟩ := h
  obtain ⟨⟨d, d1, d2⟩, m'⟩ := h'
  have a := m _ _ _ d1 d2 d
  have b := m' _ _ _ c1 c2 c
  rcases a with a | ⟨a, a'⟩
  · rcases b with b | ⟨b, _⟩
    · exact absurd (Int32.lt_trans a b) Int32.lt_irrefl
    · rw [b] at a; exact absurd a Int32.lt_irrefl
  · rcases b with b | ⟨_, b'⟩
    · rw [a] at b; exact absurd b Int32.lt_irrefl
    · rcases a' with a' | ⟨a', a''⟩
      · rcases b' with b' | ⟨b', _⟩
        · exact absurd (Int32.lt_trans a' b') Int32.lt_irrefl
        · rw [b'] at a'; exact absurd a' Int32.lt_irrefl
      · rcases b' with b' | ⟨b', b''⟩
        · rw [a'] at b'; exact absurd b' Int32.lt_irrefl
        · exact ⟨b', Int32.le_antisymm b'' a'', a.symm⟩
