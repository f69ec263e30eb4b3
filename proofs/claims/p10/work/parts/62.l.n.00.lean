/-! the script's loop -/
section XS
variable {t : Int32 → Int32} {n a d sz : Int32} {lab use : Int32 → Int32}
theorem x_sc_bl (n2 : n ≤ 1000) (c : x_lk t n a = 32 ∨ x_lk t n a = 10 ∨ x_lk t n a = 59) : x_scr t n a d sz lab use = x_scr t n (a + 1) d sz lab use := by
  obtain ⟨d1, d2⟩ := x_lk_at (t := t) (n := n) (a := a) (by rcases c with c | c | c <;> rw [c] <;> decide)
  rw [x_scr, dif_pos ⟨d1, n2⟩, d2, if_pos c]
theorem x_sc_125 (n2 : n ≤ 1000) (c : x_lk t n a = 125) : x_scr t n a d sz lab use = if d = 0 then none else x_scr t n (a + 1) (d - 1) sz lab use := by
  obtain ⟨d1, d2⟩ := x_lk_in c (by decide)
  rw [x_scr, dif_pos ⟨d1, n2⟩, d2, if_neg (by decide), if_pos rfl]
theorem x_sc_out (h : ¬ a < n) : x_scr t n a d sz lab use = if d = 0 then some (sz, lab, use) else none := by
  rw [x_scr, dif_neg (fun z => h z.1)]
def x_co (c : Int32) : Prop := ¬ c = -1 ∧ ¬ c = 32 ∧ ¬ c = 10 ∧ ¬ c = 59 ∧ ¬ c = 125
theorem x_sc_40 (n2 : n ≤ 1000) (c : x_co (x_lk t n a)) (h : sz = 40) : x_scr t n a d sz lab use = none := by
  obtain ⟨d1, d2⟩ := x_lk_at c.1
  rw [x_scr, dif_pos ⟨d1, n2⟩, d2, if_neg (fun z => z.elim c.2.1 (fun z => z.elim c.2.2.1 c.2.2.2.1)), if_neg c.2.2.2.2, if_pos h]
theorem x_sc_n (n2 : n ≤ 1000) (c : x_co (x_lk t n a)) (e : x_cmd t n a = none) : x_scr t n a d sz lab use = none := by
  obtain ⟨d1, d2⟩ := x_lk_at c.1
  rw [x_scr, dif_pos ⟨d1, n2⟩, d2, if_neg (fun z => z.elim c.2.1 (fun z => z.elim c.2.2.1 c.2.2.2.1)), if_neg c.2.2.2.2, e]
  split <;> rfl
theorem x_sc_s {b k v : Int32} (n2 : n ≤ 1000) (c : x_co (x_lk t n a)) (h : ¬ sz = 40) (e : x_cmd t n a = some (b, k, v)) : x_scr t n a d sz lab use =
          (if k = 1 then (if d = 4 then none else x_scr t n b (d + 1) (sz + 1) lab (x_up use sz (-1)))
          else if k = 2 then (if lab v = 1 then none else x_scr t n b d (sz + 1) (x_up lab v 1) (x_up use sz (-1)))
          else if k = 3 then x_scr t n b d (sz + 1) lab (x_up use sz v)
          else x_scr t n b d (sz + 1) lab (x_up use sz (-1))) := by
  obtain ⟨d1, d2⟩ := x_lk_at c.1
  have hb : a < b := x_cmd_lt n2 d1 e
  rw [x_scr, dif_pos ⟨d1, n2⟩, d2, if_neg (fun z => z.elim c.2.1 (fun z => z.elim c.2.2.1 c.2.2.2.1)), if_neg c.2.2.2.2, if_neg h, e]
  dsimp only
  rw [dif_pos hb]
theorem x_cm0 (e : x_adrs t n a = none) : x_cmd t n a = none := by
  unfold x_cmd
  rw [e]
theorem x_cm1 {r : Int32 × Int32} (e : x_adrs t n a = some r) : x_cmd t n a = x_act t n (x_neg t n r.1).1 (if r.2 = 1 ∨ (x_neg t n r.1).2 = 1 then 1 else 0) := by
  unfold x_cmd
  rw [e]
/-- labels that are placed -/
def x_R1 (ab : Int32 → Prop) (l lab : Int32 → Int32) : Prop := ∀ j, 0 ≤ j → j ≤ 25 → (lab j = 1 ↔ ¬ ab (l j))
def x_us (kd lb v : Int32) : Prop := (kd = 98 ∨ kd = 116 → v = lb ∧ (v = -1 ∨ (0 ≤ v ∧ v ≤ 25))) ∧ (¬ (kd = 98 ∨ kd = 116) → v = -1)
theorem x_step1 {ab : Int32 → Prop} {r : Int32 × Int32} {b d' s kd lb : Int32} {l l' : Int32 → Int32} (n2 : n ≤ 1000) (c : x_co (x_lk t n a)) (h : ¬ sz = 40) (e : x_adrs t n a = some r) (A : x_A1 ab (x_act t n (x_neg t n r.1).1 (if r.2 = 1 ∨ (x_neg t n r.1).2 = 1 then 1 else 0)) b d d' s l l' kd lb) (R : x_R1 ab l lab) (hs : ¬ ab s) :
    ∃ lab' use' v, x_scr t n a d sz lab use = x_scr t n b d' (sz + 1) lab' use' ∧ x_R1 ab l' lab' ∧ use' = x_up use sz v ∧ x_us kd lb v ∧ a < b := by
  obtain ⟨k, v, e1, A⟩ := A
  have e2 := (x_cm1 e).trans e1
  have hb : a < b := x_cmd_lt n2 (x_lk_at c.1).1 e2
  have E := x_sc_s (d := d) (lab := lab) (use := use) n2 c h e2
  rcases A with ⟨k1, h4, hd, hl, k98, k116⟩ | ⟨k2, hd, hlv, hv, hl, k98, k116⟩ | ⟨k3, hd, hl, hlb, hv, hk⟩ | ⟨k0, hd, hl, k98, k116⟩
  · subst k1; subst hd; subst hl
    rw [if_pos rfl, if_neg h4] at E
    exact ⟨lab, _, -1, E, R, rfl, ⟨fun z => z.elim (fun w => absurd w k98) (fun w => absurd w k116), fun _ => rfl⟩, hb⟩
  · subst k2; subst hd
    have q : ¬ lab v = 1 := fun z => (R v hv.1 hv.2).mp z hlv
    rw [if_neg (by decide), if_pos rfl, if_neg q] at E
    refine ⟨_, _, -1, E, ?_, rfl, ⟨fun z => z.elim (fun w => absurd w k98) (fun w => absurd w k116), fun _ => rfl⟩, hb⟩
    intro j j0 j1
    rw [hl j j0]
    unfold x_up
    by_cases w : j = v
    · rw [if_pos w, if_pos w]; exact ⟨fun _ => hs, fun _ => rfl⟩
    · rw [if_neg w, if_neg w]; exact R j j0 j1
  · subst k3; subst hd; subst hl
    rw [if_neg (by decide), if_neg (by decide), if_pos rfl] at E
    exact ⟨lab, _, v, E, R, rfl, ⟨fun _ => ⟨hlb.symm, hv⟩, fun z => absurd hk z⟩, hb⟩
  · subst k0; subst hd; subst hl
    rw [if_neg (by decide), if_neg (by decide), if_neg (by decide)] at E
    exact ⟨lab, _, -1, E, R, rfl, ⟨fun z => z.elim (fun w => absurd w k98) (fun w => absurd w k116), fun _ => rfl⟩, hb⟩
theorem x_step0 {ab : Int32 → Prop} {r : Int32 × Int32} {l : Int32 → Int32} (n2 : n ≤ 1000) (c : x_co (x_lk t n a)) (h : ¬ sz = 40) (e : x_adrs t n a = some r) (A : x_A0 ab (x_act t n (x_neg t n r.1).1 (if r.2 = 1 ∨ (x_neg t n r.1).2 = 1 then 1 else 0)) d l) (R : x_R1 ab l lab) : x_scr t n a d sz lab use = none := by
  rcases A with A | ⟨b, v, A, h4⟩ | ⟨b, v, A, hv, hl⟩
  · exact x_sc_n n2 c ((x_cm1 e).trans A)
  · rw [x_sc_s n2 c h ((x_cm1 e).trans A), if_pos rfl, if_pos h4]
  · rw [x_sc_s n2 c h ((x_cm1 e).trans A), if_neg (by decide), if_pos rfl, if_pos ((R v hv.1 hv.2).mpr hl)]
theorem x_had {r : Int32 × Int32} {e5 e6 : Int32} (h1 : e6 = (x_neg t n r.1).2) (h2 : 0 < e5 ↔ r.2 = 1) : (if r.2 = 1 ∨ (x_neg t n r.1).2 = 1 then (1 : Int32) else 0) = 1 ↔ (0 < e5 ∨ ¬ e6 = 0) := by
  have z : (x_neg t n r.1).2 = 1 ∨ (x_neg t n r.1).2 = 0 := by
    unfold x_neg
    split
    · exact Or.inl rfl
    · exact Or.inr rfl
  rw [h1, h2]
  rcases z with z | z
  · rw [z, if_pos (Or.inr rfl)]
    exact ⟨fun _ => Or.inr (by decide), fun _ => rfl⟩
  · rw [z]
    by_cases q : r.2 = 1
    · rw [if_pos (Or.inl q)]
      exact ⟨fun _ => Or.inl q, fun _ => rfl⟩
    · rw [if_neg (fun w => w.elim q (by decide))]
      exact ⟨fun w => absurd w (by decide), fun w => w.elim (fun u => absurd u q) (fun u => absurd rfl u)⟩
/-- what a script comes to -/
def x_P1 (o : Option (Int32 × (Int32 → Int32) × (Int32 → Int32))) (s : Int32) : Prop := ∃ r, o = some r ∧ x_ok r.2.1 r.2.2 0 r.1 = true ∧ r.1 = s
def x_P0 (o : Option (Int32 × (Int32 → Int32) × (Int32 → Int32))) : Prop := ∀ r, o = some r → x_ok r.2.1 r.2.2 0 r.1 = false
theorem x_P0n {o : Option (Int32 × (Int32 → Int32) × (Int32 → Int32))} (e : o = none) : x_P0 o := by
  intro r z
  rw [e] at z
  cases z
theorem x_P0s {o : Option (Int32 × (Int32 → Int32) × (Int32 → Int32))} {s : Int32} (e : o = some (s, lab, use)) (k : x_ok lab use 0 s = false) : x_P0 o := by
  intro r z
  rw [e] at z
  cases z
  exact k
theorem x_P1s {o : Option (Int32 × (Int32 → Int32) × (Int32 → Int32))} {s : Int32} (e : o = some (s, lab, use)) (k : x_ok lab use 0 s = true) : x_P1 o s := ⟨_, e, k, rfl⟩
theorem x_ok_e {k s : Int32} (h : ¬ k < s) : x_ok lab use k s = true := by
  rw [x_ok, dif_neg (fun z => h z.1)]
theorem x_ok_s {k s : Int32} (h : k < s ∧ s ≤ 1000) (c : use k = -1 ∨ lab (use k) = 1) : x_ok lab use k s = x_ok lab use (k + 1) s := by
  rw [x_ok, dif_pos h, if_pos c]
theorem x_ok_f {k s : Int32} (h : k < s ∧ s ≤ 1000) (c : ¬ (use k = -1 ∨ lab (use k) = 1)) : x_ok lab use k s = false := by
  rw [x_ok, dif_pos h, if_neg c]
theorem x_jf {ab : Int32 → Prop} {l : Int32 → Int32} {u lb : Int32} (J : u = lb ∧ (u = -1 ∨ (0 ≤ u ∧ u ≤ 25))) (R : x_R1 ab l lab) (c : ¬ lb = -1) (z : ab (l lb)) : ¬ (u = -1 ∨ lab u = 1) := by
  obtain ⟨J1, J2⟩ := J
  subst J1
  have q := J2.resolve_left c
  exact fun w => w.elim c (fun w => (R u q.1 q.2).mp w z)
theorem x_jt {ab : Int32 → Prop} {l : Int32 → Int32} {u lb : Int32} (J : u = lb ∧ (u = -1 ∨ (0 ≤ u ∧ u ≤ 25))) (R : x_R1 ab l lab) (c : ¬ lb = -1) (z : ¬ ab (l lb)) : u = -1 ∨ lab u = 1 := by
  obtain ⟨J1, J2⟩ := J
  subst J1
  have q := J2.resolve_left c
  exact Or.inr ((R u q.1 q.2).mpr z)
end XS
/-- the class's commands: which label a command wants -/
def x_R2 (h : z_H) (pg : Nat) (s : Int32) (use : Int32 → Int32) : Prop := ∀ k, 0 ≤ k → k < s → x_us (vI h (pg + (9 + 6 * Int32.toNatClampNeg k)) 3) (vI h (pg + (9 + 6 * Int32.toNatClampNeg k)) 8) (use k)
theorem x_R2_eq {h h' : z_H} {pg : Nat} {s : Int32} {use : Int32 → Int32} (R : x_R2 h pg s use) (e3 : ∀ a, vI h' a 3 = vI h a 3) (e8 : ∀ a, vI h' a 8 = vI h a 8) : x_R2 h' pg s use := by
  intro k k0 k1
  rw [e3, e8]
  exact R k k0 k1
theorem x_clm {k s : Int32} (k0 : 0 ≤ k) (h : k < s) : k.toNatClampNeg < s.toNatClampNeg := by
  have a1 := Int32.le_iff_toInt_le.mp k0
  have a2 := Int32.lt_iff_toInt_lt.mp h
  have z0 : (0 : Int32).toInt = 0 := rfl
  show k.toInt.toNat < s.toInt.toNat
  omega
theorem x_R2_add {h h' : z_H} {pg : Nat} {s kd lb v : Int32} {use : Int32 → Int32} (R : x_R2 h pg s use) (s1 : s < 40) (fr : ∀ a k, pg + 9 ≤ a → a + 6 ≤ pg + (9 + 6 * Int32.toNatClampNeg s) → (k = 3 ∨ k = 8) → vI h' a k = vI h a k) (hk : vI h' (pg + (9 + 6 * Int32.toNatClampNeg s)) 3 = kd) (hl : vI h' (pg + (9 + 6 * Int32.toNatClampNeg s)) 8 = lb) (u : x_us kd lb v) : x_R2 h' pg (s + 1) (x_up use s v) := by
  intro k k0 k1
  unfold x_up
  by_cases q : k = s
  · subst q
    rw [if_pos rfl, hk, hl]
    exact u
  · have ks : k < s := by lia
    have cl := x_clm k0 ks
    rw [if_neg q, fr _ 3 (by omega) (by omega) (Or.inl rfl), fr _ 8 (by omega) (by omega) (Or.inr rfl)]
    exact R k k0 ks
theorem x_s1 {s : Int32} (h0 : 0 ≤ s) (h1 : s < 40) : 0 ≤ s + 1 ∧ s + 1 ≤ 40 := by
  constructor <;> lia
theorem x_s1n {s : Int32} (h0 : 0 ≤ s) (h1 : s < 40) : ¬ s + 1 = -1 := by lia
theorem x_nega {t : Int32 → Int32} {n a : Int32} {r : Int32 × Int32} (n2 : n ≤ 1000) (a0 : 0 ≤ a) (ha : a < n) (e : x_adrs t n a = some r) : 0 ≤ (x_neg t n r.1).1 := by
  have z2 := x_neg_le (t := t) (n := n) (a := r.1) n2
  have z0 : (0 : Int32).toInt = 0 := rfl
  have a1 := Int32.le_iff_toInt_le.mp a0
  have z1 := (x_adrs_le n2 (Int.le_of_lt (Int32.lt_iff_toInt_lt.mp ha)) e).1
  exact Int32.le_iff_toInt_le.mpr (by omega)
theorem x_absz {v s : Int32} (h : 0 ≤ v) (h2 : v < s) (h3 : s = -1) : False := by
  subst h3
  have q := Int32.lt_of_le_of_lt h h2
  revert q
  decide
