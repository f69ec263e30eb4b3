/-! contents: a pattern as a machine reads it -/
def x_ek (b : Int32) : Int32 := if b = 40 then 1 else if b = 41 then 2 else if 49 ≤ b ∧ b ≤ 51 then 3 else 0
def x_eg (b g : Int32) : Int32 := if b = 40 then g + 1 else if b = 41 then g else b - 48
def x_pc (a c : Int32) : Bool := decide (a = 46) || decide (c = a)
theorem x_pc_d {a c : Int32} (h : a = 46) : x_pc a c = true := by simp [x_pc, h]
theorem x_le_e {a c : Int32} : (false || decide (a ≤ c ∧ c ≤ a)) = decide (c = a) := by
  rw [Bool.false_or]
  congr 1
  exact propext ⟨fun z => Int32.le_antisymm z.2 z.1, fun z => by rw [z]; exact ⟨Int32.le_refl _, Int32.le_refl _⟩⟩
theorem x_pc_n {a c : Int32} (h : ¬ a = 46) : (false || decide (a ≤ c ∧ c ≤ a)) = x_pc a c := by
  rw [x_le_e, x_pc]
  simp [h]
theorem x_lkk {t : Int32 → Int32} {n a : Int32} (kt : ∀ j, x_kc (t j)) (h : ¬ x_lk t n a = -1) (h2 : ¬ x_lk t n a = 10) : 32 ≤ x_lk t n a ∧ x_lk t n a ≤ 126 := by
  unfold x_lk at h h2 ⊢
  by_cases q : a < n
  · rw [if_pos q] at h2 ⊢
    exact (kt a).resolve_left h2
  · rw [if_neg q] at h
    exact absurd rfl h
theorem x_mb_st {x : Bool} {a b c : Int32} (le : a ≤ b) (b1 : b ≤ 126) (kc : x_kc c) : ((x || decide (c = a)) || decide (a + 1 ≤ c ∧ c ≤ b)) = (x || decide (a ≤ c ∧ c ≤ b)) := by
  rw [Bool.or_assoc]
  congr 1
  have e : (a ≤ c ∧ c ≤ b) ↔ (c = a ∨ (a + 1 ≤ c ∧ c ≤ b)) := by
    have c1 : c ≤ 126 := by
      rcases kc with e | e
      · rw [e]; decide
      · exact e.2
    constructor
    · rintro ⟨h1, h2⟩
      by_cases q : c = a
      · exact Or.inl q
      · exact Or.inr ⟨by lia, h2⟩
    · rintro (h1 | ⟨h1, h2⟩)
      · rw [h1]; exact ⟨Int32.le_refl _, le⟩
      · exact ⟨by lia, h2⟩
  rw [decide_eq_decide.mpr e, Bool.decide_or]
/-- a set -/
def x_rq (t : Int32 → Int32) (n q : Int32) : Int32 := if x_lk t n (q + 1) = 45 ∧ ¬ x_lk t n (q + 2) = 93 then q + 3 else q + 1
def x_rb (t : Int32 → Int32) (n q : Int32) : Int32 := if x_lk t n (q + 1) = 45 ∧ ¬ x_lk t n (q + 2) = 93 then x_lk t n (q + 2) else x_lk t n q
def x_sb (t : Int32 → Int32) (n q : Int32) (S : Int32 → Bool) : Int32 → Bool := fun c => S c || decide (x_lk t n q ≤ c ∧ c ≤ x_rb t n q)
def x_sst (t : Int32 → Int32) (n : Int32) (s : Int32 × (Int32 → Bool)) : Int32 × (Int32 → Bool) := (x_rq t n s.1, x_sb t n s.1 s.2)
def x_ssp (t : Int32 → Int32) (n : Int32) (s : Int32 × (Int32 → Bool)) : Bool := decide (x_lk t n s.1 = 93)
noncomputable def x_sF (t : Int32 → Int32) (n v q : Int32) (S : Int32 → Bool) : Int32 × (Int32 → Bool) := if v = 0 then x_wh (0, fun _ => false) (x_ssp t n) (x_sst t n) (x_sst t n (q, S)) else (q, S)
theorem x_sF_n {t : Int32 → Int32} {n v q : Int32} {S : Int32 → Bool} (h : ¬ v = 0) : x_sF t n v q S = (q, S) := if_neg h
theorem x_sF_1 {t : Int32 → Int32} {n v q : Int32} {S : Int32 → Bool} (h : v = 0) (h2 : x_lk t n (x_rq t n q) = 93) : x_sF t n v q S = x_sF t n 1 (x_rq t n q) (x_sb t n q S) := by
  rw [x_sF, if_pos h, x_sF_n (by decide), x_wh_t (by simp only [x_ssp, x_sst, h2, decide_true])]
  rfl
theorem x_sF_0 {t : Int32 → Int32} {n v q : Int32} {S : Int32 → Bool} (h : v = 0) (h2 : ¬ x_lk t n (x_rq t n q) = 93) : x_sF t n v q S = x_sF t n 0 (x_rq t n q) (x_sb t n q S) := by
  rw [x_sF, if_pos h, x_sF, if_pos rfl, x_wh_s (by simp only [x_ssp, x_sst, h2, decide_false])]
  rfl
def x_tn (v : Int32) (b : Bool) : Bool := if v = 0 then b else !b
def x_ub (f : Int32 → Int32 → Bool) (i : Int32) (S : Int32 → Bool) : Int32 → Int32 → Bool := fun j => if j = i then S else f j
/-- place, groups, items, their kinds, groups, sets, stars, the first's and the second's item, $ -/
abbrev x_PS : Type := Int32 × Int32 × Int32 × (Int32 → Int32) × (Int32 → Int32) × (Int32 → Int32 → Bool) × Int32 × Int32 × Int32 × Int32
abbrev xp (A : x_PS) : Int32 := A.1
abbrev xg (A : x_PS) : Int32 := A.2.1
abbrev xi (A : x_PS) : Int32 := A.2.2.1
abbrev xk (A : x_PS) : Int32 → Int32 := A.2.2.2.1
abbrev xq (A : x_PS) : Int32 → Int32 := A.2.2.2.2.1
abbrev xt (A : x_PS) : Int32 → Int32 → Bool := A.2.2.2.2.2.1
abbrev xn (A : x_PS) : Int32 := A.2.2.2.2.2.2.1
abbrev xa (A : x_PS) : Int32 := A.2.2.2.2.2.2.2.1
abbrev xb (A : x_PS) : Int32 := A.2.2.2.2.2.2.2.2.1
abbrev xe (A : x_PS) : Int32 := A.2.2.2.2.2.2.2.2.2
def x_ad (A : x_PS) (p g k q : Int32) (S : Int32 → Bool) : x_PS := (p, g, xi A + 1, x_up (xk A) (xi A) k, x_up (xq A) (xi A) q, x_ub (xt A) (xi A) S, xn A, xa A, xb A, xe A)
def x_star (A : x_PS) : x_PS := (xp A + 1, xg A, xi A, xk A, xq A, xt A, xn A + 1, if xn A = 0 then xi A - 1 else xa A, if xn A = 0 then xb A else xi A - 1, xe A)
def x_esc (t : Int32 → Int32) (n : Int32) (A : x_PS) : x_PS := x_ad A (xp A + 2) (if x_lk t n (xp A + 1) = 40 then xg A + 1 else xg A) (x_ek (x_lk t n (xp A + 1))) (x_eg (x_lk t n (xp A + 1)) (xg A)) (fun c => decide (c = x_lk t n (xp A + 1)))
def x_sa (t : Int32 → Int32) (n p : Int32) : Int32 := if x_lk t n (p + 1) = 94 then p + 2 else p + 1
noncomputable def x_setS (t : Int32 → Int32) (n p : Int32) (c : Int32) : Bool := x_tn (if x_lk t n (p + 1) = 94 then 1 else 0) ((x_sF t n 0 (x_sa t n p) (fun _ => false)).2 c)
noncomputable def x_sset (t : Int32 → Int32) (n : Int32) (A : x_PS) : x_PS := x_ad A ((x_set t n (x_sa t n (xp A))).getD 0) (xg A) 0 0 (x_setS t n (xp A))
def x_dol (A : x_PS) : x_PS := (xp A + 1, xg A, xi A, xk A, xq A, xt A, xn A, xa A, xb A, 1)
def x_pln (t : Int32 → Int32) (n : Int32) (A : x_PS) : x_PS := x_ad A (xp A + 1) (xg A) 0 0 (x_pc (x_lk t n (xp A)))
noncomputable def x_pst (t : Int32 → Int32) (n : Int32) (A : x_PS) : x_PS := if x_lk t n (xp A) = 42 then x_star A else if x_lk t n (xp A) = 92 then x_esc t n A else if x_lk t n (xp A) = 91 then x_sset t n A else if x_lk t n (xp A) = 36 ∧ (x_lk t n (xp A + 1) = 47 ∨ x_lk t n (xp A + 1) = -1) then x_dol A else x_pln t n A
def x_psp (t : Int32 → Int32) (n : Int32) (A : x_PS) : Bool := decide (x_lk t n (xp A) = 47)
def x_P00 : x_PS := (0, 0, 0, fun _ => 0, fun _ => 0, fun _ _ => false, 0, 0, 0, 0)
noncomputable def x_pW (t : Int32 → Int32) (n : Int32) (A : x_PS) : x_PS := x_wh x_P00 (x_psp t n) (x_pst t n) A
def x_pA0 (t : Int32 → Int32) (n p : Int32) : x_PS := (if x_lk t n p = 94 then p + 1 else p, 0, 0, fun _ => 0, fun _ => 0, fun _ _ => false, 0, 0, 0, 0)
/-- the pattern that begins at p -/
noncomputable def x_pA (t : Int32 → Int32) (n p : Int32) : x_PS := x_pW t n (x_pA0 t n p)
section K0
variable {t : Int32 → Int32} {n : Int32} {A : x_PS}
theorem x_pW_t (h : x_lk t n (xp A) = 47) : x_pW t n A = A := x_wh_t (by simp only [x_psp, h, decide_true])
theorem x_pW_s (h : ¬ x_lk t n (xp A) = 47) : x_pW t n A = x_pW t n (x_pst t n A) := x_wh_s (by simp only [x_psp, h, decide_false])
theorem x_pW_42 (h : x_lk t n (xp A) = 42) : x_pW t n A = x_pW t n (x_star A) := by
  rw [x_pW_s (by rw [h]; decide), x_pst, if_pos h]
theorem x_pW_92 (h : x_lk t n (xp A) = 92) : x_pW t n A = x_pW t n (x_esc t n A) := by
  rw [x_pW_s (by rw [h]; decide), x_pst, if_neg (by rw [h]; decide), if_pos h]
theorem x_pW_91 (h : x_lk t n (xp A) = 91) : x_pW t n A = x_pW t n (x_sset t n A) := by
  rw [x_pW_s (by rw [h]; decide), x_pst, if_neg (by rw [h]; decide), if_neg (by rw [h]; decide), if_pos h]
theorem x_pW_36 (h : x_lk t n (xp A) = 36) (h2 : x_lk t n (xp A + 1) = 47 ∨ x_lk t n (xp A + 1) = -1) : x_pW t n A = x_pW t n (x_dol A) := by
  rw [x_pW_s (by rw [h]; decide), x_pst, if_neg (by rw [h]; decide), if_neg (by rw [h]; decide), if_neg (by rw [h]; decide), if_pos ⟨h, h2⟩]
theorem x_pW_p (h : ¬ x_lk t n (xp A) = 47) (h1 : ¬ x_lk t n (xp A) = 42) (h2 : ¬ x_lk t n (xp A) = 92) (h3 : ¬ x_lk t n (xp A) = 91) (h4 : ¬ (x_lk t n (xp A) = 36 ∧ (x_lk t n (xp A + 1) = 47 ∨ x_lk t n (xp A + 1) = -1))) : x_pW t n A = x_pW t n (x_pln t n A) := by
  rw [x_pW_s h, x_pst, if_neg h1, if_neg h2, if_neg h3, if_neg h4]
end K0
/-- groups in order, one item more -/
theorem x_up_s {f : Int32 → Int32} {i v : Int32} : x_up f i v i = v := by unfold x_up; exact if_pos rfl
theorem x_up_n {f : Int32 → Int32} {i j v : Int32} (h : ¬ j = i) : x_up f i v j = f j := by unfold x_up; exact if_neg h
theorem x_wf_cg {kd gp kd' gp' : Int32 → Int32} : ∀ (c : Nat) (i o l : Int32), (∀ k : Nat, k < c → kd' (i + Int32.ofNat k) = kd (i + Int32.ofNat k) ∧ gp' (i + Int32.ofNat k) = gp (i + Int32.ofNat k)) → (x_wf kd' gp' c i o l ↔ x_wf kd gp c i o l) ∧ x_oc kd' c i o l = x_oc kd c i o l := by
  intro c
  induction c with
  | zero => intro i o l _; exact ⟨Iff.rfl, rfl⟩
  | succ c ih =>
    intro i o l H
    have h0 := H 0 (by omega)
    rw [show i + Int32.ofNat 0 = i from Int32.add_zero i] at h0
    have ih' := fun o l => ih (i + 1) o l (fun k hk => by have q := H (k + 1) (by omega); rw [x_io1] at q; exact q)
    rw [x_wf, x_wf, x_oc, x_oc, h0.1, h0.2, (ih' (o + 1) l).1, (ih' o o).1, (ih' o l).1, (ih' (o + 1) l).2, (ih' o o).2, (ih' o l).2]
    exact ⟨Iff.rfl, rfl⟩
theorem x_wf_jn {kd gp : Int32 → Int32} : ∀ (c1 : Nat) (i o l : Int32), x_wf kd gp c1 i o l → x_wf kd gp 1 (i + Int32.ofNat c1) (x_oc kd c1 i o l).1 (x_oc kd c1 i o l).2 → x_wf kd gp (c1 + 1) i o l ∧ x_oc kd (c1 + 1) i o l = x_oc kd 1 (i + Int32.ofNat c1) (x_oc kd c1 i o l).1 (x_oc kd c1 i o l).2 := by
  intro c1
  induction c1 with
  | zero =>
    intro i o l w w2
    rw [show i + Int32.ofNat 0 = i from Int32.add_zero i] at w2 ⊢
    exact ⟨w2, rfl⟩
  | succ c1 ih =>
    intro i o l w w2
    rw [x_io1] at w2 ⊢
    rw [x_wf] at w
    obtain ⟨w0, w1, w3, w4, w5⟩ := w
    by_cases k1 : kd i = 1
    · obtain ⟨g1, w⟩ := w1 k1
      have E : x_oc kd (c1 + 1) i o l = x_oc kd c1 (i + 1) (o + 1) l := if_pos k1
      have E2 : x_oc kd (c1 + 1 + 1) i o l = x_oc kd (c1 + 1) (i + 1) (o + 1) l := if_pos k1
      rw [E] at w2
      obtain ⟨q1, q2⟩ := ih (i + 1) (o + 1) l w w2
      rw [E, E2]
      refine ⟨⟨w0, fun _ => ⟨g1, q1⟩, fun z => ?_, fun z => ?_, fun z => absurd k1 z⟩, q2⟩
      · rw [k1] at z; exact absurd z (by decide)
      · rw [k1] at z; exact absurd z (by decide)
    · by_cases k2 : kd i = 2
      · obtain ⟨g1, lo, w⟩ := w3 k2
        have E : x_oc kd (c1 + 1) i o l = x_oc kd c1 (i + 1) o o := (if_neg k1).trans (if_pos k2)
        have E2 : x_oc kd (c1 + 1 + 1) i o l = x_oc kd (c1 + 1) (i + 1) o o := (if_neg k1).trans (if_pos k2)
        rw [E] at w2
        obtain ⟨q1, q2⟩ := ih (i + 1) o o w w2
        rw [E, E2]
        refine ⟨⟨w0, fun z => absurd z k1, fun _ => ⟨g1, lo, q1⟩, fun z => ?_, fun _ z => absurd k2 z⟩, q2⟩
        rw [k2] at z; exact absurd z (by decide)
      · have E : x_oc kd (c1 + 1) i o l = x_oc kd c1 (i + 1) o l := (if_neg k1).trans (if_neg k2)
        have E2 : x_oc kd (c1 + 1 + 1) i o l = x_oc kd (c1 + 1) (i + 1) o l := (if_neg k1).trans (if_neg k2)
        rw [E] at w2
        rw [E, E2]
        by_cases k3 : kd i = 3
        · obtain ⟨g1, w⟩ := w4 k3
          obtain ⟨q1, q2⟩ := ih (i + 1) o l w w2
          exact ⟨⟨w0, fun z => absurd z k1, fun z => absurd z k2, fun _ => ⟨g1, q1⟩, fun _ _ z => absurd k3 z⟩, q2⟩
        · obtain ⟨q1, q2⟩ := ih (i + 1) o l (w5 k1 k2 k3) w2
          exact ⟨⟨w0, fun z => absurd z k1, fun z => absurd z k2, fun z => absurd z k3, fun _ _ _ => q1⟩, q2⟩
