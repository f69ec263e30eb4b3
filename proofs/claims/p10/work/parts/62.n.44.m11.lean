/-! patterns whose groups are in order, whole and in segments -/
section M11
variable {kd gp : Int32 → Int32}
theorem x_wf_sp : ∀ (c1 c2 : Nat) (i o l : Int32), x_wf kd gp (c1 + c2) i o l → x_wf kd gp c1 i o l ∧ x_wf kd gp c2 (i + Int32.ofNat c1) (x_oc kd c1 i o l).1 (x_oc kd c1 i o l).2 ∧ x_oc kd (c1 + c2) i o l = x_oc kd c2 (i + Int32.ofNat c1) (x_oc kd c1 i o l).1 (x_oc kd c1 i o l).2 := by
  intro c1
  induction c1 with
  | zero =>
    intro c2 i o l w
    rw [Nat.zero_add] at w ⊢
    rw [show i + Int32.ofNat 0 = i from Int32.add_zero i]
    exact ⟨x_wf0 w, w, rfl⟩
  | succ c1 ih =>
    intro c2 i o l w
    rw [show c1 + 1 + c2 = (c1 + c2) + 1 from by omega] at w ⊢
    rw [x_io1]
    have w0 := x_wf0 w
    obtain ⟨-, w1, w2, w3, w4⟩ := w
    by_cases k1 : kd i = 1
    · obtain ⟨g1, w⟩ := w1 k1
      obtain ⟨q1, q2, q3⟩ := ih c2 (i + 1) (o + 1) l w
      rw [x_oc, x_oc, if_pos k1, if_pos k1]
      refine ⟨⟨w0, fun _ => ⟨g1, q1⟩, fun z => ?_, fun z => ?_, fun z => absurd k1 z⟩, q2, q3⟩
      · rw [k1] at z; exact absurd z (by decide)
      · rw [k1] at z; exact absurd z (by decide)
    · by_cases k2 : kd i = 2
      · obtain ⟨g1, lo, w⟩ := w2 k2
        obtain ⟨q1, q2, q3⟩ := ih c2 (i + 1) o o w
        rw [x_oc, x_oc, if_neg k1, if_neg k1, if_pos k2, if_pos k2]
        refine ⟨⟨w0, fun z => absurd z k1, fun _ => ⟨g1, lo, q1⟩, fun z => ?_, fun _ z => absurd k2 z⟩, q2, q3⟩
        rw [k2] at z; exact absurd z (by decide)
      · rw [x_oc, x_oc, if_neg k1, if_neg k1, if_neg k2, if_neg k2]
        by_cases k3 : kd i = 3
        · obtain ⟨g1, w⟩ := w3 k3
          obtain ⟨q1, q2, q3⟩ := ih c2 (i + 1) o l w
          exact ⟨⟨w0, fun z => absurd z k1, fun z => absurd z k2, fun _ => ⟨g1, q1⟩, fun _ _ z => absurd k3 z⟩, q2, q3⟩
        · obtain ⟨q1, q2, q3⟩ := ih c2 (i + 1) o l (w4 k1 k2 k3)
          exact ⟨⟨w0, fun z => absurd z k1, fun z => absurd z k2, fun z => absurd z k3, fun _ _ _ => q1⟩, q2, q3⟩
theorem x_wf_seg {i s t o l : Int32} (a : i ≤ s) (b : s ≤ t) (i0 : 0 ≤ i) (w : x_wf kd gp (x_ct i t) i o l) : x_wf kd gp (x_ct i s) i o l ∧ x_wf kd gp (x_ct s t) s (x_oc kd (x_ct i s) i o l).1 (x_oc kd (x_ct i s) i o l).2 ∧ x_oc kd (x_ct i t) i o l = x_oc kd (x_ct s t) s (x_oc kd (x_ct i s) i o l).1 (x_oc kd (x_ct i s) i o l).2 := by
  rw [x_ct_p a b i0] at w ⊢
  have q := x_wf_sp (x_ct i s) (x_ct s t) i o l w
  rw [x_ct_e a i0] at q
  exact q
theorem x_wf_st {s t o l : Int32} (a : s < t) (s0 : 0 ≤ s) (k : kd s = 0) (w : x_wf kd gp (x_ct s t) s o l) : x_wf kd gp (x_ct (s + 1) t) (s + 1) o l ∧ x_oc kd (x_ct s t) s o l = x_oc kd (x_ct (s + 1) t) (s + 1) o l := by
  rw [x_ct1 a s0] at w ⊢
  have n1 : ¬ kd s = 1 := by rw [k]; decide
  have n2 : ¬ kd s = 2 := by rw [k]; decide
  have n3 : ¬ kd s = 3 := by rw [k]; decide
  refine ⟨w.2.2.2.2 n1 n2 n3, ?_⟩
  rw [x_oc, if_neg n1, if_neg n2]
theorem x_pw_of {fr s1 s2 to g : Int32} (f0 : 0 ≤ fr) (a1 : fr ≤ s1) (a2 : s1 ≤ s2) (a3 : s2 ≤ to) (t1 : to ≤ 1000) (hs : s1 < s2 ∨ s1 = to) (k1 : s1 < to → kd s1 = 0) (k2 : s2 < to → kd s2 = 0) (w : x_wf kd gp (x_ct fr to) fr 0 0) (oc : x_oc kd (x_ct fr to) fr 0 0 = (g, g)) : x_pw kd gp fr s1 s2 to g := by
  have c0 : x_ct (to + 1) to = 0 := x_ct0 (by lia) (by lia) (by lia)
  have ct : x_ct to to = 0 := x_ct0 (Int32.le_refl _) (by lia) (by lia)
  obtain ⟨q1, q2, q3⟩ := x_wf_seg a1 (Int32.le_trans a2 a3) f0 w
  rw [oc] at q3
  by_cases z1 : s1 = to
  · have z2 : s2 = to := by lia
    subst z1
    rw [ct] at q2 q3
    rw [x_oc] at q3
    have e : x_oc kd (x_ct fr s1) fr 0 0 = (g, g) := q3.symm
    rw [e] at q2
    have q2' : 0 ≤ g ∧ g ≤ g ∧ g ≤ 3 := q2
    subst z2
    refine ⟨g, g, g, g, q1, e, ?_, ?_, ?_, ?_⟩
    · rw [c0]; exact q2'
    · rw [c0, x_oc]
    · rw [c0]; exact q2'
    · rw [c0, x_oc]
  · have l1 : s1 < to := by lia
    have l2 : s1 < s2 := hs.resolve_right z1
    obtain ⟨p1, p2⟩ := x_wf_st l1 (by lia) (k1 l1) q2
    rw [p2] at q3
    obtain ⟨r1, r2, r3⟩ := x_wf_seg (x_ss1 l2 (by lia)).1 a3 (x_ss1 l2 (by lia)).2 p1
    rw [r3] at q3
    by_cases z2 : s2 = to
    · subst z2
      rw [ct] at r2 q3
      rw [x_oc] at q3
      refine ⟨_, _, _, _, q1, rfl, r1, rfl, ?_, ?_⟩
      · rw [c0]; exact r2
      · rw [c0, x_oc]; exact q3.symm
    · have l3 : s2 < to := by lia
      obtain ⟨t1', t2'⟩ := x_wf_st l3 (by lia) (k2 l3) r2
      rw [t2'] at q3
      exact ⟨_, _, _, _, q1, rfl, r1, rfl, t1', q3.symm⟩
end M11
