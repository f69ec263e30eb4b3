/-! the reference's run: what it reads of the commands doesn't change -/
section QRUN
variable {h h' : z_H} {v0 : Nat} {hl s q : Int32}
theorem q_PM_run (P : q_PM h v0 q) (q0 : 0 ≤ q) (e : ∀ a j, 0 ≤ j → (v0 + 4 ≤ a ∧ a ≤ v0 + 27) → vA h' a j = vA h a j) : q_PM h' v0 q :=
  q_PM_eq2 P (e _ _ q0 (by omega)) (e _ _ q0 (by omega)) (fun j ja _ => ⟨e _ _ (Int32.le_trans P.1 ja) (by omega), e _ _ (Int32.le_trans P.1 ja) (by omega)⟩)
theorem q_LV_run (V : q_LV h v0 hl) (l0 : 0 ≤ hl) (l1 : hl ≤ 1) (m : vA h (v0 + 19) hl ≤ 40) (c0 : 0 ≤ vA h (v0 + 22) hl) (c1 : vA h (v0 + 22) hl ≤ 299) (e : ∀ a j, 0 ≤ j → (v0 + 4 ≤ a ∧ a ≤ v0 + 27) → vA h' a j = vA h a j) : q_LV h' v0 hl := by
  intro k k0 k1
  rw [e _ _ l0 (by omega)] at k1
  have s0 := q_40k l0 l1 k0 (Int32.le_trans (Int32.le_of_lt k1) m)
  have z := V k k0 k1
  have e22 : vA h' (v0 + 22) hl = vA h (v0 + 22) hl := e _ _ l0 (by omega)
  refine ⟨q_CM_fr z.1 l0 l1 ⟨e _ _ s0 (by omega), e _ _ s0 (by omega), e _ _ s0 (by omega), e _ _ s0 (by omega), e _ _ s0 (by omega), e _ _ s0 (by omega), e _ _ s0 (by omega), e _ _ s0 (by omega), e _ _ s0 (by omega)⟩ (fun q P => ?_) c0 (by rw [e22]; exact Int32.le_refl _) (by rw [e22]; exact c1), fun nm => ?_⟩
  · have q0 : 0 ≤ q := Int32.le_trans (by rcases q_hf l0 l1 with z | z <;> subst z <;> decide) P.2.2.2.1
    exact q_PX_eq P l0 l1 (e _ _ q0 (by omega)) (e _ _ q0 (by omega)) (fun j j0 _ _ => ⟨e _ _ j0 (by omega), e _ _ j0 (by omega)⟩) (by rw [e _ _ l0 (by omega)]; exact Int32.le_refl _) (by rw [e _ _ l0 (by omega)]; exact Int32.le_refl _)
  · rw [e _ _ s0 (by omega)] at nm
    rw [e _ _ s0 (by omega)]
    exact z.2 nm
end QRUN
theorem q_d27 {x : Int32} (a : 2 ≤ x) (b : x ≤ 7) : 1 ≤ x / 2 ∧ x / 2 ≤ 3 := by
  have z : x = 2 ∨ x = 3 ∨ x = 4 ∨ x = 5 ∨ x = 6 ∨ x = 7 := by lia
  rcases z with z | z | z | z | z | z <;> subst z <;> decide
theorem zz_e867aa2235 {a1 : Int32} (h0 : a1 ≤ 60) : a1 < 64 := by simp only [Int32.le_iff_toInt_le, Int32.lt_iff_toInt_lt, ← Int32.toInt_inj, ne_eq] at *; have l0 : (60 : Int32).toInt = 60 := (by decide); have l1 : (64 : Int32).toInt = 64 := (by decide); omega
theorem zz_88232beecb {a1 : Int32} (h0 : 0 ≤ a1) (h1 : a1 ≤ 60) : 0 ≤ a1 + 1 := by simp only [Int32.le_iff_toInt_le, Int32.lt_iff_toInt_lt, ← Int32.toInt_inj, ne_eq] at *; have b0 := Int32.le_toInt a1; have c0 := Int32.toInt_lt a1; have l0 : (0 : Int32).toInt = 0 := (by decide); have l1 : (60 : Int32).toInt = 60 := (by decide); have l2 : (1 : Int32).toInt = 1 := (by decide); have s0 : (a1 + 1).toInt = a1.toInt + 1 := q_tA (by decide) (by omega) (by omega); omega
theorem zz_062b4af88c {a1 a2 : Int32} (h0 : ¬ (a1 ≤ a2)) (h1 : (0 ≤ a1) ∧ (a1 ≤ 60)) (h2 : 0 ≤ a2) (h3 : a2 ≤ 60) : a2 + 1 ≤ 60 := by simp only [Int32.le_iff_toInt_le, Int32.lt_iff_toInt_lt, ← Int32.toInt_inj, ne_eq] at *; have b0 := Int32.le_toInt a2; have c0 := Int32.toInt_lt a2; have l0 : (0 : Int32).toInt = 0 := (by decide); have l1 : (60 : Int32).toInt = 60 := (by decide); have l2 : (1 : Int32).toInt = 1 := (by decide); have s0 : (a2 + 1).toInt = a2.toInt + 1 := q_tA (by decide) (by omega) (by omega); omega
theorem zz_906d4321e3 {a1 a2 a3 : Int32} (h0 : a1 ≤ a2) (h1 : a3 ≤ a1 + 1) (h2 : -100000 ≤ a1) (h3 : a1 ≤ 100000) (h4 : 0 ≤ a2) (h5 : a2 ≤ 60) : a3 ≤ a2 + 1 := by simp only [Int32.le_iff_toInt_le, Int32.lt_iff_toInt_lt, ← Int32.toInt_inj, ne_eq] at *; have b0 := Int32.le_toInt a1; have c0 := Int32.toInt_lt a1; have b1 := Int32.le_toInt a2; have c1 := Int32.toInt_lt a2; have l0 : (1 : Int32).toInt = 1 := (by decide); have l1 : (-100000 : Int32).toInt = -100000 := (by decide); have l2 : (100000 : Int32).toInt = 100000 := (by decide); have l3 : (0 : Int32).toInt = 0 := (by decide); have l4 : (60 : Int32).toInt = 60 := (by decide); have s0 : (a1 + 1).toInt = a1.toInt + 1 := q_tA (by decide) (by omega) (by omega); have s1 : (a2 + 1).toInt = a2.toInt + 1 := q_tA (by decide) (by omega) (by omega); omega
theorem zz_351fa60f14 {a1 a2 a3 : Int32} (h0 : a1 = a2) (h1 : a3 = a1) : a3 = a2 := by simp only [Int32.le_iff_toInt_le, Int32.lt_iff_toInt_lt, ← Int32.toInt_inj, ne_eq] at *; omega
set_option maxHeartbeats 1000000 in
theorem p_Mod_takeSpace_2_n {L : q_L} {W : Nat → Prop} {h0 : z_H} {π : Nat → Nat → Option Nat} {N : Nat} {lo : Nat → Int32} (hqn : q_Q lo 61) : ∀ (n : Nat) (v0 : Nat) (v1 : Int32) (h : z_H), q_U L W h0 π h → q_M L π v0 → (∀ a, v0 ≤ a → a < v0 + 46 → W a) → (0 ≤ v1) → (v1 ≤ 60) → (lo n ≤ v1) → qk (f_Mod_takeSpace_2 N  n v0 v1 h) (fun r => q_U L W h0 π r ∧ (∀ a k, ¬ (a = v0 ∧ (k = 54)) → vI r a k = vI h a k) ∧ (∀ a j, 0 ≤ j → ¬ (a = v0 + 36) → vA r a j = vA h a j) ∧ (vI r v0 54 = vI h v0 65)) := by
  intro n
  induction n with
  | zero => intro v0 v1 h T kv0 wM a0 a1 hms; have hz := hqn.1; exact absurd hms (by grind)
  | succ n ih =>
    intro v0 v1 h T kv0 wM a0 a1 hms
    obtain ⟨hq1, hq2, hq3⟩ := hqn.2 n
    rw [f_Mod_takeSpace_2]
    refine r_Mo_65 T kv0 ?_
    intro x1 ex1 lx1 ux1
    subst ex1
    refine qk_if (fun cc1 => ?_) (fun cc1 => ?_)
    · skip
      refine r_Mo_65 T kv0 ?_
      intro x3 ex3 lx3 ux3
      subst ex3
      refine w_Mo_54 T kv0 (wM _ (by omega) (by omega)) lx3 ux3 ?_
      intro h4 Th4 ih4 ah4
      refine qk_some ?_
      have o2 : vI h4 v0 54 = vI h v0 65 := (by rw [ih4 v0 54, if_pos ⟨rfl, rfl⟩])
      exact ⟨Th4, (by clear ih; show ∀ a k, ¬ (a = v0 ∧ (k = 54)) → vI h4 a k = vI h a k; intro a k n0; rw [ih4, if_neg (by omega)]), (by clear ih; show ∀ a j, 0 ≤ j → ¬ (a = v0 + 36) → vA h4 a j = vA h a j; intro a j j0 n0; rw [ah4]), (zz_6a8095e9b8 o2)⟩
    · skip
      refine r_Mo_51 T kv0 ?_
      refine r_Mo_58 T kv0 ?_
      refine r_Mo_e39 T kv0 a0 (zz_e867aa2235 a1) ?_
      intro x7 ex7
      subst ex7
      refine w_Mo_e36 T kv0 (wM _ (by omega) (by omega)) a0 (zz_e867aa2235 a1) ?_
      intro h8 Th8 ih8 ah8
      refine qk_bs ?_
      have o3 := g_Mo_65 T kv0
      refine qk_mono (ih (v0) ((v1 + 1)) h8 Th8 kv0 wM (zz_88232beecb a0 a1) (zz_062b4af88c cc1 o3 a0 a1) (zz_906d4321e3 hms hq1 hq2 hq3 a0 a1)) ?_
      rintro hz ⟨Tz, g0, g1, g2⟩
      try dsimp only at *
      have o5 : vI h8 v0 65 = vI h v0 65 := (by rw [ih8 v0 65])
      exact ⟨Tz, (by clear ih; show ∀ a k, ¬ (a = v0 ∧ (k = 54)) → vI hz a k = vI h a k; intro a k n0; rw [g0 a k (by omega), ih8]), (by clear ih; show ∀ a j, 0 ≤ j → ¬ (a = v0 + 36) → vA hz a j = vA h a j; intro a j j0 n0; rw [g1 a j j0 (by omega), ah8 a j j0, if_neg (by omega)]), (zz_351fa60f14 o5 g2)⟩
theorem p_Mod_takeSpace_2 {L : q_L} {W : Nat → Prop} {h0 : z_H} {π : Nat → Nat → Option Nat} {N : Nat} {h : z_H} {v0 : Nat} {v1 : Int32} (T : q_U L W h0 π h) (kv0 : q_M L π v0) (wM : ∀ a, v0 ≤ a → a < v0 + 46 → W a) (a0 : 0 ≤ v1) (a1 : v1 ≤ 60) (hN : 100000 ≤ N) : qk (f_Mod_takeSpace_2 N  N v0 v1 h) (fun r => q_U L W h0 π r ∧ (∀ a k, ¬ (a = v0 ∧ (k = 54)) → vI r a k = vI h a k) ∧ (∀ a j, 0 ≤ j → ¬ (a = v0 + 36) → vA r a j = vA h a j) ∧ (vI r v0 54 = vI h v0 65)) := by
  have hq := q_qnN hN
  refine p_Mod_takeSpace_2_n (q_lo (M := 61) (by decide) (by decide)) N v0 v1 h T kv0 wM a0 a1 ?_ 
  show 61 - q_n N ≤ _
  rw [hq]
  lia
