/-! what a walk of the reference has of its groups, before item i at place p -/
def q_SM (kd gr gf gl : Int32 → Int32) (f i p : Int32) : Prop :=
  (∀ j, f ≤ j → j < i → (kd j = 4 → 0 ≤ gf (gr j) ∧ gf (gr j) ≤ p) ∧ (kd j = 5 → 0 ≤ gf (gr j) ∧ gf (gr j) ≤ p ∧ 0 ≤ gl (gr j) ∧ gf (gr j) + gl (gr j) ≤ p)) ∧
  (∀ g, 1 ≤ g → g ≤ 3 → gl g = -1 ∨ ∃ j, f ≤ j ∧ j < i ∧ kd j = 5 ∧ gr j = g)
/-- groups that may be copied -/
def q_GS (h : z_H) (v0 : Nat) : Prop := ∀ g, 1 ≤ g → g ≤ 3 → vA h (v0 + 38) g ≤ 0 ∨ (0 ≤ vA h (v0 + 37) g ∧ vA h (v0 + 37) g + vA h (v0 + 38) g ≤ vI h v0 54)
section QSM
variable {kd gr kd' gr' gf gl gf' gl' : Int32 → Int32} {f i t p p' : Int32}
theorem q_SM_nil (e : i = f) (z : ∀ g, 1 ≤ g → g ≤ 3 → gl g = -1) : q_SM kd gr gf gl f i p := by
  subst e
  exact ⟨fun j a b => absurd b (Int32.not_lt.mpr a), fun g a b => Or.inl (z g a b)⟩
theorem q_SM_kd (S : q_SM kd gr gf gl f i p) (f0 : 0 ≤ f) (ek : ∀ j, 0 ≤ j → kd' j = kd j) (eg : ∀ j, 0 ≤ j → gr' j = gr j) : q_SM kd' gr' gf gl f i p := by
  refine ⟨fun j a b => ?_, fun g a b => ?_⟩
  · have j0 := Int32.le_trans f0 a
    rw [ek j j0, eg j j0]; exact S.1 j a b
  · rcases S.2 g a b with z | ⟨j, c1, c2, c3, c4⟩
    · exact Or.inl z
    · have j0 := Int32.le_trans f0 c1
      exact Or.inr ⟨j, c1, c2, (ek j j0).trans c3, (eg j j0).trans c4⟩
theorem q_SM_g (S : q_SM kd gr gf gl f i p) (V : q_VM kd gr f t) (it : i ≤ t) (e1 : ∀ j, 0 ≤ j → gf' j = gf j) (e2 : ∀ j, 0 ≤ j → gl' j = gl j) : q_SM kd gr gf' gl' f i p := by
  refine ⟨fun j a b => ?_, fun g a b => ?_⟩
  · obtain ⟨s1, s2⟩ := S.1 j a b
    have v := (V j a (Int32.lt_of_lt_of_le b it)).1
    refine ⟨fun e => ?_, fun e => ?_⟩
    · rw [e1 _ (Int32.le_trans (by decide) (v (by rw [e]; decide)).1)]; exact s1 e
    · have g0 : 0 ≤ gr j := Int32.le_trans (by decide) (v (by rw [e]; decide)).1
      rw [e1 _ g0, e2 _ g0]; exact s2 e
  · rw [e2 _ (Int32.le_trans (by decide) a)]; exact S.2 g a b
theorem q_SM_mono (S : q_SM kd gr gf gl f i p) (h : p ≤ p') : q_SM kd gr gf gl f i p' := by
  refine ⟨fun j a b => ?_, S.2⟩
  obtain ⟨s1, s2⟩ := S.1 j a b
  exact ⟨fun e => ⟨(s1 e).1, Int32.le_trans (s1 e).2 h⟩, fun e => ⟨(s2 e).1, Int32.le_trans (s2 e).2.1 h, (s2 e).2.2.1, Int32.le_trans (s2 e).2.2.2 h⟩⟩
theorem q_lj1 {j i : Int32} (i0 : 0 ≤ i) (i1 : i ≤ 520) (b : j < i + 1) (q : ¬ j = i) : j < i := by lia
theorem q_lj2 {j i : Int32} (i0 : 0 ≤ i) (i1 : i ≤ 520) (b : j < i) : j < i + 1 := by lia
theorem q_SM_one (S : q_SM kd gr gf gl f i p) (i0 : 0 ≤ i) (i1 : i ≤ 520) (h4 : ¬ kd i = 4) (h5 : ¬ kd i = 5) : q_SM kd gr gf gl f (i + 1) p := by
  refine ⟨fun j a b => ?_, fun g a b => ?_⟩
  · by_cases q : j = i
    · subst q; exact ⟨fun e => absurd e h4, fun e => absurd e h5⟩
    · exact S.1 j a (q_lj1 i0 i1 b q)
  · rcases S.2 g a b with z | ⟨j, c1, c2, c3, c4⟩
    · exact Or.inl z
    · exact Or.inr ⟨j, c1, q_lj2 i0 i1 c2, c3, c4⟩
theorem q_SM_open (S : q_SM kd gr gf gl f i p) (V : q_VM kd gr f t) (f0 : 0 ≤ f) (fi : f ≤ i) (it : i < t) (ti : t ≤ 520) (p0 : 0 ≤ p) (k4 : kd i = 4) (e1 : ∀ j, 0 ≤ j → gf' j = if j = gr i then p else gf j) (e2 : ∀ j, 0 ≤ j → gl' j = gl j) : q_SM kd gr gf' gl' f (i + 1) p := by
  have i0 := Int32.le_trans f0 fi
  have i1 := Int32.le_trans (Int32.le_of_lt it) ti
  refine ⟨fun j a b => ?_, fun g a b => ?_⟩
  · by_cases q : j = i
    · subst q
      have v := (V j a it).1
      refine ⟨fun e => ?_, fun e => absurd (k4.symm.trans e) (by decide)⟩
      rw [e1 _ (Int32.le_trans (by decide) (v (by rw [e]; decide)).1), if_pos rfl]
      exact ⟨p0, Int32.le_refl _⟩
    · have jl := q_lj1 i0 i1 b q
      have v := (V j a (Int32.lt_trans jl it)).1
      obtain ⟨s1, s2⟩ := S.1 j a jl
      refine ⟨fun e => ?_, fun e => ?_⟩
      · rw [e1 _ (Int32.le_trans (by decide) (v (by rw [e]; decide)).1)]
        split
        · exact ⟨p0, Int32.le_refl _⟩
        · exact s1 e
      · have g0 : 0 ≤ gr j := Int32.le_trans (by decide) (v (by rw [e]; decide)).1
        rw [e1 _ g0, e2 _ g0, if_neg ((V i fi it).2.2.2 k4 j a jl e)]
        exact s2 e
  · rw [e2 _ (Int32.le_trans (by decide) a)]
    rcases S.2 g a b with z | ⟨j, c1, c2, c3, c4⟩
    · exact Or.inl z
    · exact Or.inr ⟨j, c1, q_lj2 i0 i1 c2, c3, c4⟩
theorem q_SM_end (S : q_SM kd gr gf gl f i p) (V : q_VM kd gr f t) (f0 : 0 ≤ f) (fi : f ≤ i) (it : i < t) (ti : t ≤ 520) (p6 : p ≤ 600) (k5 : kd i = 5) (e1 : ∀ j, 0 ≤ j → gl' j = if j = gr i then p - gf (gr i) else gl j) (e2 : ∀ j, 0 ≤ j → gf' j = gf j) : q_SM kd gr gf' gl' f (i + 1) p := by
  have i0 := Int32.le_trans f0 fi
  have i1 := Int32.le_trans (Int32.le_of_lt it) ti
  have o : 0 ≤ gf (gr i) ∧ gf (gr i) ≤ p := by
    obtain ⟨j, c1, c2, c3, c4⟩ := (V i fi it).2.1 k5
    have s := (S.1 j c1 c2).1 c3
    rwa [c4] at s
  have o3 : 0 ≤ p - gf (gr i) ∧ gf (gr i) + (p - gf (gr i)) ≤ p := by
    obtain ⟨o1, o2⟩ := o
    constructor <;> lia
  refine ⟨fun j a b => ?_, fun g a b => ?_⟩
  · by_cases q : j = i
    · subst q
      have v := (V j a it).1
      refine ⟨fun e => absurd (k5.symm.trans e) (by decide), fun e => ?_⟩
      have g0 : 0 ≤ gr j := Int32.le_trans (by decide) (v (by rw [e]; decide)).1
      rw [e1 _ g0, e2 _ g0, if_pos rfl]
      exact ⟨o.1, o.2, o3.1, o3.2⟩
    · have jl := q_lj1 i0 i1 b q
      have v := (V j a (Int32.lt_trans jl it)).1
      obtain ⟨s1, s2⟩ := S.1 j a jl
      refine ⟨fun e => ?_, fun e => ?_⟩
      · rw [e2 _ (Int32.le_trans (by decide) (v (by rw [e]; decide)).1)]; exact s1 e
      · have g0 : 0 ≤ gr j := Int32.le_trans (by decide) (v (by rw [e]; decide)).1
        rw [e1 _ g0, e2 _ g0]
        split
        · next z => rw [z]; exact ⟨o.1, o.2, o3.1, o3.2⟩
        · exact s2 e
  · by_cases q : g = gr i
    · exact Or.inr ⟨i, fi, by lia, k5, q.symm⟩
    · rw [e1 _ (Int32.le_trans (by decide) a), if_neg q]
      rcases S.2 g a b with z | ⟨j, c1, c2, c3, c4⟩
      · exact Or.inl z
      · exact Or.inr ⟨j, c1, q_lj2 i0 i1 c2, c3, c4⟩
theorem q_SM_back (S : q_SM kd gr gf gl f i p) (V : q_VM kd gr f t) (fi : f ≤ i) (it : i < t) (k3 : kd i = 3) : 0 ≤ gf (gr i) ∧ gf (gr i) ≤ p ∧ 0 ≤ gl (gr i) ∧ gf (gr i) + gl (gr i) ≤ p := by
  obtain ⟨j, c1, c2, c3, c4⟩ := (V i fi it).2.2.1 k3
  have s := (S.1 j c1 c2).2 c3
  rwa [c4] at s
end QSM
theorem q_GS_of {h : z_H} {v0 : Nat} {f i p : Int32} (S : q_SM (vA h (v0 + 26)) (vA h (v0 + 27)) (vA h (v0 + 37)) (vA h (v0 + 38)) f i p) (p1 : p ≤ vI h v0 54) : q_GS h v0 := by
  intro g a b
  rcases S.2 g a b with z | ⟨j, c1, c2, c3, c4⟩
  · left; rw [z]; decide
  · right
    have s := (S.1 j c1 c2).2 c3
    rw [c4] at s
    exact ⟨s.1, Int32.le_trans s.2.2.2 p1⟩
theorem q_GS_eq {h h' : z_H} {v0 : Nat} (G : q_GS h v0) (e1 : ∀ j, 0 ≤ j → vA h' (v0 + 37) j = vA h (v0 + 37) j) (e2 : ∀ j, 0 ≤ j → vA h' (v0 + 38) j = vA h (v0 + 38) j) (e3 : vI h' v0 54 = vI h v0 54) : q_GS h' v0 := by
  intro g a b
  have g0 := Int32.le_trans (show (0 : Int32) ≤ 1 by decide) a
  rw [e1 g g0, e2 g g0, e3]; exact G g a b
theorem zz_ee5abc318c  : ((1 : Int32) = 0) ∨ ((1 : Int32) = 1) := by lia
theorem zz_aae670e278  : ((0 : Int32) = 0) ∨ ((0 : Int32) = 1) := by lia
set_option maxHeartbeats 1000000 in
theorem p_Mod_fits {L : q_L} {W : Nat → Prop} {h0 : z_H} {π : Nat → Nat → Option Nat} {N : Nat} {h : z_H} {v0 : Nat} {v1 : Int32} {v2 : Int32} (T : q_U L W h0 π h) (kv0 : q_M L π v0) (b0 : 0 ≤ v1) (b1 : v1 < 520) : qk (f_Mod_fits N v0 v1 v2 h) (fun r => r.2 = h ∧ (r.1 = 0 ∨ r.1 = 1)) := by
  unfold f_Mod_fits
  refine r_Mo_31 T kv0 ?_
  refine r_Mo_e26 T kv0 b0 b1 ?_
  intro x2 ex2 lx2 ux2
  subst ex2
  refine qk_if (fun cc1 => ?_) (fun cc1 => ?_)
  · skip
    refine qk_some ?_
    exact ⟨rfl, (zz_ee5abc318c)⟩
  · skip
    refine r_Mo_31 T kv0 ?_
    refine r_Mo_e26 T kv0 b0 b1 ?_
    intro x5 ex5 lx5 ux5
    subst ex5
    refine qk_if (fun cc2 => ?_) (fun cc2 => ?_)
    · skip
      refine r_Mo_32 T kv0 ?_
      refine r_Mo_e27 T kv0 b0 b1 ?_
      intro x13 ex13
      subst ex13
      refine qk_if (fun cc3 => ?_) (fun cc3 => ?_)
      · skip
        refine qk_some ?_
        exact ⟨rfl, (zz_ee5abc318c)⟩
      · skip
        refine qk_some ?_
        exact ⟨rfl, (zz_aae670e278)⟩
    · skip
      refine qk_if (fun cc4 => ?_) (fun cc4 => ?_)
      · skip
        refine r_Mo_38 T kv0 ?_
        refine r_Mo_e33 T kv0 b0 b1 ?_
        intro x9
        unfold f_Mod_fits_65
        refine qk_if (fun cc6 => ?_) (fun cc6 => ?_)
        · skip
          refine qk_some ?_
          exact ⟨rfl, (zz_ee5abc318c)⟩
        · skip
          refine qk_some ?_
          exact ⟨rfl, (zz_aae670e278)⟩
      · skip
        refine r_Mo_37 T kv0 ?_
        refine r_Mo_e32 T kv0 b0 b1 ?_
        intro x11
        unfold f_Mod_fits_65
        refine qk_if (fun cc8 => ?_) (fun cc8 => ?_)
        · skip
          refine qk_some ?_
          exact ⟨rfl, (zz_ee5abc318c)⟩
        · skip
          refine qk_some ?_
          exact ⟨rfl, (zz_aae670e278)⟩
theorem c_Mod_fits {L : q_L} {W : Nat → Prop} {h0 : z_H} {π : Nat → Nat → Option Nat} {N : Nat} {h : z_H} {v0 : Nat} {v1 : Int32} {v2 : Int32} {β : Type} {f : Int32 × z_H → Option β} {Q : β → Prop} (T : q_U L W h0 π h) (kv0 : q_M L π v0) (b0 : 0 ≤ v1) (b1 : v1 < 520) (H : ∀ y, (y = 0 ∨ y = 1) → qk (f (y, h)) Q) : qk (z_b (f_Mod_fits N v0 v1 v2 h) f) Q := by
  refine qk_b (p_Mod_fits T kv0 b0 b1) ?_
  rintro ⟨y, hz⟩ ⟨hy, g0⟩
  try dsimp only at *
  subst hy
  exact H y g0
