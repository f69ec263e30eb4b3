def q_s2 (v0 : Nat) (o o' : Option (Int32 × z_H)) : Prop := ∀ y h1, o = some (y, h1) → ∃ h1', o' = some (y, h1') ∧ q_re v0 h1 h1'
theorem q_s2_some {v0 : Nat} {y : Int32} {h h' : z_H} (r : q_re v0 h h') : q_s2 v0 (some (y, h)) (some (y, h')) := by
  intro y1 h1 e
  cases e
  exact ⟨h', rfl, r⟩
theorem q_s2_none {v0 : Nat} {o : Option (Int32 × z_H)} : q_s2 v0 none o := by
  intro y h1 e
  cases e
theorem q_s2_if {v0 : Nat} {c : Prop} [Decidable c] {a b a' b' : Option (Int32 × z_H)} (h1 : q_s2 v0 a a') (h2 : q_s2 v0 b b') : q_s2 v0 (if c then a else b) (if c then a' else b') := by
  split
  · exact h1
  · exact h2
theorem q_s2_r {α : Type} {v0 : Nat} {o o' : Option α} {f f' : α → Option (Int32 × z_H)} (e : ∀ x, o = some x → o' = some x) (H : ∀ x, q_s2 v0 (f x) (f' x)) : q_s2 v0 (z_b o f) (z_b o' f') := by
  intro y h1 z
  obtain ⟨x, z1, z2⟩ := z_bs z
  rw [e x z1]
  exact H x y h1 z2
theorem q_s2_c {v0 : Nat} {o o' : Option (Int32 × z_H)} {f f' : Int32 × z_H → Option (Int32 × z_H)} (e : q_s2 v0 o o') (H : ∀ y h h', q_re v0 h h' → q_s2 v0 (f (y, h)) (f' (y, h'))) : q_s2 v0 (z_b o f) (z_b o' f') := by
  intro y h1 z
  obtain ⟨x, z1, z2⟩ := z_bs z
  obtain ⟨h1', e1, e2⟩ := e x.1 x.2 z1
  rw [e1]
  exact H x.1 x.2 h1' e2 y h1 z2
theorem q_s2_w {v0 : Nat} {o o' : Option z_H} {f f' : z_H → Option (Int32 × z_H)} (e : ∀ h1, o = some h1 → ∃ h1', o' = some h1' ∧ q_re v0 h1 h1') (H : ∀ h h', q_re v0 h h' → q_s2 v0 (f h) (f' h')) : q_s2 v0 (z_b o f) (z_b o' f') := by
  intro y h1 z
  obtain ⟨x, z1, z2⟩ := z_bs z
  obtain ⟨h1', e1, e2⟩ := e x z1
  rw [e1]
  exact H x h1' e2 y h1 z2
theorem q_re_gF {v0 : Nat} {h h' : z_H} (r : q_re v0 h h') {a ci k : Nat} (hk : k ≠ 56) : gF h' a ci k = gF h a ci k := by
  obtain ⟨fs, v, e1, e2⟩ := r
  subst e2
  unfold gF z_up
  by_cases q : a = v0
  · subst q
    have hk' : 56 ≠ k := fun z => hk z.symm
    simp [e1, hk']
  · simp [q]
theorem q_re_gI {v0 : Nat} {h h' : z_H} (r : q_re v0 h h') {a ci k : Nat} (hk : k ≠ 56) : ∀ x, gI h a ci k = some x → gI h' a ci k = some x := by
  intro x e
  unfold gI
  rw [q_re_gF r hk]
  exact e
theorem q_re_gR {v0 : Nat} {h h' : z_H} (r : q_re v0 h h') {a ci k : Nat} (hk : k ≠ 56) : ∀ x, gR h a ci k = some x → gR h' a ci k = some x := by
  intro x e
  unfold gR
  rw [q_re_gF r hk]
  exact e
theorem q_re_gO {v0 : Nat} {h h' : z_H} (r : q_re v0 h h') {a ci : Nat} : ∀ x, gO h a ci = some x → gO h' a ci = some x := by
  obtain ⟨fs, v, e1, e2⟩ := r
  subst e2
  intro x e
  unfold gO at *
  unfold z_up
  by_cases q : a = v0
  · subst q
    rw [e1] at e
    simpa using e
  · simpa [q] using e
theorem q_re_arr {v0 : Nat} {h h' : z_H} (r : q_re v0 h h') {a : Nat} {z : Nat × vp_A} (e : h a = some (.inl z)) : h' a = some (.inl z) := by
  obtain ⟨fs, v, e1, e2⟩ := r
  subst e2
  have q : a ≠ v0 := fun q => by subst q; rw [e1] at e; cases e
  unfold z_up
  rw [if_neg q]; exact e
theorem q_re_aI {v0 : Nat} {h h' : z_H} (r : q_re v0 h h') {a t : Nat} {i : Int32} : ∀ x, aI h a t i = some x → aI h' a t i = some x := by
  intro x e
  unfold aI at *
  split at e
  · next t' n f he =>
    rw [q_re_arr r he]; exact e
  · cases e
theorem q_re_aL {v0 : Nat} {h h' : z_H} (r : q_re v0 h h') {a : Nat} {i : Int32} : ∀ x, aL h a i = some x → aL h' a i = some x := by
  intro x e
  unfold aL at *
  split at e
  · next t' n f he =>
    rw [q_re_arr r he]; exact e
  · cases e
theorem q_re_uI {v0 : Nat} {h h' : z_H} (r : q_re v0 h h') {a t : Nat} {i x : Int32} : ∀ h1, uI h a t i x = some h1 → ∃ h1', uI h' a t i x = some h1' ∧ q_re v0 h1 h1' := by
  intro h1 e
  unfold uI at e
  split at e
  · next t' n f he =>
    split at e
    · next c =>
      cases e
      refine ⟨z_up h' a (.inl (t, n, .inl (upd f i.toNatClampNeg x))), ?_, ?_⟩
      · unfold uI
        rw [q_re_arr r he]
        exact if_pos c
      · obtain ⟨fs, v, e1, e2⟩ := r
        have q : v0 ≠ a := fun q => by subst q; rw [e1] at he; cases he
        refine ⟨fs, v, by unfold z_up; rw [if_neg q]; exact e1, ?_⟩
        subst e2
        funext z
        unfold z_up
        by_cases c1 : z = v0
        · subst c1; simp [q]
        · simp [c1]
    · cases e
  · cases e
theorem q_re_sF {v0 : Nat} {h h' : z_H} (r : q_re v0 h h') {a ci k : Nat} {w : Value} (hk : k ≠ 56) : ∀ h1, sF h a ci k w = some h1 → ∃ h1', sF h' a ci k w = some h1' ∧ q_re v0 h1 h1' := by
  obtain ⟨fs, v, e1, e2⟩ := r
  subst e2
  intro h1 e
  by_cases q : a = v0
  · subst q
    unfold sF at e
    rw [e1] at e
    dsimp only at e
    split at e
    · next c =>
      cases e
      refine ⟨z_up (z_up h a (.inr (12, fs.set 56 (.int v)))) a (.inr (ci, (fs.set 56 (.int v)).set k w)), ?_, ?_⟩
      · unfold sF
        rw [show z_up h a (.inr (12, fs.set 56 (.int v))) a = some (.inr (12, fs.set 56 (.int v))) from if_pos rfl]
        exact if_pos ⟨c.1, by rw [List.length_set]; exact c.2⟩
      · have c1 : (12 : Nat) = ci := c.1
        subst c1
        refine ⟨fs.set k w, v, if_pos rfl, ?_⟩
        rw [List.set_comm _ _ (fun z => hk z.symm)]
        funext z
        unfold z_up
        by_cases c2 : z = a
        · simp [c2]
        · simp [c2]
    · cases e
  · unfold sF at e
    split at e
    · next o ho =>
      split at e
      · next c =>
        cases e
        refine ⟨z_up (z_up h v0 (.inr (12, fs.set 56 (.int v)))) a (.inr (ci, o.2.set k w)), ?_, ?_⟩
        · unfold sF
          rw [show z_up h v0 (.inr (12, fs.set 56 (.int v))) a = some (.inr o) from by unfold z_up; rw [if_neg q]; exact ho]
          exact if_pos c
        · have q' : v0 ≠ a := fun z => q z.symm
          refine ⟨fs, v, by unfold z_up; rw [if_neg q']; exact e1, ?_⟩
          funext z
          unfold z_up
          by_cases c2 : z = v0
          · subst c2; simp [q']
          · simp [c2]
      · cases e
    · cases e
theorem s2_Mod_fits {w : Nat} {N : Nat} (v0 : Nat) (v1 : Int32) (v2 : Int32) {h h' : z_H} (r : q_re w h h') : q_s2 w (f_Mod_fits N v0 v1 v2 h) (f_Mod_fits N v0 v1 v2 h') := by
  unfold f_Mod_fits
  refine q_s2_r (q_re_gR r (by decide)) (fun x1 => ?_)
  refine q_s2_r (q_re_aI r) (fun x2 => ?_)
  refine q_s2_if ?_ ?_
  · skip
    exact q_s2_some r
  · skip
    refine q_s2_r (q_re_gR r (by decide)) (fun x4 => ?_)
    refine q_s2_r (q_re_aI r) (fun x5 => ?_)
    refine q_s2_if ?_ ?_
    · skip
      refine q_s2_r (q_re_gR r (by decide)) (fun x12 => ?_)
      refine q_s2_r (q_re_aI r) (fun x13 => ?_)
      refine q_s2_if ?_ ?_
      · skip
        exact q_s2_some r
      · skip
        exact q_s2_some r
    · skip
      refine q_s2_if ?_ ?_
      · skip
        refine q_s2_r (q_re_gR r (by decide)) (fun x8 => ?_)
        refine q_s2_r (q_re_aL r) (fun x9 => ?_)
        unfold f_Mod_fits_65
        refine q_s2_if ?_ ?_
        · skip
          exact q_s2_some r
        · skip
          exact q_s2_some r
      · skip
        refine q_s2_r (q_re_gR r (by decide)) (fun x10 => ?_)
        refine q_s2_r (q_re_aL r) (fun x11 => ?_)
        unfold f_Mod_fits_65
        refine q_s2_if ?_ ?_
        · skip
          exact q_s2_some r
        · skip
          exact q_s2_some r
theorem s2_Mod_way_162_n {w : Nat} {N : Nat} {k80 k80' : Nat → Int32 → Int32 → Int32 → Int32 → Int32 → Int32 → z_H → Option (Int32 × z_H)} : ∀ (n : Nat) (v0 : Nat) (v1 : Int32) (v3 : Int32) (v4 : Int32) (v5 : Int32) (v6 : Int32) (v7 : Int32) (v9 : Int32) (v10 : Int32) {h h' : z_H}, q_re w h h' → (∀ (a0 : Nat) (a1 : Int32) (a2 : Int32) (a3 : Int32) (a4 : Int32) (a5 : Int32) (a6 : Int32) {h h' : z_H}, q_re w h h' → q_s2 w (k80 a0 a1 a2 a3 a4 a5 a6 h) (k80' a0 a1 a2 a3 a4 a5 a6 h')) → q_s2 w (f_Mod_way_162 N k80 n v0 v1 v3 v4 v5 v6 v7 v9 v10 h) (f_Mod_way_162 N k80' n v0 v1 v3 v4 v5 v6 v7 v9 v10 h') := by
  intro n
  induction n with
  | zero => intro v0 v1 v3 v4 v5 v6 v7 v9 v10 h h' r Hk80; exact q_s2_none
  | succ n ih =>
    intro v0 v1 v3 v4 v5 v6 v7 v9 v10 h h' r Hk80
    rw [f_Mod_way_162, f_Mod_way_162]
    refine q_s2_r (q_re_gR r (by decide)) (fun x1 => ?_)
    refine q_s2_r (q_re_aI r) (fun x2 => ?_)
    refine q_s2_if ?_ ?_
    · skip
      refine q_s2_r (q_re_gR r (by decide)) (fun x4 => ?_)
      refine q_s2_r (q_re_aI r) (fun x5 => ?_)
      refine q_s2_r (fun _ z => z) (fun x6 => ?_)
      refine q_s2_r (fun _ z => z) (fun x7 => ?_)
      exact Hk80 _ _ _ _ _ _ _ r
    · skip
      refine q_s2_r (q_re_gI r (by decide)) (fun x8 => ?_)
      refine q_s2_if ?_ ?_
      · skip
        exact q_s2_some r
      · skip
        refine q_s2_r (q_re_gR r (by decide)) (fun x10 => ?_)
        refine q_s2_r (q_re_aI r) (fun x11 => ?_)
        refine q_s2_r (q_re_gR r (by decide)) (fun x12 => ?_)
        refine q_s2_r (q_re_gR r (by decide)) (fun x13 => ?_)
        refine q_s2_r (q_re_aI r) (fun x14 => ?_)
        refine q_s2_r (q_re_aI r) (fun x15 => ?_)
        refine q_s2_if ?_ ?_
        · skip
          refine q_s2_r (fun _ z => z) (fun x17 => ?_)
          exact ih _ _ _ _ _ _ _ _ _ r Hk80
        · skip
          exact q_s2_some r
theorem s2_Mod_way_162 {w : Nat} {N : Nat} {k80 k80' : Nat → Int32 → Int32 → Int32 → Int32 → Int32 → Int32 → z_H → Option (Int32 × z_H)} (v0 : Nat) (v1 : Int32) (v3 : Int32) (v4 : Int32) (v5 : Int32) (v6 : Int32) (v7 : Int32) (v9 : Int32) (v10 : Int32) {h h' : z_H} (r : q_re w h h') (Hk80 : (∀ (a0 : Nat) (a1 : Int32) (a2 : Int32) (a3 : Int32) (a4 : Int32) (a5 : Int32) (a6 : Int32) {h h' : z_H}, q_re w h h' → q_s2 w (k80 a0 a1 a2 a3 a4 a5 a6 h) (k80' a0 a1 a2 a3 a4 a5 a6 h'))) : q_s2 w (f_Mod_way_162 N k80 N v0 v1 v3 v4 v5 v6 v7 v9 v10 h) (f_Mod_way_162 N k80' N v0 v1 v3 v4 v5 v6 v7 v9 v10 h') := s2_Mod_way_162_n N v0 v1 v3 v4 v5 v6 v7 v9 v10 r Hk80
theorem s2_Mod_way_269_n {w : Nat} {N : Nat} {k80 k80' : Nat → Int32 → Int32 → Int32 → Int32 → Int32 → Int32 → z_H → Option (Int32 × z_H)} : ∀ (n : Nat) (v0 : Nat) (v1 : Int32) (v3 : Int32) (v4 : Int32) (v5 : Int32) (v6 : Int32) (v7 : Int32) (v10 : Int32) (v11 : Int32) {h h' : z_H}, q_re w h h' → (∀ (a0 : Nat) (a1 : Int32) (a2 : Int32) (a3 : Int32) (a4 : Int32) (a5 : Int32) (a6 : Int32) {h h' : z_H}, q_re w h h' → q_s2 w (k80 a0 a1 a2 a3 a4 a5 a6 h) (k80' a0 a1 a2 a3 a4 a5 a6 h')) → q_s2 w (f_Mod_way_269 N k80 n v0 v1 v3 v4 v5 v6 v7 v10 v11 h) (f_Mod_way_269 N k80' n v0 v1 v3 v4 v5 v6 v7 v10 v11 h') := by
  intro n
  induction n with
  | zero => intro v0 v1 v3 v4 v5 v6 v7 v10 v11 h h' r Hk80; exact q_s2_none
  | succ n ih =>
    intro v0 v1 v3 v4 v5 v6 v7 v10 v11 h h' r Hk80
    rw [f_Mod_way_269, f_Mod_way_269]
    refine q_s2_if ?_ ?_
    · skip
      refine q_s2_r (fun _ z => z) (fun x2 => ?_)
      exact Hk80 _ _ _ _ _ _ _ r
    · skip
      refine q_s2_r (q_re_gI r (by decide)) (fun x3 => ?_)
      refine q_s2_if ?_ ?_
      · skip
        unfold f_Mod_way_306
        refine q_s2_if ?_ ?_
        · skip
          refine q_s2_r (q_re_gR r (by decide)) (fun x4i0 => ?_)
          refine q_s2_r (q_re_aI r) (fun x5i0 => ?_)
          refine q_s2_if ?_ ?_
          · skip
            exact q_s2_some r
          · skip
            refine q_s2_w (q_re_sF r (by decide)) (fun h7i0 h7i0_ Rh7i0 => ?_)
            exact q_s2_some Rh7i0
        · skip
          refine q_s2_r (fun _ z => z) (fun x2i0 => ?_)
          refine q_s2_r (fun _ z => z) (fun x3i0 => ?_)
          exact ih _ _ _ _ _ _ _ _ _ r Hk80
      · skip
        refine q_s2_r (q_re_gR r (by decide)) (fun x5 => ?_)
        refine q_s2_r (q_re_aI r) (fun x6 => ?_)
        refine q_s2_r (q_re_gO r) (fun u7 => ?_)
        refine q_s2_c (s2_Mod_fits _ _ _ r) (fun yr8 hr8 hr8_ Rr8 => ?_)
        try dsimp only
        refine q_s2_if ?_ ?_
        · skip
          unfold f_Mod_way_306
          refine q_s2_if ?_ ?_
          · skip
            refine q_s2_r (q_re_gR Rr8 (by decide)) (fun x4i1 => ?_)
            refine q_s2_r (q_re_aI Rr8) (fun x5i1 => ?_)
            refine q_s2_if ?_ ?_
            · skip
              exact q_s2_some Rr8
            · skip
              refine q_s2_w (q_re_sF Rr8 (by decide)) (fun h7i1 h7i1_ Rh7i1 => ?_)
              exact q_s2_some Rh7i1
          · skip
            refine q_s2_r (fun _ z => z) (fun x2i1 => ?_)
            refine q_s2_r (fun _ z => z) (fun x3i1 => ?_)
            exact ih _ _ _ _ _ _ _ _ _ Rr8 Hk80
        · skip
          unfold f_Mod_way_306
          refine q_s2_if ?_ ?_
          · skip
            refine q_s2_r (q_re_gR Rr8 (by decide)) (fun x4i2 => ?_)
            refine q_s2_r (q_re_aI Rr8) (fun x5i2 => ?_)
            refine q_s2_if ?_ ?_
            · skip
              exact q_s2_some Rr8
            · skip
              refine q_s2_w (q_re_sF Rr8 (by decide)) (fun h7i2 h7i2_ Rh7i2 => ?_)
              exact q_s2_some Rh7i2
          · skip
            refine q_s2_r (fun _ z => z) (fun x2i2 => ?_)
            refine q_s2_r (fun _ z => z) (fun x3i2 => ?_)
            exact ih _ _ _ _ _ _ _ _ _ Rr8 Hk80
theorem s2_Mod_way_269 {w : Nat} {N : Nat} {k80 k80' : Nat → Int32 → Int32 → Int32 → Int32 → Int32 → Int32 → z_H → Option (Int32 × z_H)} (v0 : Nat) (v1 : Int32) (v3 : Int32) (v4 : Int32) (v5 : Int32) (v6 : Int32) (v7 : Int32) (v10 : Int32) (v11 : Int32) {h h' : z_H} (r : q_re w h h') (Hk80 : (∀ (a0 : Nat) (a1 : Int32) (a2 : Int32) (a3 : Int32) (a4 : Int32) (a5 : Int32) (a6 : Int32) {h h' : z_H}, q_re w h h' → q_s2 w (k80 a0 a1 a2 a3 a4 a5 a6 h) (k80' a0 a1 a2 a3 a4 a5 a6 h'))) : q_s2 w (f_Mod_way_269 N k80 N v0 v1 v3 v4 v5 v6 v7 v10 v11 h) (f_Mod_way_269 N k80' N v0 v1 v3 v4 v5 v6 v7 v10 v11 h') := s2_Mod_way_269_n N v0 v1 v3 v4 v5 v6 v7 v10 v11 r Hk80
theorem s2_Mod_way_80_n {w : Nat} {N : Nat}  : ∀ (n : Nat) (v0 : Nat) (v1 : Int32) (v3 : Int32) (v4 : Int32) (v5 : Int32) (v6 : Int32) (v7 : Int32) {h h' : z_H}, q_re w h h' → q_s2 w (f_Mod_way_80 N  n v0 v1 v3 v4 v5 v6 v7 h) (f_Mod_way_80 N  n v0 v1 v3 v4 v5 v6 v7 h') := by
  intro n
  induction n with
  | zero => intro v0 v1 v3 v4 v5 v6 v7 h h' r ; exact q_s2_none
  | succ n ih =>
    intro v0 v1 v3 v4 v5 v6 v7 h h' r 
    rw [f_Mod_way_80, f_Mod_way_80]
    refine q_s2_r (q_re_gR r (by decide)) (fun x1 => ?_)
    refine q_s2_r (q_re_aI r) (fun x2 => ?_)
    refine q_s2_if ?_ ?_
    · skip
      refine q_s2_r (q_re_gR r (by decide)) (fun x4 => ?_)
      refine q_s2_r (q_re_aI r) (fun x5 => ?_)
      refine q_s2_if ?_ ?_
      · skip
        exact q_s2_some r
      · skip
        refine q_s2_r (q_re_gI r (by decide)) (fun x7 => ?_)
        refine q_s2_if ?_ ?_
        · skip
          exact q_s2_some r
        · skip
          exact q_s2_some r
    · skip
      refine q_s2_r (q_re_gR r (by decide)) (fun x9 => ?_)
      refine q_s2_r (q_re_aI r) (fun x10 => ?_)
      refine q_s2_r (q_re_gR r (by decide)) (fun x11 => ?_)
      refine q_s2_r (q_re_aI r) (fun x12 => ?_)
      refine q_s2_if ?_ ?_
      · skip
        refine q_s2_r (q_re_gR r (by decide)) (fun x27 => ?_)
        refine q_s2_w (q_re_uI r) (fun h28 h28_ Rh28 => ?_)
        refine q_s2_r (fun _ z => z) (fun x29 => ?_)
        exact ih _ _ _ _ _ _ _ Rh28
      · skip
        refine q_s2_if ?_ ?_
        · skip
          refine q_s2_r (q_re_gR r (by decide)) (fun x22 => ?_)
          refine q_s2_r (q_re_gR r (by decide)) (fun x23 => ?_)
          refine q_s2_r (q_re_aI r) (fun x24 => ?_)
          refine q_s2_w (q_re_uI r) (fun h25 h25_ Rh25 => ?_)
          refine q_s2_r (fun _ z => z) (fun x26 => ?_)
          exact ih _ _ _ _ _ _ _ Rh25
        · skip
          refine q_s2_if ?_ ?_
          · skip
            refine s2_Mod_way_162 _ _ _ _ _ _ _ _ _  r ?_
            · intros; apply ih; assumption
          · skip
            refine q_s2_r (q_re_gR r (by decide)) (fun x16 => ?_)
            refine q_s2_r (q_re_aI r) (fun x17 => ?_)
            refine q_s2_if ?_ ?_
            · skip
              refine s2_Mod_way_269 _ _ _ _ _ _ _ _ _  r ?_
              · intros; apply ih; assumption
            · skip
              refine q_s2_if ?_ ?_
              · skip
                refine q_s2_r (fun _ z => z) (fun x21 => ?_)
                refine s2_Mod_way_269 _ _ _ _ _ _ _ _ _  r ?_
                · intros; apply ih; assumption
              · skip
                refine q_s2_r (fun _ z => z) (fun x20 => ?_)
                refine s2_Mod_way_269 _ _ _ _ _ _ _ _ _  r ?_
                · intros; apply ih; assumption
theorem s2_Mod_way_80 {w : Nat} {N : Nat}  (v0 : Nat) (v1 : Int32) (v3 : Int32) (v4 : Int32) (v5 : Int32) (v6 : Int32) (v7 : Int32) {h h' : z_H} (r : q_re w h h') : q_s2 w (f_Mod_way_80 N  N v0 v1 v3 v4 v5 v6 v7 h) (f_Mod_way_80 N  N v0 v1 v3 v4 v5 v6 v7 h') := s2_Mod_way_80_n N v0 v1 v3 v4 v5 v6 v7 r 
theorem s2_Mod_way_37_n {w : Nat} {N : Nat}  : ∀ (n : Nat) (v0 : Nat) (v1 : Int32) (v2 : Int32) (v3 : Int32) (v4 : Int32) (v5 : Int32) (v6 : Int32) (v7 : Int32) {h h' : z_H}, q_re w h h' → q_s2 w (f_Mod_way_37 N  n v0 v1 v2 v3 v4 v5 v6 v7 h) (f_Mod_way_37 N  n v0 v1 v2 v3 v4 v5 v6 v7 h') := by
  intro n
  induction n with
  | zero => intro v0 v1 v2 v3 v4 v5 v6 v7 h h' r ; exact q_s2_none
  | succ n ih =>
    intro v0 v1 v2 v3 v4 v5 v6 v7 h h' r 
    rw [f_Mod_way_37, f_Mod_way_37]
    refine q_s2_if ?_ ?_
    · skip
      refine q_s2_r (q_re_gR r (by decide)) (fun x2 => ?_)
      refine q_s2_r (q_re_aI r) (fun x3 => ?_)
      refine q_s2_if ?_ ?_
      · skip
        unfold f_Mod_way_72
        refine q_s2_r (q_re_gR r (by decide)) (fun x1i0 => ?_)
        refine q_s2_r (q_re_aI r) (fun x2i0 => ?_)
        refine s2_Mod_way_80 _ _ _ _ _ _ _  r
      · skip
        refine q_s2_if ?_ ?_
        · skip
          unfold f_Mod_way_72
          refine q_s2_r (q_re_gR r (by decide)) (fun x1i1 => ?_)
          refine q_s2_r (q_re_aI r) (fun x2i1 => ?_)
          refine s2_Mod_way_80 _ _ _ _ _ _ _  r
        · skip
          exact q_s2_some r
    · skip
      refine q_s2_r (q_re_gR r (by decide)) (fun x6 => ?_)
      refine q_s2_w (q_re_uI r) (fun h7 h7_ Rh7 => ?_)
      refine q_s2_r (fun _ z => z) (fun x8 => ?_)
      exact ih _ _ _ _ _ _ _ _ Rh7
theorem s2_Mod_way_37 {w : Nat} {N : Nat}  (v0 : Nat) (v1 : Int32) (v2 : Int32) (v3 : Int32) (v4 : Int32) (v5 : Int32) (v6 : Int32) (v7 : Int32) {h h' : z_H} (r : q_re w h h') : q_s2 w (f_Mod_way_37 N  N v0 v1 v2 v3 v4 v5 v6 v7 h) (f_Mod_way_37 N  N v0 v1 v2 v3 v4 v5 v6 v7 h') := s2_Mod_way_37_n N v0 v1 v2 v3 v4 v5 v6 v7 r 
theorem s2_Mod_way_14_n {w : Nat} {N : Nat}  : ∀ (n : Nat) (v0 : Nat) (v1 : Int32) (v2 : Int32) (v3 : Int32) (v4 : Int32) (v5 : Int32) (v6 : Int32) (v7 : Int32) {h h' : z_H}, q_re w h h' → q_s2 w (f_Mod_way_14 N  n v0 v1 v2 v3 v4 v5 v6 v7 h) (f_Mod_way_14 N  n v0 v1 v2 v3 v4 v5 v6 v7 h') := by
  intro n
  induction n with
  | zero => intro v0 v1 v2 v3 v4 v5 v6 v7 h h' r ; exact q_s2_none
  | succ n ih =>
    intro v0 v1 v2 v3 v4 v5 v6 v7 h h' r 
    rw [f_Mod_way_14, f_Mod_way_14]
    refine q_s2_if ?_ ?_
    · skip
      refine s2_Mod_way_37 _ _ _ _ _ _ _ _  r
    · skip
      refine q_s2_r (q_re_gR r (by decide)) (fun x2 => ?_)
      refine q_s2_w (q_re_uI r) (fun h3 h3_ Rh3 => ?_)
      refine q_s2_r (fun _ z => z) (fun x4 => ?_)
      exact ih _ _ _ _ _ _ _ _ Rh3
theorem s2_Mod_way_14 {w : Nat} {N : Nat}  (v0 : Nat) (v1 : Int32) (v2 : Int32) (v3 : Int32) (v4 : Int32) (v5 : Int32) (v6 : Int32) (v7 : Int32) {h h' : z_H} (r : q_re w h h') : q_s2 w (f_Mod_way_14 N  N v0 v1 v2 v3 v4 v5 v6 v7 h) (f_Mod_way_14 N  N v0 v1 v2 v3 v4 v5 v6 v7 h') := s2_Mod_way_14_n N v0 v1 v2 v3 v4 v5 v6 v7 r 
theorem s2_Mod_way {w : Nat} {N : Nat} (v0 : Nat) (v1 : Int32) (v2 : Int32) (v3 : Int32) (v4 : Int32) {h h' : z_H} (r : q_re w h h') : q_s2 w (f_Mod_way N v0 v1 v2 v3 v4 h) (f_Mod_way N v0 v1 v2 v3 v4 h') := by
  unfold f_Mod_way
  refine q_s2_w (q_re_sF r (by decide)) (fun h1 h1_ Rh1 => ?_)
  refine s2_Mod_way_14 _ _ _ _ _ _ _ _  Rh1
