/-! matching, reference: what a walk answers -/
def r_kd (km : Int32 → Int32) : Int32 → Int32 := fun i => if km i = 4 then 1 else if km i = 5 then 2 else if km i = 3 then 3 else 0
theorem r_kd4 {km : Int32 → Int32} {i : Int32} (h : km i = 4) : r_kd km i = 1 := by unfold r_kd; rw [if_pos h]
theorem r_kd5 {km : Int32 → Int32} {i : Int32} (h : km i = 5) : r_kd km i = 2 := by unfold r_kd; rw [h]; rfl
theorem r_kd3 {km : Int32 → Int32} {i : Int32} (h : km i = 3) : r_kd km i = 3 := by unfold r_kd; rw [h]; rfl
theorem r_kd0 {km : Int32 → Int32} {i : Int32} (h4 : ¬ km i = 4) (h5 : ¬ km i = 5) (h3 : ¬ km i = 3) : r_kd km i = 0 := by unfold r_kd; rw [if_neg h4, if_neg h5, if_neg h3]
/-- what an item of the reference takes -/
def x_tf (h : z_H) (v0 : Nat) (i c : Int32) : Int32 := match f_Mod_fits 0 v0 i c h with
  | some r => r.1
  | none => 0
theorem x_tf_s {N v0 : Nat} {i c : Int32} {h : z_H} {r : Int32 × z_H} (e : f_Mod_fits N v0 i c h = some r) : r = (x_tf h v0 i c, h) ∧ (r.1 = 0 ∨ r.1 = 1) := by
  have e0 : f_Mod_fits 0 v0 i c h = some r := e
  have q : r.2 = h ∧ (r.1 = 0 ∨ r.1 = 1) := by
    clear e
    unfold f_Mod_fits at e0
    obtain ⟨_, _, e0⟩ := z_bs e0
    obtain ⟨_, _, e0⟩ := z_bs e0
    split at e0
    · cases e0; simp
    · obtain ⟨_, _, e0⟩ := z_bs e0
      obtain ⟨_, _, e0⟩ := z_bs e0
      split at e0
      · obtain ⟨_, _, e0⟩ := z_bs e0
        obtain ⟨_, _, e0⟩ := z_bs e0
        split at e0 <;> (cases e0; simp)
      · split at e0
        · obtain ⟨_, _, e0⟩ := z_bs e0
          obtain ⟨_, _, e0⟩ := z_bs e0
          unfold f_Mod_fits_65 at e0
          split at e0 <;> (cases e0; simp)
        · obtain ⟨_, _, e0⟩ := z_bs e0
          obtain ⟨_, _, e0⟩ := z_bs e0
          unfold f_Mod_fits_65 at e0
          split at e0 <;> (cases e0; simp)
  refine ⟨?_, q.2⟩
  have z : x_tf h v0 i c = r.1 := by unfold x_tf; rw [e0]
  rw [z]
  exact Prod.ext rfl q.1
theorem x_aI_c {h h' : z_H} {b t : Nat} {i : Int32} (e : h' b = h b) : aI h' b t i = aI h b t i := by simp only [aI, e]
section RF
variable {L : q_L} {π : Nat → Nat → Option Nat} {N v0 : Nat}
theorem x_gM {h : z_H} {k q : Nat} (T : x_U L π h) (M : q_M L π v0) (hq : π v0 k = some q) : gR h v0 12 k = some q := q_gR (L := x_L L) (ci := 12) (x_T T) M.1 (by decide) hq
set_option maxHeartbeats 1000000 in
theorem x_tf_c {h h' : z_H} (M : q_M L π v0) (T : x_U L π h) (T' : x_U L π h') (e1 : h' (v0 + 26) = h (v0 + 26)) (e2 : h' (v0 + 27) = h (v0 + 27)) (e3 : h' (v0 + 32) = h (v0 + 32)) (e4 : h' (v0 + 33) = h (v0 + 33)) : x_tf h' v0 = x_tf h v0 := by
  funext i c
  have B : (f_Mod_fits 0 v0 i c h').map Prod.fst = (f_Mod_fits 0 v0 i c h).map Prod.fst := by
    unfold f_Mod_fits
    rw [x_gM T M (d_Mo_31 M), x_gM T' M (d_Mo_31 M), x_gM T M (d_Mo_32 M), x_gM T' M (d_Mo_32 M), x_gM T M (d_Mo_37 M), x_gM T' M (d_Mo_37 M), x_gM T M (d_Mo_38 M), x_gM T' M (d_Mo_38 M)]
    show (z_b (aI h' (v0 + 26) 0 i) _).map Prod.fst = (z_b (aI h (v0 + 26) 0 i) _).map Prod.fst
    rw [x_aI_c e1]
    cases aI h (v0 + 26) 0 i with
    | none => rfl
    | some x =>
      show (if x = 1 then _ else _ : Option (Int32 × z_H)).map Prod.fst = (if x = 1 then _ else _ : Option (Int32 × z_H)).map Prod.fst
      by_cases c1 : x = 1
      · rw [if_pos c1, if_pos c1]; rfl
      · rw [if_neg c1, if_neg c1]
        show (z_b (aI h' (v0 + 26) 0 i) _).map Prod.fst = (z_b (aI h (v0 + 26) 0 i) _).map Prod.fst
        rw [x_aI_c e1]
        cases aI h (v0 + 26) 0 i with
        | none => rfl
        | some x =>
          show (if x = 0 then _ else _ : Option (Int32 × z_H)).map Prod.fst = (if x = 0 then _ else _ : Option (Int32 × z_H)).map Prod.fst
          by_cases c2 : x = 0
          · rw [if_pos c2, if_pos c2]
            show (z_b (aI h' (v0 + 27) 0 i) _).map Prod.fst = (z_b (aI h (v0 + 27) 0 i) _).map Prod.fst
            rw [x_aI_c e2]
            cases aI h (v0 + 27) 0 i with
            | none => rfl
            | some y =>
              show (if y = c then _ else _ : Option (Int32 × z_H)).map Prod.fst = (if y = c then _ else _ : Option (Int32 × z_H)).map Prod.fst
              by_cases c3 : y = c
              · rw [if_pos c3, if_pos c3]; rfl
              · rw [if_neg c3, if_neg c3]; rfl
          · rw [if_neg c2, if_neg c2]
            by_cases c3 : 64 ≤ c
            · rw [if_pos c3, if_pos c3]
              show (z_b (aL h' (v0 + 33) i) _).map Prod.fst = (z_b (aL h (v0 + 33) i) _).map Prod.fst
              rw [x_aL_c e4]
              cases aL h (v0 + 33) i with
              | none => rfl
              | some y =>
                show (f_Mod_fits_65 0 _ h').map Prod.fst = (f_Mod_fits_65 0 _ h).map Prod.fst
                unfold f_Mod_fits_65
                split <;> rfl
            · rw [if_neg c3, if_neg c3]
              show (z_b (aL h' (v0 + 32) i) _).map Prod.fst = (z_b (aL h (v0 + 32) i) _).map Prod.fst
              rw [x_aL_c e3]
              cases aL h (v0 + 32) i with
              | none => rfl
              | some y =>
                show (f_Mod_fits_65 0 _ h').map Prod.fst = (f_Mod_fits_65 0 _ h).map Prod.fst
                unfold f_Mod_fits_65
                split <;> rfl
  unfold x_tf
  cases q1 : f_Mod_fits 0 v0 i c h' <;> cases q2 : f_Mod_fits 0 v0 i c h
  · rfl
  · rw [q1, q2] at B; cases B
  · rw [q1, q2] at B; cases B
  · rw [q1, q2] at B; exact Option.some.inj B
theorem l_fits {i c : Int32} {h : z_H} {β : Type} {f : Int32 × z_H → Option β} {Q : β → Prop} (H : x_tf h v0 i c = 0 ∨ x_tf h v0 i c = 1 → qi (f (x_tf h v0 i c, h)) Q) : qi (z_b (f_Mod_fits N v0 i c h) f) Q := by
  intro r z
  obtain ⟨x, e1, e2⟩ := z_bs z
  obtain ⟨q1, q2⟩ := x_tf_s e1
  subst q1
  exact H q2 r e2
end RF
/-- what a walk of the reference reads stands as it did -/
def y_E (L : q_L) (π : Nat → Nat → Option Nat) (v0 : Nat) (q : Int32) (h0 : z_H) (tx : Int32 → Int32) (n : Int32) (km gp : Int32 → Int32) (tk : Int32 → Int32 → Int32) (sr : Int32 → Int32) (to ae : Int32) (h : z_H) : Prop :=
  x_U L π h ∧ (∀ a, a ≠ v0 → a ≠ v0 + 37 → a ≠ v0 + 38 → h a = h0 a) ∧ (∀ k, k ≠ 55 → vI h v0 k = vI h0 v0 k) ∧ (vA h (v0 + 36) = tx ∧ vI h v0 54 = n ∧ vA h (v0 + 26) = km ∧ vA h (v0 + 27) = gp ∧ x_tf h v0 = tk ∧ vA h (v0 + 29) = sr) ∧ (vA h (v0 + 24) q = to ∧ vA h (v0 + 31) q = ae)
/-- what a walk of the reference answers -/
def y_WR (v0 : Nat) (n g ae : Int32) (V : Int32 × Option (Int32 × (Int32 → Int32) × (Int32 → Int32))) (r : Int32 × z_H) : Prop := vI r.2 v0 55 = V.1 ∧ ((V.2 = none ∧ r.1 = -1) ∨ ∃ e b' e', V.2 = some (e, b', e') ∧ x_ag g b' (vA r.2 (v0 + 37)) ∧ x_ag g e' (fun j => vA r.2 (v0 + 37) j + vA r.2 (v0 + 38) j) ∧ 0 ≤ e ∧ e ≤ n ∧ (((ae = 0 ∨ e = n) ∧ r.1 = e) ∨ (¬ (ae = 0 ∨ e = n) ∧ r.1 = -1)))
section RW
variable {L : q_L} {π : Nat → Nat → Option Nat} {N v0 : Nat} {q : Int32} {h0 : z_H} {tx : Int32 → Int32} {n : Int32} {km gp : Int32 → Int32} {tk : Int32 → Int32 → Int32} {sr : Int32 → Int32} {to ae g k1 k2 : Int32}
theorem y_E_f {h h' : z_H} (M : q_M L π v0) (E : y_E L π v0 q h0 tx n km gp tk sr to ae h) (T : x_U L π h') (f : ∀ a, a ≠ v0 → a ≠ v0 + 37 → a ≠ v0 + 38 → h' a = h a) (fi : ∀ k, k ≠ 55 → vI h' v0 k = vI h v0 k) : y_E L π v0 q h0 tx n km gp tk sr to ae h' := by
  obtain ⟨T0, f0, i0, ⟨q1, q2, q3, q4, q5, q6⟩, r1, r2⟩ := E
  refine ⟨T, fun a a1 a2 a3 => (f a a1 a2 a3).trans (f0 a a1 a2 a3), fun k hk => (fi k hk).trans (i0 k hk), ⟨?_, ?_, ?_, ?_, ?_, ?_⟩, ?_, ?_⟩
  · rw [x_vA_c (f (v0 + 36) (by omega) (by omega) (by omega)), q1]
  · rw [fi 54 (by decide), q2]
  · rw [x_vA_c (f (v0 + 26) (by omega) (by omega) (by omega)), q3]
  · rw [x_vA_c (f (v0 + 27) (by omega) (by omega) (by omega)), q4]
  · rw [x_tf_c M T0 T (f (v0 + 26) (by omega) (by omega) (by omega)) (f (v0 + 27) (by omega) (by omega) (by omega)) (f (v0 + 32) (by omega) (by omega) (by omega)) (f (v0 + 33) (by omega) (by omega) (by omega)), q5]
  · rw [x_vA_c (f (v0 + 29) (by omega) (by omega) (by omega)), q6]
  · rw [x_vA_c (f (v0 + 24) (by omega) (by omega) (by omega)), r1]
  · rw [x_vA_c (f (v0 + 31) (by omega) (by omega) (by omega)), r2]
set_option maxHeartbeats 2000000 in
theorem y_162 (M : q_M L π v0) {k80 : Nat → Int32 → Int32 → Int32 → Int32 → Int32 → Int32 → z_H → Option (Int32 × z_H)} {Q : Int32 × z_H → Prop} {v5 v6 v7 v9 gl : Int32} {h : z_H} (E : y_E L π v0 q h0 tx n km gp tk sr to ae h) (egl : vA h (v0 + 38) v9 = gl) (gl3 : gl ≤ 1000) (S : (∀ j, 0 ≤ j → j < gl → v5 + j < n ∧ tx (v5 + j) = tx (vA h (v0 + 37) v9 + j)) → qi (k80 v0 q k1 k2 (v5 + gl) v6 (v7 + 1) h) Q) (F : ¬ (∀ j, 0 ≤ j → j < gl → v5 + j < n ∧ tx (v5 + j) = tx (vA h (v0 + 37) v9 + j)) → Q (-1, h)) : ∀ (m : Nat) (v10 : Int32), 0 ≤ v10 → (∀ j, 0 ≤ j → j < v10 → v5 + j < n ∧ tx (v5 + j) = tx (vA h (v0 + 37) v9 + j)) → qi (f_Mod_way_162 N k80 m v0 q k1 k2 v5 v6 v7 v9 v10 h) Q := by
  have E' := E
  obtain ⟨T, f0, i0, ⟨q1, q2, q3, q4, q5, q6⟩, r1, r2⟩ := E'
  intro m
  induction m with
  | zero => intro v10 b0 H r e; rw [f_Mod_way_162] at e; cases e
  | succ m ih =>
    intro v10 b0 H
    rw [f_Mod_way_162]
    refine l_gR T (d_Mo_53 M) (l_aI (e := gl) (fun _ => egl) (fun _ => ?_))
    refine qi_if (fun c => ?_) (fun c => ?_)
    · refine l_gR T (d_Mo_53 M) (l_aI (e := gl) (fun _ => egl) (fun _ => qi_bs (qi_bs (S ?_))))
      exact fun j j0 j1 => H j j0 (Int32.lt_of_lt_of_le j1 c)
    · have cl := Int32.not_le.mp c
      refine l_gI (e := n) q2 ?_
      refine qi_if (fun c1 => ?_) (fun c1 => ?_)
      · exact qi_some (F (fun z => absurd (Int32.lt_of_lt_of_le (z v10 b0 cl).1 c1) Int32.lt_irrefl))
      · refine l_gR T (d_Mo_51 M) (l_aI (e := tx (v5 + v10)) (fun _ => by rw [q1]) (fun _ => l_gR T (d_Mo_51 M) (l_gR T (d_Mo_52 M) (l_aI (e := vA h (v0 + 37) v9) (fun _ => rfl) (fun _ => l_aI (e := tx (vA h (v0 + 37) v9 + v10)) (fun _ => by rw [q1]) (fun _ => ?_))))))
        refine qi_if (fun c2 => ?_) (fun c2 => ?_)
        · refine qi_bs (ih (v10 + 1) (by lia) (fun j j0 j1 => ?_))
          by_cases w : j = v10
          · rw [w]; exact ⟨Int32.not_le.mp c1, c2⟩
          · exact H j j0 (by lia)
        · exact qi_some (F (fun z => c2 (z v10 b0 cl).2))
set_option maxHeartbeats 2000000 in
theorem y_269 (M : q_M L π v0) {k80 : Nat → Int32 → Int32 → Int32 → Int32 → Int32 → Int32 → z_H → Option (Int32 × z_H)} {Q : Int32 × z_H → Prop} {p0 v6 v7 v10 : Int32} {h : z_H} (E : y_E L π v0 q h0 tx n km gp tk sr to ae h) (it : v7 < to) (vk : v10 ≤ 1000) (p00 : 0 ≤ p0) (p01 : p0 ≤ 1000) (S : x_rr tx n tk v7 to p0 v10 → qi (k80 v0 q k1 k2 (p0 + v10) v6 (v7 + 1) h) Q) (F : ¬ x_rr tx n tk v7 to p0 v10 → sr v7 = 0 → Q (-1, h)) (F1 : ∀ h', ¬ x_rr tx n tk v7 to p0 v10 → ¬ sr v7 = 0 → x_U L π h' → (∀ b, b ≠ v0 → h' b = h b) → (∀ k, vI h' v0 k = if k = 55 then v6 else vI h v0 k) → Q (-1, h')) : ∀ (m : Nat) (v5 v11 : Int32), 0 ≤ v11 → v11 ≤ 1000 → v11 ≤ v10 → v5 = p0 + v11 → x_rr tx n tk v7 to p0 v11 → qi (f_Mod_way_269 N k80 m v0 q k1 k2 v5 v6 v7 v10 v11 h) Q := by
  have E' := E
  obtain ⟨T, f0, i0, ⟨q1, q2, q3, q4, q5, q6⟩, r1, r2⟩ := E'
  intro m
  induction m with
  | zero => intro v5 v11 b0 b1 b2 e5 H r e; rw [f_Mod_way_269] at e; cases e
  | succ m ih =>
    intro v5 v11 b0 b1 b2 e5 H
    have X : ¬ x_rr tx n tk v7 to p0 v10 → qi (f_Mod_way_306 N k80 (f_Mod_way_269 N k80 m) v0 q k1 k2 v5 v6 v7 v10 v11 0 h) Q := by
      intro nr
      unfold f_Mod_way_306
      rw [if_pos rfl]
      refine l_gR T (d_Mo_34 M) (l_aI (e := sr v7) (fun _ => by rw [q6]) (fun _ => ?_))
      refine qi_if (fun c => ?_) (fun c => ?_)
      · exact qi_some (F nr c)
      · refine l_sIc T M.1 (by decide) rfl ?_
        intro h1 T1 c1 u1
        exact qi_some (F1 h1 nr c T1 c1 u1)
    rw [f_Mod_way_269]
    refine qi_if (fun c => ?_) (fun c => ?_)
    · refine qi_bs ?_
      have e : v11 = v10 := Int32.le_antisymm b2 c
      subst e; subst e5
      exact S H
    · have cl := Int32.not_le.mp c
      refine l_gI (e := n) q2 ?_
      refine qi_if (fun c1 => ?_) (fun c1 => ?_)
      · exact X (fun z => by
          have w := (z v11 b0 cl).2.2.1
          rw [← e5] at w
          exact absurd (Int32.lt_of_lt_of_le w c1) Int32.lt_irrefl)
      · refine l_gR T (d_Mo_51 M) (l_aI (e := tx v5) (fun _ => by rw [q1]) (fun i5 => l_gO (l_fits (fun zz => ?_))))
        rw [q5] at zz ⊢
        refine qi_if (fun c2 => ?_) (fun c2 => ?_)
        · dsimp only at c2 ⊢
          exact X (fun z => by
            have w := (z v11 b0 cl).2.2.2
            rw [← e5] at w
            exact absurd (w.symm.trans c2) (by decide))
        · dsimp only at c2 ⊢
          unfold f_Mod_way_306
          rw [if_neg (by decide)]
          refine qi_bs (qi_bs (ih (v5 + 1) (v11 + 1) (by lia) (by lia) (by lia) (by rw [e5, Int32.add_assoc]) (fun j j0 j1 => ?_)))
          by_cases w : j = v11
          · rw [w, ← e5]
            exact ⟨it, i5, Int32.not_le.mp c1, zz.resolve_left c2⟩
          · exact H j j0 (by lia)
theorem x_rr_p {s p k : Int32} (r : x_rr tx n tk s to p k) (k0 : 0 ≤ k) (kn : k ≤ 1000) (p0 : 0 ≤ p) (pn : p ≤ n) (n1 : n ≤ 1000) : p ≤ p + k ∧ p + k ≤ n := by
  by_cases z : k = 0
  · rw [z, Int32.add_zero]; exact ⟨Int32.le_refl _, pn⟩
  · have w := (r (k - 1) (by lia) (by lia)).2.2.1
    constructor <;> lia
theorem x_sq_g {b gl p : Int32} (n1 : n ≤ 1000) (p0 : 0 ≤ p) (pn : p ≤ n) (g0 : 0 ≤ gl) (g1 : gl ≤ 1000) : (∀ j, 0 ≤ j → j < gl → p + j < n ∧ tx (p + j) = tx (b + j)) ↔ (gl ≤ n - p ∧ ∀ j, 0 ≤ j → j < gl → tx (b + j) = tx (p + j)) := by
  constructor
  · intro H
    refine ⟨?_, fun j j0 j1 => ((H j j0 j1).2).symm⟩
    by_cases z : gl = 0
    · rw [z]; lia
    · have w := (H (gl - 1) (by lia) (by lia)).1
      lia
  · rintro ⟨a, H⟩ j j0 j1
    exact ⟨by lia, (H j j0 j1).symm⟩
theorem x_glb {a b p n : Int32} (a0 : 0 ≤ a) (ab : a ≤ b) (bp : b ≤ p) (pn : p ≤ n) (n1 : n ≤ 1000) : 0 ≤ b - a ∧ b - a ≤ 1000 := by constructor <;> lia
set_option maxHeartbeats 8000000 in
theorem y_80 (M : q_M L π v0) (n0 : 0 ≤ n) (n1 : n ≤ 1000) (K1 : 0 ≤ k1 ∧ k1 ≤ 1000) (K2 : 0 ≤ k2 ∧ k2 ≤ 1000) (to0 : 0 ≤ to) : ∀ (m : Nat) (i p s o l : Int32) (gb ge : Int32 → Int32) (h : z_H), y_E L π v0 q h0 tx n km gp tk sr to ae h → vI h v0 55 = 0 → 0 ≤ i → x_wf (r_kd km) gp (x_ct i to) i o l → x_oc (r_kd km) (x_ct i to) i o l = (g, g) → x_gk n o l gb ge p → x_ag o gb (vA h (v0 + 37)) → x_ag l ge (fun j => vA h (v0 + 37) j + vA h (v0 + 38) j) → qi (f_Mod_way_80 N m v0 q k1 k2 p s i h) (fun r => y_E L π v0 q h0 tx n km gp tk sr to ae r.2 ∧ y_WR v0 n g ae (x_v tx n (r_kd km) gp tk sr to k1 k2 (x_ct i to) i p s gb ge) r) := by
  intro m
  induction m with
  | zero => intro i p s o l gb ge h E z55 i0 wf oc gk A1 A2 r e; rw [f_Mod_way_80] at e; cases e
  | succ m ih =>
    intro i p s o l gb ge h E z55 i0 wf oc gk A1 A2
    have E' := E
    obtain ⟨T, f0, ii0, ⟨q1, q2, q3, q4, q5, q6⟩, r1, r2⟩ := E'
    rw [f_Mod_way_80]
    refine l_gR T (d_Mo_29 M) (l_aI (e := to) (fun _ => r1) (fun _ => ?_))
    refine qi_if (fun c => ?_) (fun c => ?_)
    · rw [x_ct0 c i0 to0] at oc ⊢
      rw [x_oc] at oc
      cases oc
      rw [x_v]
      have P : ∀ y : Int32, ((ae = 0 ∨ p = n) ∧ y = p) ∨ (¬ (ae = 0 ∨ p = n) ∧ y = -1) → y_WR v0 n g ae (0, some (p, gb, ge)) (y, h) := fun y hy => ⟨z55, Or.inr ⟨p, gb, ge, rfl, A1, A2, gk.1.1, gk.1.2, hy⟩⟩
      refine l_gR T (d_Mo_36 M) (l_aI (e := ae) (fun _ => r2) (fun _ => ?_))
      refine qi_if (fun c1 => ?_) (fun c1 => ?_)
      · exact qi_some ⟨E, P _ (Or.inl ⟨Or.inl c1, rfl⟩)⟩
      · refine l_gI (e := n) q2 ?_
        refine qi_if (fun c2 => ?_) (fun c2 => ?_)
        · exact qi_some ⟨E, P _ (Or.inl ⟨Or.inr (Int32.le_antisymm gk.1.2 c2), rfl⟩)⟩
        · exact qi_some ⟨E, P _ (Or.inr ⟨fun z => z.elim c1 (fun z => c2 (z ▸ Int32.le_refl _)), rfl⟩)⟩
    · have cl := Int32.not_le.mp c
      have w0 := x_wf0 wf
      have o0 : 0 ≤ o := Int32.le_trans w0.1 w0.2.1
      rw [x_ct1 cl i0] at wf oc ⊢
      obtain ⟨-, w1, w2, w3, w4⟩ := wf
      rw [x_oc] at oc
      refine l_gR T (d_Mo_31 M) (l_aI (e := km i) (fun _ => by rw [q3]) (fun _ => l_gR T (d_Mo_32 M) (l_aI (e := gp i) (fun _ => by rw [q4]) (fun _ => ?_))))
      refine qi_if (fun c4 => ?_) (fun c4 => ?_)
      · have z := r_kd4 c4
        obtain ⟨gg, wf⟩ := w1 z
        rw [if_pos z] at oc
        rw [x_v, if_pos z]
        refine l_gR T (d_Mo_52 M) (l_uIc T ?_)
        intro h1 T1 j1 cc u1
        rw [gg] at u1 ⊢
        refine qi_bs (ih (i + 1) p s (o + 1) l _ _ h1 (y_E_f M E T1 (fun a a1 a2 a3 => cc a a2) (fun k _ => x_vI_c (cc v0 (by omega)))) (by rw [x_vI_c (cc v0 (by omega)), z55]) (x_ii1 cl i0) wf oc (x_gk_1 gk w0.1 w0.2.1 w0.2.2) (x_ag_t (x_ag_up A1 ⟨o0, w0.2.2⟩) (x_ag_of (fun j j0 => (u1 j j0).symm))) (fun j ja jb => ?_))
        show ge j = vA h1 (v0 + 37) j + vA h1 (v0 + 38) j
        rw [u1 j (by lia), if_neg (by lia), x_vA_c (cc (v0 + 38) (by omega))]
        exact A2 j ja jb
      · refine qi_if (fun c5 => ?_) (fun c5 => ?_)
        · have z := r_kd5 c5
          obtain ⟨gg, lo, wf⟩ := w2 z
          have z1 : ¬ r_kd km i = 1 := by rw [z]; decide
          rw [if_neg z1, if_pos z] at oc
          rw [x_v, if_neg z1, if_pos z]
          refine l_gR T (d_Mo_53 M) (l_gR T (d_Mo_52 M) (l_aI (e := vA h (v0 + 37) (gp i)) (fun _ => rfl) (fun _ => l_uIc T ?_)))
          intro h1 T1 j1 cc u1
          rw [gg] at u1 ⊢
          refine qi_bs (ih (i + 1) p s o o _ _ h1 (y_E_f M E T1 (fun a a1 a2 a3 => cc a a3) (fun k _ => x_vI_c (cc v0 (by omega)))) (by rw [x_vI_c (cc v0 (by omega)), z55]) (x_ii1 cl i0) wf oc (x_gk_2 gk w0.1 lo w0.2.2 (Int32.le_trans w0.2.1 w0.2.2)) (by rw [x_vA_c (cc (v0 + 37) (by omega))]; exact A1) (fun j ja jb => ?_))
          show x_up ge o p j = vA h1 (v0 + 37) j + vA h1 (v0 + 38) j
          rw [x_vA_c (cc (v0 + 37) (by omega)), u1 j (by lia)]
          unfold x_up
          by_cases w : j = o
          · rw [if_pos w, if_pos w, w]; grind
          · rw [if_neg w, if_neg w]
            exact A2 j ja (by lia)
        · refine qi_if (fun c3 => ?_) (fun c3 => ?_)
          · have z := r_kd3 c3
            obtain ⟨⟨g1, gl⟩, wf⟩ := w3 z
            have z1 : ¬ r_kd km i = 1 := by rw [z]; decide
            have z2 : ¬ r_kd km i = 2 := by rw [z]; decide
            rw [if_neg z1, if_neg z2] at oc
            rw [x_v, if_neg z1, if_neg z2, if_pos z]
            have eb := A1 (gp i) g1 (Int32.le_trans gl w0.2.1)
            have ee := A2 (gp i) g1 gl
            have a1 := gk.2.1 (gp i) g1 (Int32.le_trans gl w0.2.1)
            have a2 := gk.2.2 (gp i) g1 gl
            have gb01 := x_glb a1.1 a2.1 a2.2 gk.1.2 n1
            have egl : vA h (v0 + 38) (gp i) = ge (gp i) - gb (gp i) := by rw [ee, eb]; grind
            have SQ := x_sq_g (tx := tx) (b := gb (gp i)) n1 gk.1.1 gk.1.2 gb01.1 gb01.2
            refine y_162 (N := N) M E egl gb01.2 ?_ ?_ N 0 (by decide) (fun j a b => absurd (Int32.lt_of_le_of_lt a b) Int32.lt_irrefl)
            · rw [← eb]
              intro H
              have sq : x_sq tx n (gb (gp i)) (ge (gp i)) p := SQ.mp H
              rw [x_cif_t sq]
              have zz := x_sq_le n1 gk.1.1 gk.1.2 a1.1 a2.1 a2.2 sq.1
              exact ih (i + 1) _ s o l _ _ h E z55 (x_ii1 cl i0) wf oc (x_gk_up gk zz.1 zz.2) A1 A2
            · rw [← eb]
              intro H
              have nsq : ¬ x_sq tx n (gb (gp i)) (ge (gp i)) p := fun sq => H (SQ.mpr sq)
              rw [x_cif_f nsq]
              exact ⟨E, z55, Or.inl ⟨rfl, rfl⟩⟩
          · have z := r_kd0 c4 c5 c3
            have wf := w4 (by rw [z]; decide) (by rw [z]; decide) (by rw [z]; decide)
            have z1 : ¬ r_kd km i = 1 := by rw [z]; decide
            have z2 : ¬ r_kd km i = 2 := by rw [z]; decide
            have z3 : ¬ r_kd km i = 3 := by rw [z]; decide
            rw [if_neg z1, if_neg z2] at oc
            have V0 : sr i = 0 → x_v tx n (r_kd km) gp tk sr to k1 k2 (x_ct (i + 1) to + 1) i p s gb ge = if 0 ≤ p ∧ p < n ∧ tk i (tx p) = 1 then x_v tx n (r_kd km) gp tk sr to k1 k2 (x_ct (i + 1) to) (i + 1) (p + 1) s gb ge else (0, none) := by
              intro c6
              rw [x_v, if_neg z1, if_neg z2, if_neg z3, if_pos c6]
            have V1 := fun (c6 : ¬ sr i = 0) => x_v_s (tx := tx) (n := n) (gp := gp) (tk := tk) (to := to) (k1 := k1) (k2 := k2) (c := x_ct (i + 1) to) (p := p) (s := s) (gb := gb) (ge := ge) z c6
            have ST : ∀ (k s' : Int32), 0 ≤ k → k ≤ 1000 → (¬ sr i = 0 → s' = s + 1) → (x_rr tx n tk i to p k → x_v tx n (r_kd km) gp tk sr to k1 k2 (x_ct (i + 1) to + 1) i p s gb ge = x_v tx n (r_kd km) gp tk sr to k1 k2 (x_ct (i + 1) to) (i + 1) (p + k) s' gb ge) → (¬ x_rr tx n tk i to p k → x_v tx n (r_kd km) gp tk sr to k1 k2 (x_ct (i + 1) to + 1) i p s gb ge = (if sr i = 0 then 0 else s + 1, none)) → qi (f_Mod_way_269 N (f_Mod_way_80 N m) N v0 q k1 k2 p s' i k 0 h) (fun r => y_E L π v0 q h0 tx n km gp tk sr to ae r.2 ∧ y_WR v0 n g ae (x_v tx n (r_kd km) gp tk sr to k1 k2 (x_ct (i + 1) to + 1) i p s gb ge) r) := by
              intro k s' kk0 kk1 es' V1 V2
              refine y_269 (N := N) M E cl kk1 gk.1.1 (Int32.le_trans gk.1.2 n1) ?_ ?_ ?_ N p 0 (by decide) (by decide) kk0 (Int32.add_zero p).symm (x_rr_0 (by decide))
              · intro rn
                rw [V1 rn]
                have zz := x_rr_p rn kk0 kk1 gk.1.1 gk.1.2 n1
                exact ih (i + 1) _ s' o l _ _ h E z55 (x_ii1 cl i0) wf oc (x_gk_up gk zz.1 zz.2) A1 A2
              · intro nr s0
                rw [V2 nr, if_pos s0]
                exact ⟨E, z55, Or.inl ⟨rfl, rfl⟩⟩
              · intro h' nr s0 T' cc u
                rw [V2 nr, if_neg s0]
                refine ⟨y_E_f M E T' (fun a a1 _ _ => cc a a1) (fun k hk => by rw [u k, if_neg hk]), ?_, Or.inl ⟨rfl, rfl⟩⟩
                show vI h' v0 55 = s + 1
                rw [u 55, if_pos rfl, es' s0]
            refine l_gR T (d_Mo_34 M) (l_aI (e := sr i) (fun _ => by rw [q6]) (fun _ => ?_))
            refine qi_if (fun c6 => ?_) (fun c6 => ?_)
            · have R1 : x_rr tx n tk i to p 1 ↔ (0 ≤ p ∧ p < n ∧ tk i (tx p) = 1) := by
                constructor
                · intro r
                  have w := r 0 (by decide) (by decide)
                  rw [Int32.add_zero] at w
                  exact w.2
                · intro w j j0 j1
                  have e : j = 0 := by lia
                  rw [e, Int32.add_zero]
                  exact ⟨cl, w⟩
              exact ST 1 s (by decide) (by decide) (fun w => absurd c6 w) (fun r => by rw [V0 c6, if_pos (R1.mp r)]) (fun r => by rw [V0 c6, if_neg (fun w => r (R1.mpr w)), if_pos c6])
            · refine qi_if (fun c7 => ?_) (fun c7 => ?_)
              · exact qi_bs (ST k1 (s + 1) K1.1 K1.2 (fun _ => rfl) (fun r => by rw [V1 c6, if_pos c7, x_cif_t r]) (fun r => by rw [V1 c6, if_pos c7, x_cif_f r, if_neg c6]))
              · exact qi_bs (ST k2 (s + 1) K2.1 K2.2 (fun _ => rfl) (fun r => by rw [V1 c6, if_neg c7, x_cif_t r]) (fun r => by rw [V1 c6, if_neg c7, x_cif_f r, if_neg c6]))
end RW
