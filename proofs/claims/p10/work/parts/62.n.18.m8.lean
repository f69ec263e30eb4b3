/-! matching, reference: a walk from its beginning, the search -/
/-- what way answers -/
def y_WY (tx : Int32 → Int32) (n : Int32) (kd gp : Int32 → Int32) (tk : Int32 → Int32 → Int32) (sr : Int32 → Int32) (fr to ae ab g st k1 k2 : Int32) (v0 : Nat) (r : Int32 × z_H) : Prop := (¬ (ab = 0 ∨ st ≤ 0) ∧ r.1 = -1 ∧ vI r.2 v0 55 = 0) ∨ ((ab = 0 ∨ st ≤ 0) ∧ y_WR v0 n g ae (x_v tx n kd gp tk sr to k1 k2 (x_ct fr to) fr st 0 x_mi x_mi) r)
section RY
variable {L : q_L} {π : Nat → Nat → Option Nat} {N v0 : Nat} {q : Int32} {h0 : z_H} {tx : Int32 → Int32} {n : Int32} {km gp : Int32 → Int32} {tk : Int32 → Int32 → Int32} {sr : Int32 → Int32} {fr s1 s2 to ae ab g k1 k2 st : Int32}
theorem y_way72 (M : q_M L π v0) (n0 : 0 ≤ n) (n1 : n ≤ 1000) (K1 : 0 ≤ k1 ∧ k1 ≤ 1000) (K2 : 0 ≤ k2 ∧ k2 ≤ 1000) (to0 : 0 ≤ to) (fr0 : 0 ≤ fr) (hfr : vA h0 (v0 + 23) q = fr) (WF : x_wf (r_kd km) gp (x_ct fr to) fr 0 0) (OC : x_oc (r_kd km) (x_ct fr to) fr 0 0 = (g, g)) (st0 : 0 ≤ st) (stn : st ≤ n) {h : z_H} (E : y_E L π v0 q h0 tx n km gp tk sr to ae h) (z55 : vI h v0 55 = 0) : qi (f_Mod_way_72 N v0 q k1 k2 st 0 h) (fun r => y_E L π v0 q h0 tx n km gp tk sr to ae r.2 ∧ y_WR v0 n g ae (x_v tx n (r_kd km) gp tk sr to k1 k2 (x_ct fr to) fr st 0 x_mi x_mi) r) := by
  unfold f_Mod_way_72
  refine l_gR E.1 (d_Mo_28 M) (l_aI (e := fr) (fun _ => by rw [x_vA_c (E.2.1 (v0 + 23) (by omega) (by omega) (by omega)), hfr]) (fun _ => ?_))
  exact y_80 (N := N) M n0 n1 K1 K2 to0 N fr st 0 0 0 x_mi x_mi h E z55 fr0 WF OC ⟨⟨st0, stn⟩, fun j a b => absurd (Int32.le_trans a b) (by decide), fun j a b => absurd (Int32.le_trans a b) (by decide)⟩ x_ag0 x_ag0
set_option maxHeartbeats 2000000 in
theorem y_way37 (M : q_M L π v0) (n0 : 0 ≤ n) (n1 : n ≤ 1000) (K1 : 0 ≤ k1 ∧ k1 ≤ 1000) (K2 : 0 ≤ k2 ∧ k2 ≤ 1000) (to0 : 0 ≤ to) (fr0 : 0 ≤ fr) (hfr : vA h0 (v0 + 23) q = fr) (hab : vA h0 (v0 + 30) q = ab) (WF : x_wf (r_kd km) gp (x_ct fr to) fr 0 0) (OC : x_oc (r_kd km) (x_ct fr to) fr 0 0 = (g, g)) (st0 : 0 ≤ st) (stn : st ≤ n) : ∀ (m : Nat) (v7 : Int32) (h : z_H), y_E L π v0 q h0 tx n km gp tk sr to ae h → vI h v0 55 = 0 → qi (f_Mod_way_37 N m v0 q st k1 k2 st 0 v7 h) (fun r => y_E L π v0 q h0 tx n km gp tk sr to ae r.2 ∧ y_WY tx n (r_kd km) gp tk sr fr to ae ab g st k1 k2 v0 r) := by
  intro m
  induction m with
  | zero => intro v7 h E z55 r e; rw [f_Mod_way_37] at e; cases e
  | succ m ih =>
    intro v7 h E z55
    have T := E.1
    have W : (ab = 0 ∨ st ≤ 0) → qi (f_Mod_way_72 N v0 q k1 k2 st 0 h) (fun r => y_E L π v0 q h0 tx n km gp tk sr to ae r.2 ∧ y_WY tx n (r_kd km) gp tk sr fr to ae ab g st k1 k2 v0 r) := fun c => qi_mono (y_way72 (N := N) M n0 n1 K1 K2 to0 fr0 hfr WF OC st0 stn E z55) (fun r z => ⟨z.1, Or.inr ⟨c, z.2⟩⟩)
    rw [f_Mod_way_37]
    refine qi_if (fun c => ?_) (fun c => ?_)
    · refine l_gR T (d_Mo_35 M) (l_aI (e := ab) (fun _ => by rw [x_vA_c (E.2.1 (v0 + 30) (by omega) (by omega) (by omega)), hab]) (fun _ => ?_))
      refine qi_if (fun c1 => W (Or.inl c1)) (fun c1 => ?_)
      refine qi_if (fun c2 => W (Or.inr c2)) (fun c2 => ?_)
      exact qi_some ⟨E, Or.inl ⟨fun z => z.elim c1 c2, rfl, z55⟩⟩
    · refine l_gR T (d_Mo_53 M) (l_uIc T ?_)
      intro h1 T1 j1 cc u1
      exact qi_bs (ih (v7 + 1) h1 (y_E_f M E T1 (fun a a1 a2 a3 => cc a a3) (fun k _ => x_vI_c (cc v0 (by omega)))) (by rw [x_vI_c (cc v0 (by omega)), z55]))
set_option maxHeartbeats 2000000 in
theorem y_way14 (M : q_M L π v0) (n0 : 0 ≤ n) (n1 : n ≤ 1000) (K1 : 0 ≤ k1 ∧ k1 ≤ 1000) (K2 : 0 ≤ k2 ∧ k2 ≤ 1000) (to0 : 0 ≤ to) (fr0 : 0 ≤ fr) (hfr : vA h0 (v0 + 23) q = fr) (hab : vA h0 (v0 + 30) q = ab) (WF : x_wf (r_kd km) gp (x_ct fr to) fr 0 0) (OC : x_oc (r_kd km) (x_ct fr to) fr 0 0 = (g, g)) (st0 : 0 ≤ st) (stn : st ≤ n) : ∀ (m : Nat) (v7 : Int32) (h : z_H), y_E L π v0 q h0 tx n km gp tk sr to ae h → vI h v0 55 = 0 → qi (f_Mod_way_14 N m v0 q st k1 k2 st 0 v7 h) (fun r => y_E L π v0 q h0 tx n km gp tk sr to ae r.2 ∧ y_WY tx n (r_kd km) gp tk sr fr to ae ab g st k1 k2 v0 r) := by
  intro m
  induction m with
  | zero => intro v7 h E z55 r e; rw [f_Mod_way_14] at e; cases e
  | succ m ih =>
    intro v7 h E z55
    have T := E.1
    rw [f_Mod_way_14]
    refine qi_if (fun c => ?_) (fun c => ?_)
    · exact y_way37 (N := N) M n0 n1 K1 K2 to0 fr0 hfr hab WF OC st0 stn N 1 h E z55
    · refine l_gR T (d_Mo_52 M) (l_uIc T ?_)
      intro h1 T1 j1 cc u1
      exact qi_bs (ih (v7 + 1) h1 (y_E_f M E T1 (fun a a1 a2 a3 => cc a a2) (fun k _ => x_vI_c (cc v0 (by omega)))) (by rw [x_vI_c (cc v0 (by omega)), z55]))
theorem y_way (M : q_M L π v0) (n0 : 0 ≤ n) (n1 : n ≤ 1000) (K1 : 0 ≤ k1 ∧ k1 ≤ 1000) (K2 : 0 ≤ k2 ∧ k2 ≤ 1000) (to0 : 0 ≤ to) (fr0 : 0 ≤ fr) (hfr : vA h0 (v0 + 23) q = fr) (hab : vA h0 (v0 + 30) q = ab) (WF : x_wf (r_kd km) gp (x_ct fr to) fr 0 0) (OC : x_oc (r_kd km) (x_ct fr to) fr 0 0 = (g, g)) (st0 : 0 ≤ st) (stn : st ≤ n) {h : z_H} (E : y_E L π v0 q h0 tx n km gp tk sr to ae h) : qi (f_Mod_way N v0 q st k1 k2 h) (fun r => y_E L π v0 q h0 tx n km gp tk sr to ae r.2 ∧ y_WY tx n (r_kd km) gp tk sr fr to ae ab g st k1 k2 v0 r) := by
  unfold f_Mod_way
  refine l_sIc E.1 M.1 (by decide) rfl ?_
  intro h1 T1 c1 u1
  exact y_way14 (N := N) M n0 n1 K1 K2 to0 fr0 hfr hab WF OC st0 stn N 1 h1 (y_E_f M E T1 (fun a a1 _ _ => c1 a a1) (fun k hk => by rw [u1 k, if_neg hk])) (by rw [u1 55, if_pos rfl])
/-- the best way so far -/
def r_I (C : Int32 → Int32 → Int32 → (Int32 → Int32) → (Int32 → Int32) → Prop) (V : Int32 → Int32 → Prop) (E b1 b2 : Int32) : Prop :=
  (E = -1 ∧ ∀ a b e gb ge, 0 ≤ a → 0 ≤ b → V a b → ¬ C a b e gb ge) ∨ ((0 ≤ b1 ∧ 0 ≤ b2 ∧ V b1 b2 ∧ ∃ gb ge, C b1 b2 E gb ge) ∧ 0 ≤ E ∧ ∀ a' b' e' gb' ge', 0 ≤ a' → 0 ≤ b' → V a' b' → C a' b' e' gb' ge' → e' < E ∨ (e' = E ∧ (a' < b1 ∨ (a' = b1 ∧ b' ≤ b2))))
theorem r_I_ext {C : Int32 → Int32 → Int32 → (Int32 → Int32) → (Int32 → Int32) → Prop} {V V' : Int32 → Int32 → Prop} {E b1 b2 : Int32} (I : r_I C V E b1 b2) (w : ∀ a b, V a b → V' a b) (H : ∀ a b e gb ge, 0 ≤ a → 0 ≤ b → V' a b → C a b e gb ge → V a b) : r_I C V' E b1 b2 := by
  rcases I with ⟨i1, i2⟩ | ⟨⟨j1, j2, j3, gb, ge, j4⟩, i1, i6⟩
  · exact Or.inl ⟨i1, fun a b e gb ge a0 b0 v c => i2 a b e gb ge a0 b0 (H a b e gb ge a0 b0 v c) c⟩
  · exact Or.inr ⟨⟨j1, j2, w _ _ j3, gb, ge, j4⟩, i1, fun a' b' e' gb' ge' a0 b0 v c => i6 a' b' e' gb' ge' a0 b0 (H a' b' e' gb' ge' a0 b0 v c) c⟩
theorem r_I_new {C : Int32 → Int32 → Int32 → (Int32 → Int32) → (Int32 → Int32) → Prop} {V V' : Int32 → Int32 → Prop} {E b1 b2 y : Int32} {gb ge : Int32 → Int32} (I : r_I C V E b1 b2) (v : ∀ a b, V' a b → V a b ∨ (a = k1 ∧ b = k2)) (w : V' k1 k2) (lx : ∀ a b, V a b → a < k1 ∨ (a = k1 ∧ b ≤ k2)) (c : C k1 k2 y gb ge) (k0 : 0 ≤ k1) (k0' : 0 ≤ k2) (y0 : 0 ≤ y) (fn : ∀ e' gb' ge', C k1 k2 e' gb' ge' → e' = y) (gy : E ≤ y) : r_I C V' y k1 k2 := by
  refine Or.inr ⟨⟨k0, k0', w, gb, ge, c⟩, y0, ?_⟩
  intro a' b' e' gb' ge' a0 b0 vv cc
  rcases v a' b' vv with v1 | ⟨ea, eb⟩
  · have le : e' ≤ y := by
      rcases I with ⟨i1, i2⟩ | ⟨_, i1, i6⟩
      · exact absurd cc (i2 a' b' e' gb' ge' a0 b0 v1)
      · rcases i6 a' b' e' gb' ge' a0 b0 v1 cc with q | q
        · exact Int32.le_of_lt (Int32.lt_of_lt_of_le q gy)
        · rw [q.1]; exact gy
    by_cases z : e' = y
    · exact Or.inr ⟨z, lx a' b' v1⟩
    · exact Or.inl (by lia)
  · subst ea; subst eb
    exact Or.inr ⟨fn _ _ _ cc, Or.inr ⟨rfl, Int32.le_refl _⟩⟩
theorem r_I_low {C : Int32 → Int32 → Int32 → (Int32 → Int32) → (Int32 → Int32) → Prop} {V V' : Int32 → Int32 → Prop} {E b1 b2 y : Int32} (I : r_I C V E b1 b2) (v : ∀ a b, V' a b → V a b ∨ (a = k1 ∧ b = k2)) (w : ∀ a b, V a b → V' a b) (y0 : 0 ≤ y) (fn : ∀ e' gb' ge', C k1 k2 e' gb' ge' → e' = y) (gy : y < E) : r_I C V' E b1 b2 := by
  rcases I with ⟨i1, i2⟩ | ⟨⟨j1, j2, j3, gb, ge, j4⟩, i1, i6⟩
  · rw [i1] at gy
    exact absurd (Int32.lt_of_le_of_lt y0 gy) (by decide)
  · refine Or.inr ⟨⟨j1, j2, w _ _ j3, gb, ge, j4⟩, i1, ?_⟩
    intro a' b' e' gb' ge' a0 b0 vv cc
    rcases v a' b' vv with v1 | ⟨ea, eb⟩
    · exact i6 a' b' e' gb' ge' a0 b0 v1 cc
    · subst ea; subst eb
      rw [fn _ _ _ cc]
      exact Or.inl gy
theorem x_rr_b {s p a : Int32} (r : x_rr tx n tk s to p a) (n0 : 0 ≤ n) (n1 : n ≤ 1000) : a ≤ n ∧ (0 < a → s < to) := by
  refine ⟨Int32.not_lt.mp fun c => ?_, fun c => (r 0 (by decide) c).1⟩
  have w0 := r 0 (by decide) (Int32.lt_of_le_of_lt n0 c)
  have w := r n n0 c
  rw [Int32.add_zero] at w0
  have z1 := w0.2.1
  have z2 := w0.2.2.1
  have z3 := w.2.2.1
  lia
theorem x_pth_b {kd : Int32 → Int32} {a b e : Int32} {gb0 ge0 gb ge : Int32 → Int32} (P : x_pth tx n kd gp tk fr s1 s2 to gb0 ge0 st a b e gb ge) (n0 : 0 ≤ n) (n1 : n ≤ 1000) : (a ≤ n ∧ (0 < a → s1 < to)) ∧ (b ≤ n ∧ (0 < b → s2 < to)) := by
  obtain ⟨p1, c1, d1, p2, c2, d2, m1, r1, m2, r2, m3⟩ := P
  exact ⟨x_rr_b r1 n0 n1, x_rr_b r2 n0 n1⟩
theorem x_ifc {P Q : Prop} [Decidable P] [Decidable Q] {a b : Int32} (h : P ↔ Q) : (if P then a else b) = (if Q then a else b) := by
  by_cases p : P
  · rw [if_pos p, if_pos (h.mp p)]
  · rw [if_neg p, if_neg (fun z => p (h.mpr z))]
/-- how many stars -/
theorem y_so9 (M : q_M L π v0) (S : x_sx (r_kd km) sr fr s1 s2 to) : ∀ (m : Nat) (c i : Int32) (h : z_H), y_E L π v0 q h0 tx n km gp tk sr to ae h → fr ≤ i → i ≤ to → c = (if s1 < i then 1 else 0) + (if s2 < i then 1 else 0) → qi (f_Mod_starsOf_9 N m v0 q c i h) (fun r => r.2 = h ∧ r.1 = (if s1 < to then 1 else 0) + (if s2 < to then 1 else 0)) := by
  intro m
  induction m with
  | zero => intro c i h E i0 i1 ec r e; rw [f_Mod_starsOf_9] at e; cases e
  | succ m ih =>
    intro c i h E i0 i1 ec
    have E' := E
    obtain ⟨T, f0, ii0, ⟨q1, q2, q3, q4, q5, q6⟩, r1, r2⟩ := E'
    obtain ⟨⟨a0, a1, a2, a3, a4⟩, hs, H, h1, h2⟩ := S
    rw [f_Mod_starsOf_9]
    refine l_gR T (d_Mo_29 M) (l_aI (e := to) (fun _ => r1) (fun _ => ?_))
    refine qi_if (fun c1 => ?_) (fun c1 => ?_)
    · have e : i = to := Int32.le_antisymm i1 c1
      rw [e] at ec
      exact qi_some ⟨rfl, ec⟩
    · have cl := Int32.not_le.mp c1
      refine l_gR T (d_Mo_34 M) (l_aI (e := sr i) (fun _ => by rw [q6]) (fun _ => ?_))
      refine qi_if (fun c2 => ?_) (fun c2 => ?_)
      · have n1' : ¬ i = s1 := fun z => (h1 (z ▸ cl)).2 (z ▸ c2)
        have n2' : ¬ i = s2 := fun z => (h2 (z ▸ cl)).2 (z ▸ c2)
        refine qi_bs (ih c (i + 1) h E (by lia) (by lia) ?_)
        rw [ec, x_ifc (show s1 < i ↔ s1 < i + 1 from by constructor <;> intro _ <;> lia), x_ifc (show s2 < i ↔ s2 < i + 1 from by constructor <;> intro _ <;> lia)]
      · refine qi_bs (qi_bs (ih (c + 1) (i + 1) h E (by lia) (by lia) ?_))
        by_cases z : i = s1
        · have y1 : ¬ s1 < i := by lia
          have y2 : s1 < i + 1 := by lia
          have y3 : ¬ s2 < i := by lia
          have y4 : ¬ s2 < i + 1 := by
            rcases hs with hs | hs <;> lia
          rw [ec, if_neg y1, if_pos y2, if_neg y3, if_neg y4]; rfl
        · have z2 : i = s2 := by
            refine Classical.byContradiction fun w => c2 (H i i0 cl z w)
          have y1 : s1 < i := by
            rcases hs with hs | hs <;> lia
          have y2 : s1 < i + 1 := by lia
          have y3 : ¬ s2 < i := by lia
          have y4 : s2 < i + 1 := by lia
          rw [ec, if_pos y1, if_pos y2, if_neg y3, if_pos y4]; rfl
end RY
