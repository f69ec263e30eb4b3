/-! matching, reference: the loops of find -/
/-- a way of the reference that counts -/
def y_D (tx : Int32 → Int32) (n : Int32) (kd gp : Int32 → Int32) (tk : Int32 → Int32 → Int32) (fr s1 s2 to ae ab st a b e : Int32) (gb ge : Int32 → Int32) : Prop := (ab = 0 ∨ st ≤ 0) ∧ y_C tx n kd gp tk fr s1 s2 to ae x_mi x_mi st a b e gb ge
/-- what find of the reference answers -/
def y_FM (L : q_L) (π : Nat → Nat → Option Nat) (h0 : z_H) (tx : Int32 → Int32) (n : Int32) (kd gp : Int32 → Int32) (tk : Int32 → Int32 → Int32) (fr s1 s2 to g ae ab fm : Int32) (v0 : Nat) (r : Int32 × z_H) : Prop := (x_U L π r.2 ∧ (∀ a, a ≠ v0 → a ≠ v0 + 37 → a ≠ v0 + 38 → r.2 a = h0 a) ∧ (∀ k, k ≠ 55 → k ≠ 56 → k ≠ 57 → vI r.2 v0 k = vI h0 v0 k)) ∧ ((r.1 = 0 ∧ x_fno tx n kd gp tk fr s1 s2 to ae ab fm) ∨ (r.1 = 1 ∧ ∃ s a b e gb ge, x_fye tx n kd gp tk fr s1 s2 to ae ab fm s a b e gb ge ∧ 0 ≤ e ∧ vI r.2 v0 57 = e ∧ vI r.2 v0 56 = s ∧ x_ag g gb (vA r.2 (v0 + 37)) ∧ x_ag g ge (fun j => vA r.2 (v0 + 37) j + vA r.2 (v0 + 38) j)))
section RL
variable {L : q_L} {π : Nat → Nat → Option Nat} {N v0 : Nat} {q : Int32} {h0 : z_H} {tx : Int32 → Int32} {n : Int32} {km gp : Int32 → Int32} {tk : Int32 → Int32 → Int32} {sr : Int32 → Int32} {fr s1 s2 to ae ab g ns : Int32}
theorem r_V_n {C : Int32 → Int32 → Int32 → (Int32 → Int32) → (Int32 → Int32) → Prop} {k1 k2 E b1 b2 : Int32} (c : k1 < k1 + 1) (I : r_I C (y_V k1 k2) E b1 b2) (H : ∀ b e gb ge, k2 ≤ b → ¬ C k1 b e gb ge) : r_I C (y_V (k1 + 1) 0) E b1 b2 := by
  refine r_I_ext I (fun a b v => ?_) (fun a b e gb ge a0 b0 v cc => ?_)
  · rcases v with v | ⟨v1, v2⟩
    · exact Or.inl (Int32.lt_trans v c)
    · rw [v1]; exact Or.inl c
  · rcases v with v | ⟨v1, v2⟩
    · by_cases z : a = k1
      · subst z
        by_cases w : b < k2
        · exact Or.inr ⟨rfl, w⟩
        · exact absurd cc (H b e gb ge (Int32.not_lt.mp w))
      · exact Or.inl (by lia)
    · exact absurd (Int32.lt_of_le_of_lt b0 v2) Int32.lt_irrefl
theorem y_wc {k1 k2 st : Int32} {r : Int32 × z_H} (S : x_sx (r_kd km) sr fr s1 s2 to) (K1 : s1 = to → k1 = 0) (K2 : s2 = to → k2 = 0) (W : y_WY tx n (r_kd km) gp tk sr fr to ae ab g st k1 k2 v0 r) : ((r.1 = -1 ∧ ∀ e gb ge, ¬ y_D tx n (r_kd km) gp tk fr s1 s2 to ae ab st k1 k2 e gb ge) ∨ (0 ≤ r.1 ∧ (∀ e gb ge, y_D tx n (r_kd km) gp tk fr s1 s2 to ae ab st k1 k2 e gb ge → e = r.1) ∧ ∃ gb ge, y_D tx n (r_kd km) gp tk fr s1 s2 to ae ab st k1 k2 r.1 gb ge ∧ x_ag g gb (vA r.2 (v0 + 37)) ∧ x_ag g ge (fun j => vA r.2 (v0 + 37) j + vA r.2 (v0 + 38) j))) ∧ (vI r.2 v0 55 = 2 → ∀ b e gb ge, k2 ≤ b → ¬ y_D tx n (r_kd km) gp tk fr s1 s2 to ae ab st k1 b e gb ge) ∧ (vI r.2 v0 55 = 1 → ∀ a b e gb ge, k1 ≤ a → ¬ y_D tx n (r_kd km) gp tk fr s1 s2 to ae ab st a b e gb ge) ∧ (vI r.2 v0 55 = 0 ∨ vI r.2 v0 55 = 1 ∨ vI r.2 v0 55 = 2) := by
  rcases W with ⟨c, w1, w2⟩ | ⟨c, w1, w2⟩
  · refine ⟨Or.inl ⟨w1, fun e gb ge d => c d.1⟩, fun z => ?_, fun z => ?_, Or.inl w2⟩
    · rw [w2] at z; exact absurd z (by decide)
    · rw [w2] at z; exact absurd z (by decide)
  · have D := x_v_d (tx := tx) (n := n) (gp := gp) (tk := tk) (gb0 := x_mi) (ge0 := x_mi) (st := st) S K1 K2
    have D2 := x_vd_2 D
    rw [w1]
    refine ⟨?_, fun z b e gb ge hb d => D2.2.1 z b e gb ge hb d.2.1, fun z a b e gb ge ha d => D2.2.2.1 z a b e gb ge ha d.2.1, D2.2.2.2⟩
    rcases w2 with ⟨w2, w3⟩ | ⟨e, b', e', w2, x1, x2, x3, x4, x5⟩
    · exact Or.inl ⟨w3, fun e gb ge d => D2.1 w2 e gb ge d.2.1⟩
    · have P := (x_vd_1 D w2).2
      have fn : ∀ e1 gb ge, x_pth tx n (r_kd km) gp tk fr s1 s2 to x_mi x_mi st k1 k2 e1 gb ge → e1 = e := by
        intro e1 gb ge P1
        obtain ⟨p1, c1, d1, p2, c2, d2, m1, t1, m2, t2, m3⟩ := P
        have z := (x_pth_2 m1 m2 P1).2
        rw [m3] at z
        cases z
        rfl
      rcases x5 with ⟨x5, x6⟩ | ⟨x5, x6⟩
      · rw [x6]
        exact Or.inr ⟨x3, fun e1 gb ge d => fn e1 gb ge d.2.1, b', e', ⟨c, P, x5⟩, x1, x2⟩
      · refine Or.inl ⟨x6, fun e1 gb ge d => x5 ?_⟩
        have z := fn e1 gb ge d.2.1
        rw [← z]
        exact d.2.2
set_option maxHeartbeats 4000000 in
theorem y_61 (M : q_M L π v0) (n0 : 0 ≤ n) (n1 : n ≤ 1000) (S : x_sx (r_kd km) sr fr s1 s2 to) (hfr : vA h0 (v0 + 23) q = fr) (hab : vA h0 (v0 + 30) q = ab) (WF : x_wf (r_kd km) gp (x_ct fr to) fr 0 0) (OC : x_oc (r_kd km) (x_ct fr to) fr 0 0 = (g, g)) (NS1 : ns ≤ 0 ↔ s1 = to) (NS2 : ns ≤ 1 ↔ s2 = to) {k9 : Nat → Int32 → Int32 → Int32 → z_H → Option (Int32 × z_H)} {k33 : Nat → Int32 → Int32 → Int32 → Int32 → Int32 → Int32 → Int32 → Int32 → z_H → Option (Int32 × z_H)} {Q : Int32 × z_H → Prop} {st k1 : Int32} (st0 : 0 ≤ st) (stn : st ≤ n) (K1 : 0 ≤ k1) (K1n : k1 ≤ n) (K1s : s1 = to → k1 = 0) (K33 : ∀ (h' : z_H) (best b1 b2 v8 : Int32), y_E L π v0 q h0 tx n km gp tk sr to ae h' → r_I (y_D tx n (r_kd km) gp tk fr s1 s2 to ae ab st) (y_V (k1 + 1) 0) best b1 b2 → (v8 = 1 ∨ (v8 = 0 ∧ ∀ a b e gb ge, k1 + 1 ≤ a → ¬ y_D tx n (r_kd km) gp tk fr s1 s2 to ae ab st a b e gb ge)) → qi (k33 v0 q ns st best b1 b2 v8 (k1 + 1) h') Q) : ∀ (m : Nat) (k2 best b1 b2 v8 v10 : Int32) (h : z_H), y_E L π v0 q h0 tx n km gp tk sr to ae h → 0 ≤ k2 → k2 ≤ 1001 → r_I (y_D tx n (r_kd km) gp tk fr s1 s2 to ae ab st) (y_V k1 k2) best b1 b2 → (v10 = 1 ∨ (v10 = 0 ∧ ∀ b e gb ge, k2 ≤ b → ¬ y_D tx n (r_kd km) gp tk fr s1 s2 to ae ab st k1 b e gb ge)) → (v8 = 1 ∨ (v8 = 0 ∧ ∀ a b e gb ge, k1 ≤ a → ¬ y_D tx n (r_kd km) gp tk fr s1 s2 to ae ab st a b e gb ge)) → qi (f_Mod_find_61 N k9 k33 m v0 q ns st best b1 b2 v8 k1 v10 k2 h) Q := by
  have kk1 : k1 < k1 + 1 := by lia
  have K1' : 0 ≤ k1 ∧ k1 ≤ 1000 := ⟨K1, Int32.le_trans K1n n1⟩
  have S' := S
  obtain ⟨⟨a0, a1, a2, a3, a4⟩, -⟩ := S'
  intro m
  induction m with
  | zero => intro k2 best b1 b2 v8 v10 h E k20 k2n I h10 h8 r e; rw [f_Mod_find_61] at e; cases e
  | succ m ih =>
    intro k2 best b1 b2 v8 v10 h E k20 k2n I h10 h8
    have T := E.1
    have kk2 : k2 < k2 + 1 := by lia
    have NX : (∀ b e gb ge, k2 ≤ b → ¬ y_D tx n (r_kd km) gp tk fr s1 s2 to ae ab st k1 b e gb ge) → qi (k33 v0 q ns st best b1 b2 v8 (k1 + 1) h) Q := fun H => K33 h best b1 b2 v8 E (r_V_n kk1 I H) (h8.imp id (fun z => ⟨z.1, fun a b e gb ge ha => z.2 a b e gb ge (Int32.le_trans (Int32.le_of_lt kk1) ha)⟩))
    have J : ∀ bd : Int32, (bd < k2 → ∀ b e gb ge, k2 ≤ b → ¬ y_D tx n (r_kd km) gp tk fr s1 s2 to ae ab st k1 b e gb ge) → (k2 ≤ bd → k2 ≤ n ∧ (s2 = to → k2 = 0)) → qi (f_Mod_find_76 N k9 k33 (f_Mod_find_61 N k9 k33 m) v0 q ns st best b1 b2 v8 k1 v10 k2 k2 bd h) Q := by
      intro bd B1 B2
      unfold f_Mod_find_76
      refine qi_if (fun c => qi_bs (NX (B1 c))) (fun c => ?_)
      refine qi_if (fun c1 => ?_) (fun c1 => ?_)
      · refine qi_bs (NX ?_)
        rcases h10 with z | z
        · rw [c1] at z; exact absurd z (by decide)
        · exact z.2
      · have e10 : v10 = 1 := by
          rcases h10 with z | z
          · exact z
          · exact absurd z.1 c1
        obtain ⟨B3, B4⟩ := B2 (Int32.not_lt.mp c)
        refine l_gO (qi_b (y_way (N := N) (k1 := k1) (k2 := k2) M n0 n1 K1' ⟨k20, Int32.le_trans B3 n1⟩ (by lia) a0 hfr hab WF OC st0 stn E) ?_)
        rintro ⟨y, h1⟩ ⟨E1, W⟩
        obtain ⟨w1, w2, w3, w4⟩ := y_wc S K1s B4 W
        dsimp only at E1 w1 w2 w3 w4 ⊢
        have X : ∀ best b1 b2 : Int32, r_I (y_D tx n (r_kd km) gp tk fr s1 s2 to ae ab st) (y_V k1 (k2 + 1)) best b1 b2 → qi (f_Mod_find_121 N k9 k33 (f_Mod_find_61 N k9 k33 m) v0 q ns st best b1 b2 v8 k1 v10 k2 h1) Q := by
          intro best b1 b2 I'
          have Y : ∀ v10' : Int32, (v10' = 1 ∨ (v10' = 0 ∧ ∀ b e gb ge, k2 + 1 ≤ b → ¬ y_D tx n (r_kd km) gp tk fr s1 s2 to ae ab st k1 b e gb ge)) → qi (f_Mod_find_131 N k9 k33 (f_Mod_find_61 N k9 k33 m) v0 q ns st best b1 b2 v8 k1 v10' k2 h1) Q := by
            intro v10' hv
            unfold f_Mod_find_131
            refine l_gI (e := vI h1 v0 55) rfl ?_
            refine qi_if (fun c5 => ?_) (fun c5 => ?_)
            · exact qi_bs (ih (k2 + 1) best b1 b2 0 v10' h1 E1 (by lia) (by lia) I' hv (Or.inr ⟨rfl, w3 c5⟩))
            · exact qi_bs (ih (k2 + 1) best b1 b2 v8 v10' h1 E1 (by lia) (by lia) I' hv h8)
          unfold f_Mod_find_121
          refine l_gI (e := vI h1 v0 55) rfl ?_
          refine qi_if (fun c4 => ?_) (fun c4 => ?_)
          · exact Y v10 (Or.inl e10)
          · refine Y 0 (Or.inr ⟨rfl, ?_⟩)
            rcases w4 with z | z | z
            · rw [z] at c4; exact absurd (by decide : (0 : Int32) ≤ 0) c4
            · exact fun b e gb ge _ => w3 z k1 b e gb ge (Int32.le_refl _)
            · exact fun b e gb ge hb => w2 z b e gb ge (Int32.le_trans (Int32.le_of_lt kk2) hb)
        refine qi_bs ?_
        rcases w1 with ⟨y1, y2⟩ | ⟨y1, y2, gb, ge, y3, _⟩
        · have I' : r_I (y_D tx n (r_kd km) gp tk fr s1 s2 to ae ab st) (y_V k1 (k2 + 1)) best b1 b2 := by
            refine r_I_ext I (fun a b v => y_V_b kk2 v) (fun a b e gb ge a0 b0 v cc => ?_)
            rcases y_V_a kk2 v with v | ⟨ea, eb⟩
            · exact v
            · subst ea; subst eb
              exact absurd cc (y2 e gb ge)
          refine qi_if (fun _ => X best b1 b2 I') (fun _ => ?_)
          refine qi_if (fun _ => X best b1 b2 I') (fun z => ?_)
          rw [y1] at z
          exact absurd (by decide : (-1 : Int32) < 0) z
        · refine qi_if (fun c3 => ?_) (fun c3 => ?_)
          · exact X best b1 b2 (r_I_low I (fun a b v => y_V_a kk2 v) (fun a b v => y_V_b kk2 v) y1 y2 c3)
          · refine qi_if (fun z => absurd (Int32.lt_of_le_of_lt y1 z) Int32.lt_irrefl) (fun _ => ?_)
            exact X y k1 k2 (r_I_new I (fun a b v => y_V_a kk2 v) (Or.inr ⟨rfl, kk2⟩) (fun a b v => y_V_c v) y3 K1 k20 y1 y2 (Int32.not_lt.mp c3))
    rw [f_Mod_find_61]
    refine qi_if (fun c => ?_) (fun c => ?_)
    · refine J 0 (fun z b e gb ge hb d => ?_) (fun z => ⟨Int32.le_trans z n0, fun _ => Int32.le_antisymm z k20⟩)
      have w := (x_pth_b d.2.1 n0 n1).2.2 (Int32.lt_of_lt_of_le z hb)
      rw [NS2.mp c] at w
      exact absurd w Int32.lt_irrefl
    · refine l_gI (e := n) E.2.2.2.1.2.1 ?_
      refine J n (fun z b e gb ge hb d => ?_) (fun z => ⟨z, fun w => absurd (NS2.mpr w) c⟩)
      have w := (x_pth_b d.2.1 n0 n1).2.1
      exact absurd (Int32.lt_of_lt_of_le z (Int32.le_trans hb w)) Int32.lt_irrefl
set_option maxHeartbeats 4000000 in
theorem y_33 (M : q_M L π v0) (n0 : 0 ≤ n) (n1 : n ≤ 1000) (S : x_sx (r_kd km) sr fr s1 s2 to) (hfr : vA h0 (v0 + 23) q = fr) (hab : vA h0 (v0 + 30) q = ab) (WF : x_wf (r_kd km) gp (x_ct fr to) fr 0 0) (OC : x_oc (r_kd km) (x_ct fr to) fr 0 0 = (g, g)) (NS1 : ns ≤ 0 ↔ s1 = to) (NS2 : ns ≤ 1 ↔ s2 = to) {k9 : Nat → Int32 → Int32 → Int32 → z_H → Option (Int32 × z_H)} {Q : Int32 × z_H → Prop} {st : Int32} (st0 : 0 ≤ st) (stn : st ≤ n) (K154 : ∀ (h' : z_H) (best b1 b2 : Int32), y_E L π v0 q h0 tx n km gp tk sr to ae h' → r_I (y_D tx n (r_kd km) gp tk fr s1 s2 to ae ab st) (fun _ _ => True) best b1 b2 → qi (f_Mod_find_154 N k9 v0 q ns st best b1 b2 h') Q) : ∀ (m : Nat) (k1 best b1 b2 v8 : Int32) (h : z_H), y_E L π v0 q h0 tx n km gp tk sr to ae h → 0 ≤ k1 → k1 ≤ 1001 → r_I (y_D tx n (r_kd km) gp tk fr s1 s2 to ae ab st) (y_V k1 0) best b1 b2 → (v8 = 1 ∨ (v8 = 0 ∧ ∀ a b e gb ge, k1 ≤ a → ¬ y_D tx n (r_kd km) gp tk fr s1 s2 to ae ab st a b e gb ge)) → qi (f_Mod_find_33 N k9 m v0 q ns st best b1 b2 v8 k1 h) Q := by
  intro m
  induction m with
  | zero => intro k1 best b1 b2 v8 h E k10 k1n I h8 r e; rw [f_Mod_find_33] at e; cases e
  | succ m ih =>
    intro k1 best b1 b2 v8 h E k10 k1n I h8
    have X : (∀ a b e gb ge, k1 ≤ a → ¬ y_D tx n (r_kd km) gp tk fr s1 s2 to ae ab st a b e gb ge) → qi (f_Mod_find_154 N k9 v0 q ns st best b1 b2 h) Q := by
      intro H
      refine K154 h best b1 b2 E (r_I_ext I (fun _ _ _ => trivial) (fun a b e gb ge a0 b0 _ cc => ?_))
      by_cases w : a < k1
      · exact Or.inl w
      · exact absurd cc (H a b e gb ge (Int32.not_lt.mp w))
    have J : ∀ bd : Int32, (bd < k1 → ∀ a b e gb ge, k1 ≤ a → ¬ y_D tx n (r_kd km) gp tk fr s1 s2 to ae ab st a b e gb ge) → (k1 ≤ bd → k1 ≤ n ∧ (s1 = to → k1 = 0)) → qi (f_Mod_find_47 N k9 (f_Mod_find_33 N k9 m) v0 q ns st best b1 b2 v8 k1 k1 bd h) Q := by
      intro bd B1 B2
      unfold f_Mod_find_47
      refine qi_if (fun c => X (B1 c)) (fun c => ?_)
      refine qi_if (fun c1 => ?_) (fun c1 => ?_)
      · refine X ?_
        rcases h8 with z | z
        · rw [c1] at z; exact absurd z (by decide)
        · exact z.2
      · obtain ⟨B3, B4⟩ := B2 (Int32.not_lt.mp c)
        exact y_61 (N := N) M n0 n1 S hfr hab WF OC NS1 NS2 st0 stn k10 B3 B4 (fun h' best b1 b2 v8 E' I' h8' => ih (k1 + 1) best b1 b2 v8 h' E' (by lia) (by lia) I' h8') N 0 best b1 b2 v8 1 h E (by decide) (by decide) I (Or.inl rfl) h8
    rw [f_Mod_find_33]
    refine qi_if (fun c => ?_) (fun c => ?_)
    · refine J 0 (fun z a b e gb ge ha d => ?_) (fun z => ⟨Int32.le_trans z n0, fun _ => Int32.le_antisymm z k10⟩)
      have w := (x_pth_b d.2.1 n0 n1).1.2 (Int32.lt_of_lt_of_le z ha)
      rw [NS1.mp c] at w
      exact absurd w Int32.lt_irrefl
    · refine l_gI (e := n) E.2.2.2.1.2.1 ?_
      refine J n (fun z a b e gb ge ha d => ?_) (fun z => ⟨z, fun w => absurd (NS1.mpr w) c⟩)
      have w := (x_pth_b d.2.1 n0 n1).1.1
      exact absurd (Int32.lt_of_lt_of_le z (Int32.le_trans ha w)) Int32.lt_irrefl
set_option maxHeartbeats 4000000 in
theorem y_f9 (M : q_M L π v0) (n0 : 0 ≤ n) (n1 : n ≤ 1000) (S : x_sx (r_kd km) sr fr s1 s2 to) (hfr : vA h0 (v0 + 23) q = fr) (hab : vA h0 (v0 + 30) q = ab) (WF : x_wf (r_kd km) gp (x_ct fr to) fr 0 0) (OC : x_oc (r_kd km) (x_ct fr to) fr 0 0 = (g, g)) (NS1 : ns ≤ 0 ↔ s1 = to) (NS2 : ns ≤ 1 ↔ s2 = to) : ∀ (m : Nat) (st : Int32) (h : z_H), y_E L π v0 q h0 tx n km gp tk sr to ae h → 0 ≤ st → qi (f_Mod_find_9 N m v0 q ns st h) (y_FM L π h0 tx n (r_kd km) gp tk fr s1 s2 to g ae ab st v0) := by
  have S' := S
  obtain ⟨⟨a0, a1, a2, a3, a4⟩, -⟩ := S'
  intro m
  induction m with
  | zero => intro st h E st0 r e; rw [f_Mod_find_9] at e; cases e
  | succ m ih =>
    intro st h E st0
    rw [f_Mod_find_9]
    refine l_gI (e := n) E.2.2.2.1.2.1 ?_
    refine qi_if (fun c => ?_) (fun c => ?_)
    · exact qi_some ⟨⟨E.1, E.2.1, fun k k1 _ _ => E.2.2.1 k k1⟩, Or.inl ⟨rfl, fun s x1 x2 _ => absurd (Int32.lt_of_lt_of_le c (Int32.le_trans x1 x2)) Int32.lt_irrefl⟩⟩
    · have stn := Int32.not_lt.mp c
      refine qi_bs (y_33 (N := N) M n0 n1 S hfr hab WF OC NS1 NS2 st0 stn ?_ N 0 (-1) 0 0 1 h E (by decide) (by decide) (Or.inl ⟨rfl, fun a b e gb ge x0 y0 v => ?_⟩) (Or.inl rfl))
      · intro h1 best b1 b2 E1 I1
        have T1 := E1.1
        unfold f_Mod_find_154
        rcases I1 with ⟨i1, i2⟩ | ⟨⟨j1, j2, _, gb, ge, j4⟩, i1, i6⟩
        · refine qi_if (fun z => ?_) (fun _ => ?_)
          · rw [i1] at z; exact absurd z (by decide)
          · refine qi_bs (qi_mono (ih (st + 1) h1 E1 (by lia)) ?_)
            have MS : ∀ s, st ≤ s → (st + 1 ≤ s → x_mis tx n (r_kd km) gp tk fr s1 s2 to ae s) → (ab = 0 ∨ s ≤ 0) → x_mis tx n (r_kd km) gp tk fr s1 s2 to ae s := by
              intro s x1 x2 x3
              by_cases w : s = st
              · subst w
                exact fun a b e gb ge y0 y1 cc => i2 a b e gb ge y0 y1 trivial ⟨x3, cc⟩
              · exact x2 (by lia)
            rintro r ⟨F, ⟨t1, t2⟩ | ⟨t1, s, a, b, e, gb, ge, ⟨⟨t2, t3, t4⟩, t5, t6⟩, t7⟩⟩
            · exact ⟨F, Or.inl ⟨t1, fun s x1 x2 x3 => MS s x1 (fun z => t2 s z x2 x3) x3⟩⟩
            · refine ⟨F, Or.inr ⟨t1, s, a, b, e, gb, ge, ⟨⟨by lia, t3, t4⟩, fun s' x1 x2 => MS s' x1 (fun z => t5 s' z x2) ?_, t6⟩, t7⟩⟩
              exact t4.imp id (fun z => Int32.le_trans (Int32.le_of_lt x2) z)
        · refine qi_if (fun _ => ?_) (fun z => absurd i1 z)
          refine l_sIc T1 M.1 (by decide) rfl ?_
          intro h2 T2 c2 u2
          have E2 : y_E L π v0 q h2 tx n km gp tk sr to ae h2 := by
            obtain ⟨_, f0, ii0, ⟨q1, q2, q3, q4, q5, q6⟩, r1, r2⟩ := E1
            refine ⟨T2, fun _ _ _ _ => rfl, fun _ _ => rfl, ⟨?_, ?_, ?_, ?_, ?_, ?_⟩, ?_, ?_⟩
            · rw [x_vA_c (c2 (v0 + 36) (by omega)), q1]
            · rw [u2 54, if_neg (by decide), q2]
            · rw [x_vA_c (c2 (v0 + 26) (by omega)), q3]
            · rw [x_vA_c (c2 (v0 + 27) (by omega)), q4]
            · rw [x_tf_c M T1 T2 (c2 (v0 + 26) (by omega)) (c2 (v0 + 27) (by omega)) (c2 (v0 + 32) (by omega)) (c2 (v0 + 33) (by omega)), q5]
            · rw [x_vA_c (c2 (v0 + 29) (by omega)), q6]
            · rw [x_vA_c (c2 (v0 + 24) (by omega)), r1]
            · rw [x_vA_c (c2 (v0 + 31) (by omega)), r2]
          have hfr2 : vA h2 (v0 + 23) q = fr := by rw [x_vA_c (c2 (v0 + 23) (by omega)), x_vA_c (E1.2.1 (v0 + 23) (by omega) (by omega) (by omega)), hfr]
          have hab2 : vA h2 (v0 + 30) q = ab := by rw [x_vA_c (c2 (v0 + 30) (by omega)), x_vA_c (E1.2.1 (v0 + 30) (by omega) (by omega) (by omega)), hab]
          have PB := x_pth_b j4.2.1 n0 n1
          have B1 : s1 = to → b1 = 0 := fun z => by
            refine Classical.byContradiction fun w => ?_
            have y := PB.1.2 (by lia)
            rw [z] at y
            exact absurd y Int32.lt_irrefl
          have B2 : s2 = to → b2 = 0 := fun z => by
            refine Classical.byContradiction fun w => ?_
            have y := PB.2.2 (by lia)
            rw [z] at y
            exact absurd y Int32.lt_irrefl
          refine l_gO (qi_b (y_way (N := N) (k1 := b1) (k2 := b2) M n0 n1 ⟨j1, Int32.le_trans PB.1.1 n1⟩ ⟨j2, Int32.le_trans PB.2.1 n1⟩ (by lia) a0 hfr2 hab2 WF OC st0 stn E2) ?_)
          rintro ⟨y, h3⟩ ⟨E3, W⟩
          obtain ⟨w1, -⟩ := y_wc S B1 B2 W
          dsimp only at E3 w1 ⊢
          refine l_sIc E3.1 M.1 (by decide) rfl ?_
          intro h4 T4 c4 u4
          refine qi_some ⟨⟨T4, fun a x1 x2 x3 => ?_, fun k x1 x2 x3 => ?_⟩, Or.inr ⟨rfl, ?_⟩⟩
          · exact (c4 a x1).trans ((E3.2.1 a x1 x2 x3).trans ((c2 a x1).trans (E1.2.1 a x1 x2 x3)))
          · show vI h4 v0 k = vI h0 v0 k
            rw [u4 k, if_neg x3, E3.2.2.1 k x1, u2 k, if_neg x2, E1.2.2.1 k x1]
          · rcases w1 with ⟨_, y2⟩ | ⟨y1, y2, gb', ge', y3, y4, y5⟩
            · exact absurd j4 (y2 best gb ge)
            · have ey : best = y := y2 best gb ge j4
              refine ⟨st, b1, b2, best, gb', ge', ⟨⟨Int32.le_refl _, stn, j4.1⟩, fun s' x1 x2 => absurd (Int32.lt_of_le_of_lt x1 x2) Int32.lt_irrefl, ⟨j1, j2, ?_⟩, fun a' b' e' gb1 ge1 x1 x2 cc => i6 a' b' e' gb1 ge1 x1 x2 trivial ⟨j4.1, cc⟩⟩, i1, ?_, ?_, ?_, ?_⟩
              · rw [ey]; exact y3.2
              · show vI h4 v0 57 = best
                rw [u4 57, if_pos rfl, ey]
              · show vI h4 v0 56 = st
                rw [u4 56, if_neg (by decide), E3.2.2.1 56 (by decide), u2 56, if_pos rfl]
              · show x_ag g gb' (vA h4 (v0 + 37))
                rw [x_vA_c (c4 (v0 + 37) (by omega))]; exact y4
              · show x_ag g ge' (fun j => vA h4 (v0 + 37) j + vA h4 (v0 + 38) j)
                rw [x_vA_c (c4 (v0 + 37) (by omega)), x_vA_c (c4 (v0 + 38) (by omega))]; exact y5
      · rcases v with v | v
        · exact absurd (Int32.lt_of_le_of_lt x0 v) Int32.lt_irrefl
        · exact absurd (Int32.lt_of_le_of_lt y0 v.2) Int32.lt_irrefl
end RL
set_option maxHeartbeats 2000000 in
theorem y_fm {L : q_L} {π : Nat → Nat → Option Nat} {N v0 : Nat} {q s1 s2 g fm : Int32} {h : z_H} (T : x_U L π h) (M : q_M L π v0) (n0 : 0 ≤ vI h v0 54) (n1 : vI h v0 54 ≤ 1000) (S : x_sx (r_kd (vA h (v0 + 26))) (vA h (v0 + 29)) (vA h (v0 + 23) q) s1 s2 (vA h (v0 + 24) q)) (WF : x_wf (r_kd (vA h (v0 + 26))) (vA h (v0 + 27)) (x_ct (vA h (v0 + 23) q) (vA h (v0 + 24) q)) (vA h (v0 + 23) q) 0 0) (OC : x_oc (r_kd (vA h (v0 + 26))) (x_ct (vA h (v0 + 23) q) (vA h (v0 + 24) q)) (vA h (v0 + 23) q) 0 0 = (g, g)) (f0 : 0 ≤ fm) : qi (f_Mod_find N v0 q fm h) (y_FM L π h (vA h (v0 + 36)) (vI h v0 54) (r_kd (vA h (v0 + 26))) (vA h (v0 + 27)) (x_tf h v0) (vA h (v0 + 23) q) s1 s2 (vA h (v0 + 24) q) g (vA h (v0 + 31) q) (vA h (v0 + 30) q) fm v0) := by
  have E : y_E L π v0 q h (vA h (v0 + 36)) (vI h v0 54) (vA h (v0 + 26)) (vA h (v0 + 27)) (x_tf h v0) (vA h (v0 + 29)) (vA h (v0 + 24) q) (vA h (v0 + 31) q) h := ⟨T, fun _ _ _ _ => rfl, fun _ _ => rfl, ⟨rfl, rfl, rfl, rfl, rfl, rfl⟩, rfl, rfl⟩
  have S' := S
  obtain ⟨⟨a0, a1, a2, a3, a4⟩, hs, -⟩ := S'
  unfold f_Mod_find f_Mod_starsOf
  refine l_gO (qi_b (l_gR T (d_Mo_28 M) (l_aI (e := vA h (v0 + 23) q) (fun _ => rfl) (fun _ => y_so9 (N := N) M S N 0 (vA h (v0 + 23) q) h E (Int32.le_refl _) (Int32.le_trans a1 (Int32.le_trans a2 a3)) (by rw [if_neg (by lia), if_neg (by lia)]; rfl)))) ?_)
  rintro ⟨y, h1⟩ ⟨e1, e2⟩
  dsimp only at e1 e2 ⊢
  subst e1
  refine qi_bs ?_
  have NS : (y ≤ 0 ↔ s1 = vA h1 (v0 + 24) q) ∧ (y ≤ 1 ↔ s2 = vA h1 (v0 + 24) q) := by
    rw [e2]
    by_cases z1 : s1 < vA h1 (v0 + 24) q
    · rw [if_pos z1]
      by_cases z2 : s2 < vA h1 (v0 + 24) q
      · rw [if_pos z2]
        exact ⟨⟨fun w => absurd w (by decide), fun w => absurd z1 (by lia)⟩, ⟨fun w => absurd w (by decide), fun w => absurd z2 (by lia)⟩⟩
      · rw [if_neg z2]
        exact ⟨⟨fun w => absurd w (by decide), fun w => absurd z1 (by lia)⟩, ⟨fun _ => by lia, fun _ => by decide⟩⟩
    · rw [if_neg z1]
      have z3 : s1 = vA h1 (v0 + 24) q := by lia
      have z2 : ¬ s2 < vA h1 (v0 + 24) q := by lia
      rw [if_neg z2]
      exact ⟨⟨fun _ => z3, fun _ => by decide⟩, ⟨fun _ => by lia, fun _ => by decide⟩⟩
  exact y_f9 (N := N) M n0 n1 S rfl rfl WF OC NS.1 NS.2 N fm h1 E f0
