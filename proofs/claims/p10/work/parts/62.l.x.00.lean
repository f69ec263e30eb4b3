/-! the reference's commands: which label a command wants; its open blocks -/
def x_G2 (nm gl : Int32 → Int32) (b v c : Int32) (use : Int32 → Int32) : Prop := ∀ k, v ≤ k → k < c → x_us (nm (b + k)) (gl (b + k)) (use k)
def x_OP (nm op : Int32 → Int32) (b c d : Int32) : Prop := ∀ i, 0 ≤ i → i < d → b ≤ op i ∧ op i < b + c ∧ ¬ nm (op i) = 98 ∧ ¬ nm (op i) = 116
def x_hf (b : Int32) : Prop := b = 0 ∨ b = 40
theorem x_hf_of {f : Int32} (h : f = 0 ∨ f = 1) : x_hf (40 * f) := by
  rcases h with h | h <;> subst h
  · exact Or.inl (by decide)
  · exact Or.inr (by decide)
theorem x_bk {b k c : Int32} (hb : x_hf b) (k0 : 0 ≤ k) (k1 : k < c) (c4 : c ≤ 40) : 0 ≤ b + k := by
  rcases hb with h | h <;> subst h <;> lia
theorem x_G2_w {nm gl use : Int32 → Int32} {b v c : Int32} (G : x_G2 nm gl b v c use) (v0 : 0 ≤ v) (h : v < c) : x_G2 nm gl b (v + 1) c use := fun k k0 k1 => G k (x_i2 h k0) k1
theorem x_G2_up {nm gl gl' use : Int32 → Int32} {b v c x : Int32} (G : x_G2 nm gl b v c use) (hb : x_hf b) (v0 : 0 ≤ v) (h : v < c) (c4 : c ≤ 40) (K : ∀ j, 0 ≤ j → gl' j = if j = b + v then x else gl j) : x_G2 nm gl' b (v + 1) c use := by
  intro k k0 k1
  have kv := x_i2 h k0
  rw [K _ (x_bk hb (Int32.le_trans v0 kv) k1 c4), if_neg (fun z => by have q : k = v := (by grind); subst q; lia)]
  exact G k kv k1
theorem x_G2_close {nm gl gl' use op : Int32 → Int32} {b c d x : Int32} (G : x_G2 nm gl b 0 c use) (O : x_OP nm op b c d) (hb : x_hf b) (c4 : c ≤ 40) (d0 : 0 ≤ d - 1) (d1 : d - 1 < d) (K : ∀ j, 0 ≤ j → gl' j = if j = op (d - 1) then x else gl j) : x_G2 nm gl' b 0 c use := by
  intro k k0 k1
  have o := O (d - 1) d0 d1
  rw [K _ (x_bk hb k0 k1 c4)]
  by_cases q : b + k = op (d - 1)
  · rw [if_pos q]
    have g := G k k0 k1
    rw [q] at g ⊢
    exact ⟨fun z => absurd z (fun w => w.elim o.2.2.1 o.2.2.2), g.2⟩
  · rw [if_neg q]
    exact G k k0 k1
theorem x_G2_add {nm nm' gl gl' use : Int32 → Int32} {b c v : Int32} (G : x_G2 nm gl b 0 c use) (hb : x_hf b) (c0 : 0 ≤ c) (c4 : c < 40) (en : ∀ j, 0 ≤ j → ¬ j = b + c → nm' j = nm j) (eg : ∀ j, 0 ≤ j → ¬ j = b + c → gl' j = gl j) (u : x_us (nm' (b + c)) (gl' (b + c)) v) : x_G2 nm' gl' b 0 (c + 1) (x_up use c v) := by
  intro k k0 k1
  unfold x_up
  by_cases q : k = c
  · subst q
    rw [if_pos rfl]
    exact u
  · have kc : k < c := by lia
    have j0 := x_bk hb k0 kc (Int32.le_of_lt c4)
    have jn : ¬ b + k = b + c := fun z => q (by grind)
    rw [if_neg q, en _ j0 jn, eg _ j0 jn]
    exact G k k0 kc
theorem x_OP_add {nm nm' op op' : Int32 → Int32} {b c d d' : Int32} (O : x_OP nm op b c d) (hb : x_hf b) (c0 : 0 ≤ c) (c4 : c < 40) (d0 : 0 ≤ d) (d4 : d ≤ 4) (en : ∀ j, 0 ≤ j → ¬ j = b + c → nm' j = nm j) (eo : ∀ i, 0 ≤ i → i < d → op' i = op i) (h : d' = d ∨ (d' = d + 1 ∧ op' d = b + c ∧ nm' (b + c) = 123)) : x_OP nm' op' b (c + 1) d' := by
  intro i i0 i1
  have hb0 : 0 ≤ b := by rcases hb with z | z <;> subst z <;> decide
  have hb4 : b ≤ 40 := by rcases hb with z | z <;> subst z <;> decide
  by_cases q : i < d
  · have o := O i i0 q
    have jn : ¬ op i = b + c := fun z => absurd (z ▸ o.2.1) Int32.lt_irrefl
    rw [eo i i0 q, en _ (Int32.le_trans hb0 o.1) jn]
    refine ⟨o.1, ?_, o.2.2⟩
    have o2 := o.2.1
    generalize op i = y at *
    lia
  · rcases h with h | ⟨h1, h2, h3⟩
    · rw [h] at i1; exact absurd i1 q
    · have e : i = d := by rw [h1] at i1; lia
      rw [e, h2, h3]
      refine ⟨by lia, by lia, by decide, by decide⟩
theorem x_OP_close {nm op : Int32 → Int32} {b c d : Int32} (O : x_OP nm op b c d) (h : d - 1 < d) : x_OP nm op b c (d - 1) := fun i i0 i1 => O i i0 (Int32.lt_of_lt_of_le i1 (Int32.le_of_lt h))
theorem x_dm {d : Int32} (d0 : 0 ≤ d) (h : ¬ d = 0) : 0 ≤ d - 1 ∧ d - 1 < d := by
  constructor <;> lia
theorem x_A1_d {ab : Int32 → Prop} {act : Option (Int32 × Int32 × Int32)} {b d d' s kd lb : Int32} {l l' : Int32 → Int32} (A : x_A1 ab act b d d' s l l' kd lb) : d' = d ∨ (d' = d + 1 ∧ ¬ d = 4) := by
  obtain ⟨k, v, e, A⟩ := A
  rcases A with A | A | A | A
  · exact Or.inr ⟨A.2.2.1, A.2.1⟩
  · exact Or.inl A.2.1
  · exact Or.inl A.2.1
  · exact Or.inl A.2.1
theorem x_dd {d d' : Int32} (h : d' = d ∨ (d' = d + 1 ∧ ¬ d = 4)) (b : 0 ≤ d ∧ d ≤ 4) : 0 ≤ d' ∧ d' ≤ 4 := by
  obtain ⟨b0, b4⟩ := b
  rcases h with h | ⟨h, h4⟩
  · subst h; exact ⟨b0, b4⟩
  · subst h; constructor <;> lia
theorem x_dm2 {d : Int32} (b : 0 ≤ d ∧ d ≤ 4) (h : ¬ d = 0) : 0 ≤ d - 1 ∧ d - 1 ≤ 4 := by
  obtain ⟨b0, b4⟩ := b
  constructor <;> lia
theorem x_nabr {b c : Int32} (hb : x_hf b) (c0 : 0 ≤ c) (c4 : c ≤ 40) : ¬ x_abr (b + c) := by
  unfold x_abr
  rcases hb with h | h <;> subst h <;> lia
theorem x_lkt {t : Int32 → Int32} {n m a : Int32} {f : Int32 → Int32} (ht : ∀ j, 0 ≤ j → j < n → f j = t j) (hn : m = n) (c : ¬ m ≤ a) (i : 0 ≤ a) : x_lk t n a = f a := by
  have l : a < n := hn ▸ Int32.not_le.mp c
  rw [x_lk, if_pos l, ht a i l]
theorem x_cm00 {t : Int32 → Int32} {n a d sz : Int32} {lab use l : Int32 → Int32} (n2 : n ≤ 1000) (c : x_co (x_lk t n a)) (g : sz = 40 ∨ x_C0 t n a d l) (R : x_R1 x_abr l lab) : x_scr t n a d sz lab use = none := by
  by_cases h : sz = 40
  · exact x_sc_40 n2 c h
  · rcases g with g | g | ⟨r, e, A⟩
    · exact absurd g h
    · exact x_sc_n n2 c (x_cm0 g)
    · exact x_step0 n2 c h e A R
theorem x_c39 {c : Int32} (b : 0 ≤ c ∧ c ≤ 40) (h : ¬ c = 40) : c < 40 := by
  obtain ⟨b0, b4⟩ := b
  lia
theorem x_R10r {l : Int32 → Int32} (g : ∀ j, 0 ≤ j → j < 26 → l j = -1) : x_R1 x_abr l (fun _ => 0) := by
  intro j j0 j1
  have e := g j j0 (Int32.lt_of_le_of_lt j1 (by decide))
  constructor
  · intro z; exact absurd (show (0 : Int32) = 1 from z) (by decide)
  · intro z; exact absurd (show x_abr (l j) by rw [e]; unfold x_abr; decide) z
theorem x_inc2 {a b : Int32} (h : 0 ≤ a) (h2 : a < b) : 0 ≤ a + 1 := by lia
theorem x_inn {t : Int32 → Int32} {n m a : Int32} (tp : ∀ j, t j ≠ -1) (hn : m = n) (c : ¬ m ≤ a) : ¬ x_lk t n a = -1 := fun z => x_lk_no tp z (hn ▸ Int32.not_le.mp c)
theorem x_dz {d : Int32} (b : 0 ≤ d ∧ d ≤ 4) (h : d ≤ 0) : d = 0 := Int32.le_antisymm h b.1
theorem x_dn {d : Int32} (b : 0 ≤ d ∧ d ≤ 4) (h : ¬ d ≤ 0) : ¬ d = 0 := fun z => h (by rw [z]; decide)
theorem x_hf1 {l : Int32} (h : l = 0 ∨ l = 1) : x_hf (40 * (1 - l)) := by
  rcases h with h | h <;> subst h
  · exact Or.inr (by decide)
  · exact Or.inl (by decide)
set_option maxHeartbeats 2000000 in
theorem i_Mod_fail {L : q_L} {π : Nat → Nat → Option Nat} {N : Nat} {h : z_H} {v0 : Nat} {v1 : Int32} (T : x_U L π h) (kv0 : q_M L π v0)  : qi (f_Mod_fail N v0 v1 h) (fun r => x_U L π r.2 ∧ (vI r.2 v0 6 = v1) ∧ (r.1 = 0) ∧ (∀ a k, ¬ ((a = v0 ∧ k = 6)) → vI r.2 a k = vI h a k) ∧ (∀ a, ¬ (a < a) → vA r.2 a = vA h a)) := by
  unfold f_Mod_fail
  refine l_sI T (q_Mk kv0) (by decide) rfl ?_
  intro h1_1 Th1_1 ih1_1 ah1_1
  refine qi_some ?_
  exact ⟨Th1_1, (by show vI h1_1 v0 6 = v1; rw [show vI h1_1 v0 6 = v1 from (by rw [ih1_1 v0 6, if_pos ⟨rfl, rfl⟩])] <;> (first | assumption | with_reducible rfl | grind)), (by show (0 : Int32) = 0; first | assumption | with_reducible rfl | grind), (fun a k na => by rw [ih1_1 a k, if_neg (fun z => na (z))]), (fun a na => by rw [ah1_1 a])⟩
theorem j_Mod_fail {L : q_L} {π : Nat → Nat → Option Nat} {N : Nat} {h : z_H} {v0 : Nat} {v1 : Int32} {β : Type} {f : Int32 × z_H → Option β} {Q : β → Prop} (T : x_U L π h) (kv0 : q_M L π v0)  (H : ∀ y h', x_U L π h' → (vI h' v0 6 = v1) → (y = 0) → (∀ a k, ¬ ((a = v0 ∧ k = 6)) → vI h' a k = vI h a k) → (∀ a, ¬ (a < a) → vA h' a = vA h a) → qi (f (y, h')) Q) : qi (z_b (f_Mod_fail N v0 v1 h) f) Q := by
  refine qi_b (i_Mod_fail  T kv0 ) ?_
  rintro ⟨y, hz⟩ ⟨Tz, g0, g1, g2, g3⟩
  exact H y hz Tz g0 g1 g2 g3

set_option maxHeartbeats 8000000 in
theorem i_Mod_goals_2 {L : q_L} {π : Nat → Nat → Option Nat} {N : Nat} : ∀ (m9 : Nat) (lab use : Int32 → Int32) (v0 : Nat) (v1 : Int32) (h : z_H), x_U L π h → q_M L π v0 → (0 ≤ v1) → (x_hf (40 * vI h v0 42)) → (vI h v0 48 = 0 → (0 ≤ vA h (v0 + 19) (vI h v0 42) ∧ vA h (v0 + 19) (vI h v0 42) ≤ 40)) → (vI h v0 48 = 0 → x_R1 x_abr (vA h (v0 + 34)) lab) → (vI h v0 48 = 0 → x_G2 (vA h (v0 + 4)) (vA h (v0 + 13)) (40 * vI h v0 42) v1 (vA h (v0 + 19) (vI h v0 42)) use) → qi (f_Mod_goals_2 N m9 v0 v1 h) (fun r => x_U L π r ∧ (((vI r v0 48 = 0) ∧ (vI h v0 48 = 0) ∧ (x_ok lab use v1 (vA h (v0 + 19) (vI h v0 42)) = true) ∧ (∀ a k, ¬ ((a = v0 ∧ k = 5) ∨ (a = v0 ∧ k = 48)) → vI r a k = vI h a k) ∧ (∀ a, ¬ (a = (v0 + 13)) → vA r a = vA h a)) ∨ ((¬ vI r v0 48 = 0) ∧ (¬ vI h v0 48 = 0 ∨ x_ok lab use v1 (vA h (v0 + 19) (vI h v0 42)) = false) ∧ (∀ a k, ¬ ((a = v0 ∧ k = 5) ∨ (a = v0 ∧ k = 48)) → vI r a k = vI h a k) ∧ (∀ a, ¬ (a = (v0 + 13)) → vA r a = vA h a)))) := by
  intro m9
  induction m9 with
  | zero => intro lab use v0 v1 h T kv0 v10 hh cb R1 G r e; rw [f_Mod_goals_2] at e; cases e
  | succ m9 ih =>
    intro lab use v0 v1 h T kv0 v10 hh cb R1 G
    rw [f_Mod_goals_2]
    by_cases fl : vI h v0 48 = 0
    · skip
      have R1 := R1 fl
      have G := G fl
      have cb := cb fl
      refine l_gR T (d_Mo_24 kv0) ?_
      refine l_gI (e := (vI h v0 42)) rfl ?_
      refine l_aI (e := (vA h (v0 + 19) (vI h v0 42))) (fun _ => rfl) (fun ix1 => ?_)
      refine qi_if (fun cc2 => ?_) (fun cc2 => ?_)
      · skip
        refine qi_some ?_
        exact ⟨T, Or.inl ⟨fl, fl, (by show x_ok lab use v1 (vA h (v0 + 19) (vI h v0 42)) = true; exact x_ok_e (Int32.not_lt.mpr (by assumption))), (fun a k na => by rfl), (fun a na => by rfl)⟩⟩
      · skip
        refine l_gI (e := (vI h v0 48)) rfl ?_
        refine qi_if (fun _ => ?_) (fun cc3 => absurd fl cc3)
        refine l_gI (e := (vI h v0 42)) rfl ?_
        refine qi_bs ?_
        refine l_gR T (d_Mo_9 kv0) ?_
        refine l_aI (e := (vA h (v0 + 4) ((40 * (vI h v0 42)) + v1))) (fun _ => rfl) (fun ix4 => ?_)
        refine qi_if (fun cc5 => ?_) (fun cc5 => ?_)
        · skip
          unfold f_Mod_goals_54
          refine l_gR T (d_Mo_18 kv0) ?_
          refine l_aI (e := (vA h (v0 + 13) ((40 * (vI h v0 42)) + v1))) (fun _ => rfl) (fun ix7 => ?_)
          refine qi_if (fun cc8 => ?_) (fun cc8 => ?_)
          · skip
            refine qi_bs ?_
            refine qi_mono (ih lab use v0 (v1 + 1) h T kv0 (by show 0 ≤ (v1 + 1); exact x_inc2 v10 (Int32.not_le.mp (by assumption))) hh (by show vI h v0 48 = 0 → (0 ≤ vA h (v0 + 19) (vI h v0 42) ∧ vA h (v0 + 19) (vI h v0 42) ≤ 40); intro z9; exact cb) (by show vI h v0 48 = 0 → x_R1 x_abr (vA h (v0 + 34)) lab; intro z9; exact R1) (by show vI h v0 48 = 0 → x_G2 (vA h (v0 + 4)) (vA h (v0 + 13)) (40 * vI h v0 42) (v1 + 1) (vA h (v0 + 19) (vI h v0 42)) use; intro z9; exact x_G2_w G v10 (Int32.not_le.mp (by assumption)))) ?_
            rintro hrz9_10 ⟨Thrz9_10, ⟨g1rz9_10_0, g1rz9_10_1, g1rz9_10_2, f1rz9_10_I, f1rz9_10_A⟩ | ⟨g0rz9_10_0, g0rz9_10_1, f0rz9_10_I, f0rz9_10_A⟩⟩
            · try dsimp only at *
              exact ⟨Thrz9_10, Or.inl ⟨(by show vI hrz9_10 v0 48 = 0; rw [show vI hrz9_10 v0 48 = 0 from (by rw [g1rz9_10_0])] <;> (first | assumption | with_reducible rfl | grind)), g1rz9_10_1, (by show x_ok lab use v1 (vA h (v0 + 19) (vI h v0 42)) = true; exact (x_ok_s ⟨(Int32.not_le.mp (by assumption)), Int32.le_trans cb.2 (by decide)⟩ (Or.inl (((G v1 (Int32.le_refl _) (Int32.not_le.mp (by assumption))).1 (Or.inl cc5)).1.trans cc8))).trans g1rz9_10_2), (fun a k na => by rw [f1rz9_10_I a k (fun z => na (z.elim (fun z => Or.inl z) (fun z => Or.inr (z))))]), (fun a na => by rw [f1rz9_10_A a (fun z => na (z))])⟩⟩
            · try dsimp only at *
              exact ⟨Thrz9_10, Or.inr ⟨g0rz9_10_0, (by show ¬ vI h v0 48 = 0 ∨ x_ok lab use v1 (vA h (v0 + 19) (vI h v0 42)) = false; refine Or.inr ?_; exact (x_ok_s ⟨(Int32.not_le.mp (by assumption)), Int32.le_trans cb.2 (by decide)⟩ (Or.inl (((G v1 (Int32.le_refl _) (Int32.not_le.mp (by assumption))).1 (Or.inl cc5)).1.trans cc8))).trans (g0rz9_10_1.resolve_left (fun z => z (by first | rfl | assumption)))), (fun a k na => by rw [f0rz9_10_I a k (fun z => na (z.elim (fun z => Or.inl z) (fun z => Or.inr (z))))]), (fun a na => by rw [f0rz9_10_A a (fun z => na (z))])⟩⟩
          · skip
            refine l_gR T (d_Mo_39 kv0) ?_
            refine l_gR T (d_Mo_18 kv0) ?_
            refine l_aI (e := (vA h (v0 + 13) ((40 * (vI h v0 42)) + v1))) (fun _ => rfl) (fun ix11 => ?_)
            refine l_aI (e := (vA h (v0 + 34) (vA h (v0 + 13) ((40 * (vI h v0 42)) + v1)))) (fun _ => rfl) (fun ix12 => ?_)
            refine qi_if (fun cc13 => ?_) (fun cc13 => ?_)
            · skip
              refine l_gR T (d_Mo_18 kv0) ?_
              refine l_gR T (d_Mo_39 kv0) ?_
              refine l_gR T (d_Mo_18 kv0) ?_
              refine l_aI (e := (vA h (v0 + 13) ((40 * (vI h v0 42)) + v1))) (fun _ => rfl) (fun ix14 => ?_)
              refine l_aI (e := (vA h (v0 + 34) (vA h (v0 + 13) ((40 * (vI h v0 42)) + v1)))) (fun _ => rfl) (fun ix15 => ?_)
              refine l_gI (e := (vI h v0 42)) rfl ?_
              refine l_uI T ?_
              intro h15i6_16 Th15i6_16 jh15i6_16 ih15i6_16 ah15i6_16 bh15i6_16
              refine qi_bs ?_
              refine qi_mono (ih lab use v0 (v1 + 1) h15i6_16 Th15i6_16 kv0 (by show 0 ≤ (v1 + 1); exact x_inc2 v10 (Int32.not_le.mp (by assumption))) (by show x_hf (40 * vI h15i6_16 v0 42); rw [show vI h15i6_16 v0 42 = (vI h v0 42) from (by rw [ih15i6_16 v0 42])] <;> (first | assumption | with_reducible rfl | grind)) (by show vI h15i6_16 v0 48 = 0 → (0 ≤ vA h15i6_16 (v0 + 19) (vI h15i6_16 v0 42) ∧ vA h15i6_16 (v0 + 19) (vI h15i6_16 v0 42) ≤ 40); rw [show vI h15i6_16 v0 48 = (vI h v0 48) from (by rw [ih15i6_16 v0 48]), show vA h15i6_16 (v0 + 19) = vA h (v0 + 19) from (by rw [bh15i6_16 (v0 + 19) (by omega)]), show vI h15i6_16 v0 42 = (vI h v0 42) from (by rw [ih15i6_16 v0 42])] <;> (intro z9; exact cb)) (by show vI h15i6_16 v0 48 = 0 → x_R1 x_abr (vA h15i6_16 (v0 + 34)) lab; rw [show vI h15i6_16 v0 48 = (vI h v0 48) from (by rw [ih15i6_16 v0 48]), show vA h15i6_16 (v0 + 34) = vA h (v0 + 34) from (by rw [bh15i6_16 (v0 + 34) (by omega)])] <;> (intro z9; exact R1)) (by show vI h15i6_16 v0 48 = 0 → x_G2 (vA h15i6_16 (v0 + 4)) (vA h15i6_16 (v0 + 13)) (40 * vI h15i6_16 v0 42) (v1 + 1) (vA h15i6_16 (v0 + 19) (vI h15i6_16 v0 42)) use; rw [show vI h15i6_16 v0 48 = (vI h v0 48) from (by rw [ih15i6_16 v0 48]), show vA h15i6_16 (v0 + 4) = vA h (v0 + 4) from (by rw [bh15i6_16 (v0 + 4) (by omega)]), show vI h15i6_16 v0 42 = (vI h v0 42) from (by rw [ih15i6_16 v0 42]), show vA h15i6_16 (v0 + 19) = vA h (v0 + 19) from (by rw [bh15i6_16 (v0 + 19) (by omega)])] <;> (intro z9; exact x_G2_up G hh v10 (Int32.not_le.mp (by assumption)) cb.2 (fun j j0 => by rw [ah15i6_16 (v0 + 13) j j0]; by_cases q : j = (40 * vI h v0 42 + v1); (rw [if_pos ⟨rfl, q⟩, if_pos q]); (rw [if_neg (fun z => q z.2), if_neg q]))))) ?_
              rintro hrz17_18 ⟨Thrz17_18, ⟨g1rz17_18_0, g1rz17_18_1, g1rz17_18_2, f1rz17_18_I, f1rz17_18_A⟩ | ⟨g0rz17_18_0, g0rz17_18_1, f0rz17_18_I, f0rz17_18_A⟩⟩
              · try dsimp only at *
                rw [show vI h15i6_16 v0 48 = (vI h v0 48) from (by rw [ih15i6_16 v0 48])] at g1rz17_18_1
                rw [show vA h15i6_16 (v0 + 19) = vA h (v0 + 19) from (by rw [bh15i6_16 (v0 + 19) (by omega)]), show vI h15i6_16 v0 42 = (vI h v0 42) from (by rw [ih15i6_16 v0 42])] at g1rz17_18_2
                exact ⟨Thrz17_18, Or.inl ⟨(by show vI hrz17_18 v0 48 = 0; rw [show vI hrz17_18 v0 48 = 0 from (by rw [g1rz17_18_0])] <;> (first | assumption | with_reducible rfl | grind)), fl, (by show x_ok lab use v1 (vA h (v0 + 19) (vI h v0 42)) = true; exact (x_ok_s ⟨(Int32.not_le.mp (by assumption)), Int32.le_trans cb.2 (by decide)⟩ (x_jt (ab := x_abr) ((G v1 (Int32.le_refl _) (Int32.not_le.mp (by assumption))).1 (Or.inl cc5)) R1 cc8 (fun z => absurd (Int32.lt_of_le_of_lt (by assumption) z) Int32.lt_irrefl))).trans g1rz17_18_2), (fun a k na => by rw [f1rz17_18_I a k (fun z => na (z.elim (fun z => Or.inl z) (fun z => Or.inr (z)))), ih15i6_16 a k]), (fun a na => by rw [f1rz17_18_A a (fun z => na (z)), bh15i6_16 a (fun z => na (z))])⟩⟩
              · try dsimp only at *
                rw [show vI h15i6_16 v0 48 = (vI h v0 48) from (by rw [ih15i6_16 v0 48]), show vA h15i6_16 (v0 + 19) = vA h (v0 + 19) from (by rw [bh15i6_16 (v0 + 19) (by omega)]), show vI h15i6_16 v0 42 = (vI h v0 42) from (by rw [ih15i6_16 v0 42])] at g0rz17_18_1
                exact ⟨Thrz17_18, Or.inr ⟨g0rz17_18_0, (by show ¬ vI h v0 48 = 0 ∨ x_ok lab use v1 (vA h (v0 + 19) (vI h v0 42)) = false; refine Or.inr ?_; exact (x_ok_s ⟨(Int32.not_le.mp (by assumption)), Int32.le_trans cb.2 (by decide)⟩ (x_jt (ab := x_abr) ((G v1 (Int32.le_refl _) (Int32.not_le.mp (by assumption))).1 (Or.inl cc5)) R1 cc8 (fun z => absurd (Int32.lt_of_le_of_lt (by assumption) z) Int32.lt_irrefl))).trans (g0rz17_18_1.resolve_left (fun z => z (by first | rfl | assumption)))), (fun a k na => by rw [f0rz17_18_I a k (fun z => na (z.elim (fun z => Or.inl z) (fun z => Or.inr (z)))), ih15i6_16 a k]), (fun a na => by rw [f0rz17_18_A a (fun z => na (z)), bh15i6_16 a (fun z => na (z))])⟩⟩
            · skip
              refine l_gR T (d_Mo_20 kv0) ?_
              refine l_aI (e := (vA h (v0 + 15) ((40 * (vI h v0 42)) + v1))) (fun _ => rfl) (fun ix19 => ?_)
              refine l_gO ?_
              refine j_Mod_wrong (v0 := v0) (v1 := (vA h (v0 + 15) ((40 * (vI h v0 42)) + v1))) T kv0 ?_
              intro hr20i6_20 Thr20i6_20 gr20i6_20_0 fr20i6_20_I fr20i6_20_A
              try dsimp only
              refine qi_bs ?_
              refine qi_mono (ih lab use v0 (v1 + 1) hr20i6_20 Thr20i6_20 kv0 (by show 0 ≤ (v1 + 1); exact x_inc2 v10 (Int32.not_le.mp (by assumption))) (by show x_hf (40 * vI hr20i6_20 v0 42); rw [show vI hr20i6_20 v0 42 = (vI h v0 42) from (by rw [fr20i6_20_I v0 42 (by omega)])] <;> (first | assumption | with_reducible rfl | grind)) (by show vI hr20i6_20 v0 48 = 0 → (0 ≤ vA hr20i6_20 (v0 + 19) (vI hr20i6_20 v0 42) ∧ vA hr20i6_20 (v0 + 19) (vI hr20i6_20 v0 42) ≤ 40); rw [show vI hr20i6_20 v0 48 = 1 from (by rw [gr20i6_20_0]), show vA hr20i6_20 (v0 + 19) = vA h (v0 + 19) from (by rw [fr20i6_20_A (v0 + 19) (by omega)]), show vI hr20i6_20 v0 42 = (vI h v0 42) from (by rw [fr20i6_20_I v0 42 (by omega)])] <;> (intro z9; exact absurd z9 (by decide))) (by show vI hr20i6_20 v0 48 = 0 → x_R1 x_abr (vA hr20i6_20 (v0 + 34)) lab; rw [show vI hr20i6_20 v0 48 = 1 from (by rw [gr20i6_20_0]), show vA hr20i6_20 (v0 + 34) = vA h (v0 + 34) from (by rw [fr20i6_20_A (v0 + 34) (by omega)])] <;> (intro z9; exact absurd z9 (by decide))) (by show vI hr20i6_20 v0 48 = 0 → x_G2 (vA hr20i6_20 (v0 + 4)) (vA hr20i6_20 (v0 + 13)) (40 * vI hr20i6_20 v0 42) (v1 + 1) (vA hr20i6_20 (v0 + 19) (vI hr20i6_20 v0 42)) use; rw [show vI hr20i6_20 v0 48 = 1 from (by rw [gr20i6_20_0]), show vA hr20i6_20 (v0 + 4) = vA h (v0 + 4) from (by rw [fr20i6_20_A (v0 + 4) (by omega)]), show vA hr20i6_20 (v0 + 13) = vA h (v0 + 13) from (by rw [fr20i6_20_A (v0 + 13) (by omega)]), show vI hr20i6_20 v0 42 = (vI h v0 42) from (by rw [fr20i6_20_I v0 42 (by omega)]), show vA hr20i6_20 (v0 + 19) = vA h (v0 + 19) from (by rw [fr20i6_20_A (v0 + 19) (by omega)])] <;> (intro z9; exact absurd z9 (by decide)))) ?_
              rintro hrz21_22 ⟨Thrz21_22, ⟨g1rz21_22_0, g1rz21_22_1, g1rz21_22_2, f1rz21_22_I, f1rz21_22_A⟩ | ⟨g0rz21_22_0, g0rz21_22_1, f0rz21_22_I, f0rz21_22_A⟩⟩
              · try dsimp only at *
                rw [show vI hr20i6_20 v0 48 = 1 from (by rw [gr20i6_20_0])] at g1rz21_22_1
                rw [show vA hr20i6_20 (v0 + 19) = vA h (v0 + 19) from (by rw [fr20i6_20_A (v0 + 19) (by omega)]), show vI hr20i6_20 v0 42 = (vI h v0 42) from (by rw [fr20i6_20_I v0 42 (by omega)])] at g1rz21_22_2
                exact absurd g1rz21_22_1 (by decide)
              · try dsimp only at *
                rw [show vI hr20i6_20 v0 48 = 1 from (by rw [gr20i6_20_0]), show vA hr20i6_20 (v0 + 19) = vA h (v0 + 19) from (by rw [fr20i6_20_A (v0 + 19) (by omega)]), show vI hr20i6_20 v0 42 = (vI h v0 42) from (by rw [fr20i6_20_I v0 42 (by omega)])] at g0rz21_22_1
                exact ⟨Thrz21_22, Or.inr ⟨g0rz21_22_0, (by show ¬ vI h v0 48 = 0 ∨ x_ok lab use v1 (vA h (v0 + 19) (vI h v0 42)) = false; refine Or.inr ?_; exact x_ok_f ⟨(Int32.not_le.mp (by assumption)), Int32.le_trans cb.2 (by decide)⟩ (x_jf (ab := x_abr) ((G v1 (Int32.le_refl _) (Int32.not_le.mp (by assumption))).1 (Or.inl cc5)) R1 cc8 (Int32.not_le.mp (by assumption)))), (fun a k na => by rw [f0rz21_22_I a k (fun z => na (z.elim (fun z => Or.inl z) (fun z => Or.inr (z)))), fr20i6_20_I a k (fun z => na (z.elim (fun z => Or.inl z) (fun z => Or.inr (z))))]), (fun a na => by rw [f0rz21_22_A a (fun z => na (z)), fr20i6_20_A a (by omega)])⟩⟩
        · skip
          refine l_gR T (d_Mo_9 kv0) ?_
          refine l_aI (e := (vA h (v0 + 4) ((40 * (vI h v0 42)) + v1))) (fun _ => rfl) (fun ix23 => ?_)
          refine qi_if (fun cc24 => ?_) (fun cc24 => ?_)
          · skip
            unfold f_Mod_goals_54
            refine l_gR T (d_Mo_18 kv0) ?_
            refine l_aI (e := (vA h (v0 + 13) ((40 * (vI h v0 42)) + v1))) (fun _ => rfl) (fun ix26 => ?_)
            refine qi_if (fun cc27 => ?_) (fun cc27 => ?_)
            · skip
              refine qi_bs ?_
              refine qi_mono (ih lab use v0 (v1 + 1) h T kv0 (by show 0 ≤ (v1 + 1); exact x_inc2 v10 (Int32.not_le.mp (by assumption))) hh (by show vI h v0 48 = 0 → (0 ≤ vA h (v0 + 19) (vI h v0 42) ∧ vA h (v0 + 19) (vI h v0 42) ≤ 40); intro z9; exact cb) (by show vI h v0 48 = 0 → x_R1 x_abr (vA h (v0 + 34)) lab; intro z9; exact R1) (by show vI h v0 48 = 0 → x_G2 (vA h (v0 + 4)) (vA h (v0 + 13)) (40 * vI h v0 42) (v1 + 1) (vA h (v0 + 19) (vI h v0 42)) use; intro z9; exact x_G2_w G v10 (Int32.not_le.mp (by assumption)))) ?_
              rintro hrz28_29 ⟨Thrz28_29, ⟨g1rz28_29_0, g1rz28_29_1, g1rz28_29_2, f1rz28_29_I, f1rz28_29_A⟩ | ⟨g0rz28_29_0, g0rz28_29_1, f0rz28_29_I, f0rz28_29_A⟩⟩
              · try dsimp only at *
                exact ⟨Thrz28_29, Or.inl ⟨(by show vI hrz28_29 v0 48 = 0; rw [show vI hrz28_29 v0 48 = 0 from (by rw [g1rz28_29_0])] <;> (first | assumption | with_reducible rfl | grind)), g1rz28_29_1, (by show x_ok lab use v1 (vA h (v0 + 19) (vI h v0 42)) = true; exact (x_ok_s ⟨(Int32.not_le.mp (by assumption)), Int32.le_trans cb.2 (by decide)⟩ (Or.inl (((G v1 (Int32.le_refl _) (Int32.not_le.mp (by assumption))).1 (Or.inr cc24)).1.trans cc27))).trans g1rz28_29_2), (fun a k na => by rw [f1rz28_29_I a k (fun z => na (z.elim (fun z => Or.inl z) (fun z => Or.inr (z))))]), (fun a na => by rw [f1rz28_29_A a (fun z => na (z))])⟩⟩
              · try dsimp only at *
                exact ⟨Thrz28_29, Or.inr ⟨g0rz28_29_0, (by show ¬ vI h v0 48 = 0 ∨ x_ok lab use v1 (vA h (v0 + 19) (vI h v0 42)) = false; refine Or.inr ?_; exact (x_ok_s ⟨(Int32.not_le.mp (by assumption)), Int32.le_trans cb.2 (by decide)⟩ (Or.inl (((G v1 (Int32.le_refl _) (Int32.not_le.mp (by assumption))).1 (Or.inr cc24)).1.trans cc27))).trans (g0rz28_29_1.resolve_left (fun z => z (by first | rfl | assumption)))), (fun a k na => by rw [f0rz28_29_I a k (fun z => na (z.elim (fun z => Or.inl z) (fun z => Or.inr (z))))]), (fun a na => by rw [f0rz28_29_A a (fun z => na (z))])⟩⟩
            · skip
              refine l_gR T (d_Mo_39 kv0) ?_
              refine l_gR T (d_Mo_18 kv0) ?_
              refine l_aI (e := (vA h (v0 + 13) ((40 * (vI h v0 42)) + v1))) (fun _ => rfl) (fun ix30 => ?_)
              refine l_aI (e := (vA h (v0 + 34) (vA h (v0 + 13) ((40 * (vI h v0 42)) + v1)))) (fun _ => rfl) (fun ix31 => ?_)
              refine qi_if (fun cc32 => ?_) (fun cc32 => ?_)
              · skip
                refine l_gR T (d_Mo_18 kv0) ?_
                refine l_gR T (d_Mo_39 kv0) ?_
                refine l_gR T (d_Mo_18 kv0) ?_
                refine l_aI (e := (vA h (v0 + 13) ((40 * (vI h v0 42)) + v1))) (fun _ => rfl) (fun ix33 => ?_)
                refine l_aI (e := (vA h (v0 + 34) (vA h (v0 + 13) ((40 * (vI h v0 42)) + v1)))) (fun _ => rfl) (fun ix34 => ?_)
                refine l_gI (e := (vI h v0 42)) rfl ?_
                refine l_uI T ?_
                intro h15i25_35 Th15i25_35 jh15i25_35 ih15i25_35 ah15i25_35 bh15i25_35
                refine qi_bs ?_
                refine qi_mono (ih lab use v0 (v1 + 1) h15i25_35 Th15i25_35 kv0 (by show 0 ≤ (v1 + 1); exact x_inc2 v10 (Int32.not_le.mp (by assumption))) (by show x_hf (40 * vI h15i25_35 v0 42); rw [show vI h15i25_35 v0 42 = (vI h v0 42) from (by rw [ih15i25_35 v0 42])] <;> (first | assumption | with_reducible rfl | grind)) (by show vI h15i25_35 v0 48 = 0 → (0 ≤ vA h15i25_35 (v0 + 19) (vI h15i25_35 v0 42) ∧ vA h15i25_35 (v0 + 19) (vI h15i25_35 v0 42) ≤ 40); rw [show vI h15i25_35 v0 48 = (vI h v0 48) from (by rw [ih15i25_35 v0 48]), show vA h15i25_35 (v0 + 19) = vA h (v0 + 19) from (by rw [bh15i25_35 (v0 + 19) (by omega)]), show vI h15i25_35 v0 42 = (vI h v0 42) from (by rw [ih15i25_35 v0 42])] <;> (intro z9; exact cb)) (by show vI h15i25_35 v0 48 = 0 → x_R1 x_abr (vA h15i25_35 (v0 + 34)) lab; rw [show vI h15i25_35 v0 48 = (vI h v0 48) from (by rw [ih15i25_35 v0 48]), show vA h15i25_35 (v0 + 34) = vA h (v0 + 34) from (by rw [bh15i25_35 (v0 + 34) (by omega)])] <;> (intro z9; exact R1)) (by show vI h15i25_35 v0 48 = 0 → x_G2 (vA h15i25_35 (v0 + 4)) (vA h15i25_35 (v0 + 13)) (40 * vI h15i25_35 v0 42) (v1 + 1) (vA h15i25_35 (v0 + 19) (vI h15i25_35 v0 42)) use; rw [show vI h15i25_35 v0 48 = (vI h v0 48) from (by rw [ih15i25_35 v0 48]), show vA h15i25_35 (v0 + 4) = vA h (v0 + 4) from (by rw [bh15i25_35 (v0 + 4) (by omega)]), show vI h15i25_35 v0 42 = (vI h v0 42) from (by rw [ih15i25_35 v0 42]), show vA h15i25_35 (v0 + 19) = vA h (v0 + 19) from (by rw [bh15i25_35 (v0 + 19) (by omega)])] <;> (intro z9; exact x_G2_up G hh v10 (Int32.not_le.mp (by assumption)) cb.2 (fun j j0 => by rw [ah15i25_35 (v0 + 13) j j0]; by_cases q : j = (40 * vI h v0 42 + v1); (rw [if_pos ⟨rfl, q⟩, if_pos q]); (rw [if_neg (fun z => q z.2), if_neg q]))))) ?_
                rintro hrz36_37 ⟨Thrz36_37, ⟨g1rz36_37_0, g1rz36_37_1, g1rz36_37_2, f1rz36_37_I, f1rz36_37_A⟩ | ⟨g0rz36_37_0, g0rz36_37_1, f0rz36_37_I, f0rz36_37_A⟩⟩
                · try dsimp only at *
                  rw [show vI h15i25_35 v0 48 = (vI h v0 48) from (by rw [ih15i25_35 v0 48])] at g1rz36_37_1
                  rw [show vA h15i25_35 (v0 + 19) = vA h (v0 + 19) from (by rw [bh15i25_35 (v0 + 19) (by omega)]), show vI h15i25_35 v0 42 = (vI h v0 42) from (by rw [ih15i25_35 v0 42])] at g1rz36_37_2
                  exact ⟨Thrz36_37, Or.inl ⟨(by show vI hrz36_37 v0 48 = 0; rw [show vI hrz36_37 v0 48 = 0 from (by rw [g1rz36_37_0])] <;> (first | assumption | with_reducible rfl | grind)), fl, (by show x_ok lab use v1 (vA h (v0 + 19) (vI h v0 42)) = true; exact (x_ok_s ⟨(Int32.not_le.mp (by assumption)), Int32.le_trans cb.2 (by decide)⟩ (x_jt (ab := x_abr) ((G v1 (Int32.le_refl _) (Int32.not_le.mp (by assumption))).1 (Or.inr cc24)) R1 cc27 (fun z => absurd (Int32.lt_of_le_of_lt (by assumption) z) Int32.lt_irrefl))).trans g1rz36_37_2), (fun a k na => by rw [f1rz36_37_I a k (fun z => na (z.elim (fun z => Or.inl z) (fun z => Or.inr (z)))), ih15i25_35 a k]), (fun a na => by rw [f1rz36_37_A a (fun z => na (z)), bh15i25_35 a (fun z => na (z))])⟩⟩
                · try dsimp only at *
                  rw [show vI h15i25_35 v0 48 = (vI h v0 48) from (by rw [ih15i25_35 v0 48]), show vA h15i25_35 (v0 + 19) = vA h (v0 + 19) from (by rw [bh15i25_35 (v0 + 19) (by omega)]), show vI h15i25_35 v0 42 = (vI h v0 42) from (by rw [ih15i25_35 v0 42])] at g0rz36_37_1
                  exact ⟨Thrz36_37, Or.inr ⟨g0rz36_37_0, (by show ¬ vI h v0 48 = 0 ∨ x_ok lab use v1 (vA h (v0 + 19) (vI h v0 42)) = false; refine Or.inr ?_; exact (x_ok_s ⟨(Int32.not_le.mp (by assumption)), Int32.le_trans cb.2 (by decide)⟩ (x_jt (ab := x_abr) ((G v1 (Int32.le_refl _) (Int32.not_le.mp (by assumption))).1 (Or.inr cc24)) R1 cc27 (fun z => absurd (Int32.lt_of_le_of_lt (by assumption) z) Int32.lt_irrefl))).trans (g0rz36_37_1.resolve_left (fun z => z (by first | rfl | assumption)))), (fun a k na => by rw [f0rz36_37_I a k (fun z => na (z.elim (fun z => Or.inl z) (fun z => Or.inr (z)))), ih15i25_35 a k]), (fun a na => by rw [f0rz36_37_A a (fun z => na (z)), bh15i25_35 a (fun z => na (z))])⟩⟩
              · skip
                refine l_gR T (d_Mo_20 kv0) ?_
                refine l_aI (e := (vA h (v0 + 15) ((40 * (vI h v0 42)) + v1))) (fun _ => rfl) (fun ix38 => ?_)
                refine l_gO ?_
                refine j_Mod_wrong (v0 := v0) (v1 := (vA h (v0 + 15) ((40 * (vI h v0 42)) + v1))) T kv0 ?_
                intro hr20i25_39 Thr20i25_39 gr20i25_39_0 fr20i25_39_I fr20i25_39_A
                try dsimp only
                refine qi_bs ?_
                refine qi_mono (ih lab use v0 (v1 + 1) hr20i25_39 Thr20i25_39 kv0 (by show 0 ≤ (v1 + 1); exact x_inc2 v10 (Int32.not_le.mp (by assumption))) (by show x_hf (40 * vI hr20i25_39 v0 42); rw [show vI hr20i25_39 v0 42 = (vI h v0 42) from (by rw [fr20i25_39_I v0 42 (by omega)])] <;> (first | assumption | with_reducible rfl | grind)) (by show vI hr20i25_39 v0 48 = 0 → (0 ≤ vA hr20i25_39 (v0 + 19) (vI hr20i25_39 v0 42) ∧ vA hr20i25_39 (v0 + 19) (vI hr20i25_39 v0 42) ≤ 40); rw [show vI hr20i25_39 v0 48 = 1 from (by rw [gr20i25_39_0]), show vA hr20i25_39 (v0 + 19) = vA h (v0 + 19) from (by rw [fr20i25_39_A (v0 + 19) (by omega)]), show vI hr20i25_39 v0 42 = (vI h v0 42) from (by rw [fr20i25_39_I v0 42 (by omega)])] <;> (intro z9; exact absurd z9 (by decide))) (by show vI hr20i25_39 v0 48 = 0 → x_R1 x_abr (vA hr20i25_39 (v0 + 34)) lab; rw [show vI hr20i25_39 v0 48 = 1 from (by rw [gr20i25_39_0]), show vA hr20i25_39 (v0 + 34) = vA h (v0 + 34) from (by rw [fr20i25_39_A (v0 + 34) (by omega)])] <;> (intro z9; exact absurd z9 (by decide))) (by show vI hr20i25_39 v0 48 = 0 → x_G2 (vA hr20i25_39 (v0 + 4)) (vA hr20i25_39 (v0 + 13)) (40 * vI hr20i25_39 v0 42) (v1 + 1) (vA hr20i25_39 (v0 + 19) (vI hr20i25_39 v0 42)) use; rw [show vI hr20i25_39 v0 48 = 1 from (by rw [gr20i25_39_0]), show vA hr20i25_39 (v0 + 4) = vA h (v0 + 4) from (by rw [fr20i25_39_A (v0 + 4) (by omega)]), show vA hr20i25_39 (v0 + 13) = vA h (v0 + 13) from (by rw [fr20i25_39_A (v0 + 13) (by omega)]), show vI hr20i25_39 v0 42 = (vI h v0 42) from (by rw [fr20i25_39_I v0 42 (by omega)]), show vA hr20i25_39 (v0 + 19) = vA h (v0 + 19) from (by rw [fr20i25_39_A (v0 + 19) (by omega)])] <;> (intro z9; exact absurd z9 (by decide)))) ?_
                rintro hrz40_41 ⟨Thrz40_41, ⟨g1rz40_41_0, g1rz40_41_1, g1rz40_41_2, f1rz40_41_I, f1rz40_41_A⟩ | ⟨g0rz40_41_0, g0rz40_41_1, f0rz40_41_I, f0rz40_41_A⟩⟩
                · try dsimp only at *
                  rw [show vI hr20i25_39 v0 48 = 1 from (by rw [gr20i25_39_0])] at g1rz40_41_1
                  rw [show vA hr20i25_39 (v0 + 19) = vA h (v0 + 19) from (by rw [fr20i25_39_A (v0 + 19) (by omega)]), show vI hr20i25_39 v0 42 = (vI h v0 42) from (by rw [fr20i25_39_I v0 42 (by omega)])] at g1rz40_41_2
                  exact absurd g1rz40_41_1 (by decide)
                · try dsimp only at *
                  rw [show vI hr20i25_39 v0 48 = 1 from (by rw [gr20i25_39_0]), show vA hr20i25_39 (v0 + 19) = vA h (v0 + 19) from (by rw [fr20i25_39_A (v0 + 19) (by omega)]), show vI hr20i25_39 v0 42 = (vI h v0 42) from (by rw [fr20i25_39_I v0 42 (by omega)])] at g0rz40_41_1
                  exact ⟨Thrz40_41, Or.inr ⟨g0rz40_41_0, (by show ¬ vI h v0 48 = 0 ∨ x_ok lab use v1 (vA h (v0 + 19) (vI h v0 42)) = false; refine Or.inr ?_; exact x_ok_f ⟨(Int32.not_le.mp (by assumption)), Int32.le_trans cb.2 (by decide)⟩ (x_jf (ab := x_abr) ((G v1 (Int32.le_refl _) (Int32.not_le.mp (by assumption))).1 (Or.inr cc24)) R1 cc27 (Int32.not_le.mp (by assumption)))), (fun a k na => by rw [f0rz40_41_I a k (fun z => na (z.elim (fun z => Or.inl z) (fun z => Or.inr (z)))), fr20i25_39_I a k (fun z => na (z.elim (fun z => Or.inl z) (fun z => Or.inr (z))))]), (fun a na => by rw [f0rz40_41_A a (fun z => na (z)), fr20i25_39_A a (by omega)])⟩⟩
          · skip
            refine qi_bs ?_
            refine qi_mono (ih lab use v0 (v1 + 1) h T kv0 (by show 0 ≤ (v1 + 1); exact x_inc2 v10 (Int32.not_le.mp (by assumption))) hh (by show vI h v0 48 = 0 → (0 ≤ vA h (v0 + 19) (vI h v0 42) ∧ vA h (v0 + 19) (vI h v0 42) ≤ 40); intro z9; exact cb) (by show vI h v0 48 = 0 → x_R1 x_abr (vA h (v0 + 34)) lab; intro z9; exact R1) (by show vI h v0 48 = 0 → x_G2 (vA h (v0 + 4)) (vA h (v0 + 13)) (40 * vI h v0 42) (v1 + 1) (vA h (v0 + 19) (vI h v0 42)) use; intro z9; exact x_G2_w G v10 (Int32.not_le.mp (by assumption)))) ?_
            rintro hrz42_43 ⟨Thrz42_43, ⟨g1rz42_43_0, g1rz42_43_1, g1rz42_43_2, f1rz42_43_I, f1rz42_43_A⟩ | ⟨g0rz42_43_0, g0rz42_43_1, f0rz42_43_I, f0rz42_43_A⟩⟩
            · try dsimp only at *
              exact ⟨Thrz42_43, Or.inl ⟨(by show vI hrz42_43 v0 48 = 0; rw [show vI hrz42_43 v0 48 = 0 from (by rw [g1rz42_43_0])] <;> (first | assumption | with_reducible rfl | grind)), g1rz42_43_1, (by show x_ok lab use v1 (vA h (v0 + 19) (vI h v0 42)) = true; exact (x_ok_s ⟨(Int32.not_le.mp (by assumption)), Int32.le_trans cb.2 (by decide)⟩ (Or.inl ((G v1 (Int32.le_refl _) (Int32.not_le.mp (by assumption))).2 (fun z => z.elim (by assumption) (by assumption))))).trans g1rz42_43_2), (fun a k na => by rw [f1rz42_43_I a k (fun z => na (z.elim (fun z => Or.inl z) (fun z => Or.inr (z))))]), (fun a na => by rw [f1rz42_43_A a (fun z => na (z))])⟩⟩
            · try dsimp only at *
              exact ⟨Thrz42_43, Or.inr ⟨g0rz42_43_0, (by show ¬ vI h v0 48 = 0 ∨ x_ok lab use v1 (vA h (v0 + 19) (vI h v0 42)) = false; refine Or.inr ?_; exact (x_ok_s ⟨(Int32.not_le.mp (by assumption)), Int32.le_trans cb.2 (by decide)⟩ (Or.inl ((G v1 (Int32.le_refl _) (Int32.not_le.mp (by assumption))).2 (fun z => z.elim (by assumption) (by assumption))))).trans (g0rz42_43_1.resolve_left (fun z => z (by first | rfl | assumption)))), (fun a k na => by rw [f0rz42_43_I a k (fun z => na (z.elim (fun z => Or.inl z) (fun z => Or.inr (z))))]), (fun a na => by rw [f0rz42_43_A a (fun z => na (z))])⟩⟩
    · skip
      refine l_gR T (d_Mo_24 kv0) ?_
      refine l_gI (e := (vI h v0 42)) rfl ?_
      refine l_aI (e := (vA h (v0 + 19) (vI h v0 42))) (fun _ => rfl) (fun ix44 => ?_)
      refine qi_if (fun cc45 => ?_) (fun cc45 => ?_)
      · skip
        refine qi_some ?_
        exact ⟨T, Or.inr ⟨fl, (by show ¬ vI h v0 48 = 0 ∨ x_ok lab use v1 (vA h (v0 + 19) (vI h v0 42)) = false; exact Or.inl fl), (fun a k na => by rfl), (fun a na => by rfl)⟩⟩
      · skip
        refine l_gI (e := (vI h v0 48)) rfl ?_
        refine qi_if (fun cc46 => absurd cc46 fl) (fun _ => ?_)
        refine qi_some ?_
        exact ⟨T, Or.inr ⟨fl, (by show ¬ vI h v0 48 = 0 ∨ x_ok lab use v1 (vA h (v0 + 19) (vI h v0 42)) = false; exact Or.inl fl), (fun a k na => by rfl), (fun a na => by rfl)⟩⟩
theorem j_Mod_goals_2 {L : q_L} {π : Nat → Nat → Option Nat} {N : Nat} {lab use : Int32 → Int32} {m9 : Nat} {h : z_H} {v0 : Nat} {v1 : Int32} {β : Type} {f : z_H → Option β} {Q : β → Prop} (T : x_U L π h) (kv0 : q_M L π v0) (v10 : 0 ≤ v1) (hh : x_hf (40 * vI h v0 42)) (cb : vI h v0 48 = 0 → (0 ≤ vA h (v0 + 19) (vI h v0 42) ∧ vA h (v0 + 19) (vI h v0 42) ≤ 40)) (R1 : vI h v0 48 = 0 → x_R1 x_abr (vA h (v0 + 34)) lab) (G : vI h v0 48 = 0 → x_G2 (vA h (v0 + 4)) (vA h (v0 + 13)) (40 * vI h v0 42) v1 (vA h (v0 + 19) (vI h v0 42)) use) (H1 : ∀ h', x_U L π h' → (vI h' v0 48 = 0) → (vI h v0 48 = 0) → (x_ok lab use v1 (vA h (v0 + 19) (vI h v0 42)) = true) → (∀ a k, ¬ ((a = v0 ∧ k = 5) ∨ (a = v0 ∧ k = 48)) → vI h' a k = vI h a k) → (∀ a, ¬ (a = (v0 + 13)) → vA h' a = vA h a) → qi (f h') Q) (H0 : ∀ h', x_U L π h' → (¬ vI h' v0 48 = 0) → (¬ vI h v0 48 = 0 ∨ x_ok lab use v1 (vA h (v0 + 19) (vI h v0 42)) = false) → (∀ a k, ¬ ((a = v0 ∧ k = 5) ∨ (a = v0 ∧ k = 48)) → vI h' a k = vI h a k) → (∀ a, ¬ (a = (v0 + 13)) → vA h' a = vA h a) → qi (f h') Q) : qi (z_b (f_Mod_goals_2 N m9 v0 v1 h) f) Q := by
  refine qi_b (i_Mod_goals_2 m9 lab use v0 v1 h  T kv0 v10 hh cb R1 G) ?_
  rintro hz ⟨Tz, ⟨g0, g1, g2, g3, g4⟩ | ⟨g0, g1, g2, g3⟩⟩
  · exact H1 hz Tz g0 g1 g2 g3 g4
  · exact H0 hz Tz g0 g1 g2 g3

set_option maxHeartbeats 2000000 in
theorem i_Mod_goals {L : q_L} {π : Nat → Nat → Option Nat} {N : Nat} {lab use : Int32 → Int32} {h : z_H} {v0 : Nat} (T : x_U L π h) (kv0 : q_M L π v0) (hh : x_hf (40 * vI h v0 42)) (cb : vI h v0 48 = 0 → (0 ≤ vA h (v0 + 19) (vI h v0 42) ∧ vA h (v0 + 19) (vI h v0 42) ≤ 40)) (R1 : vI h v0 48 = 0 → x_R1 x_abr (vA h (v0 + 34)) lab) (G : vI h v0 48 = 0 → x_G2 (vA h (v0 + 4)) (vA h (v0 + 13)) (40 * vI h v0 42) 0 (vA h (v0 + 19) (vI h v0 42)) use) : qi (f_Mod_goals N v0 h) (fun r => x_U L π r ∧ (((vI r v0 48 = 0) ∧ (vI h v0 48 = 0) ∧ (x_ok lab use 0 (vA h (v0 + 19) (vI h v0 42)) = true) ∧ (∀ a k, ¬ ((a = v0 ∧ k = 5) ∨ (a = v0 ∧ k = 48)) → vI r a k = vI h a k) ∧ (∀ a, ¬ (a = (v0 + 13)) → vA r a = vA h a)) ∨ ((¬ vI r v0 48 = 0) ∧ (¬ vI h v0 48 = 0 ∨ x_ok lab use 0 (vA h (v0 + 19) (vI h v0 42)) = false) ∧ (∀ a k, ¬ ((a = v0 ∧ k = 5) ∨ (a = v0 ∧ k = 48)) → vI r a k = vI h a k) ∧ (∀ a, ¬ (a = (v0 + 13)) → vA r a = vA h a)))) := by
  unfold f_Mod_goals
  refine qi_tail ?_
  refine j_Mod_goals_2 (v0 := v0) (v1 := (0 : Int32)) (lab := lab) (use := use) T kv0 (by show 0 ≤ (0 : Int32); decide) hh cb R1 (by show vI h v0 48 = 0 → x_G2 (vA h (v0 + 4)) (vA h (v0 + 13)) (40 * vI h v0 42) (0 : Int32) (vA h (v0 + 19) (vI h v0 42)) use; first | assumption | with_reducible rfl | grind) ?_ ?_
  · intro hrz1_2 Thrz1_2 g1rz1_2_0 g1rz1_2_1 g1rz1_2_2 f1rz1_2_I f1rz1_2_A
    try dsimp only
    refine qi_some ?_
    exact ⟨Thrz1_2, Or.inl ⟨(by show vI hrz1_2 v0 48 = 0; rw [show vI hrz1_2 v0 48 = 0 from (by rw [g1rz1_2_0])] <;> (first | assumption | with_reducible rfl | grind)), g1rz1_2_1, g1rz1_2_2, (fun a k na => by rw [f1rz1_2_I a k (fun z => na (z.elim (fun z => Or.inl z) (fun z => Or.inr (z))))]), (fun a na => by rw [f1rz1_2_A a (fun z => na (z))])⟩⟩
  · intro hrz1_2 Thrz1_2 g0rz1_2_0 g0rz1_2_1 f0rz1_2_I f0rz1_2_A
    try dsimp only
    refine qi_some ?_
    exact ⟨Thrz1_2, Or.inr ⟨g0rz1_2_0, g0rz1_2_1, (fun a k na => by rw [f0rz1_2_I a k (fun z => na (z.elim (fun z => Or.inl z) (fun z => Or.inr (z))))]), (fun a na => by rw [f0rz1_2_A a (fun z => na (z))])⟩⟩
theorem j_Mod_goals {L : q_L} {π : Nat → Nat → Option Nat} {N : Nat} {lab use : Int32 → Int32} {h : z_H} {v0 : Nat} {β : Type} {f : z_H → Option β} {Q : β → Prop} (T : x_U L π h) (kv0 : q_M L π v0) (hh : x_hf (40 * vI h v0 42)) (cb : vI h v0 48 = 0 → (0 ≤ vA h (v0 + 19) (vI h v0 42) ∧ vA h (v0 + 19) (vI h v0 42) ≤ 40)) (R1 : vI h v0 48 = 0 → x_R1 x_abr (vA h (v0 + 34)) lab) (G : vI h v0 48 = 0 → x_G2 (vA h (v0 + 4)) (vA h (v0 + 13)) (40 * vI h v0 42) 0 (vA h (v0 + 19) (vI h v0 42)) use) (H1 : ∀ h', x_U L π h' → (vI h' v0 48 = 0) → (vI h v0 48 = 0) → (x_ok lab use 0 (vA h (v0 + 19) (vI h v0 42)) = true) → (∀ a k, ¬ ((a = v0 ∧ k = 5) ∨ (a = v0 ∧ k = 48)) → vI h' a k = vI h a k) → (∀ a, ¬ (a = (v0 + 13)) → vA h' a = vA h a) → qi (f h') Q) (H0 : ∀ h', x_U L π h' → (¬ vI h' v0 48 = 0) → (¬ vI h v0 48 = 0 ∨ x_ok lab use 0 (vA h (v0 + 19) (vI h v0 42)) = false) → (∀ a k, ¬ ((a = v0 ∧ k = 5) ∨ (a = v0 ∧ k = 48)) → vI h' a k = vI h a k) → (∀ a, ¬ (a = (v0 + 13)) → vA h' a = vA h a) → qi (f h') Q) : qi (z_b (f_Mod_goals N v0 h) f) Q := by
  refine qi_b (i_Mod_goals  T kv0 hh cb R1 G) ?_
  rintro hz ⟨Tz, ⟨g0, g1, g2, g3, g4⟩ | ⟨g0, g1, g2, g3⟩⟩
  · exact H1 hz Tz g0 g1 g2 g3 g4
  · exact H0 hz Tz g0 g1 g2 g3

