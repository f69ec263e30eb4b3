set_option maxHeartbeats 2000000 in
theorem i_Mod_expect {L : q_L} {π : Nat → Nat → Option Nat} {N : Nat} {t : Int32 → Int32} {n : Int32} {h : z_H} {v0 : Nat} {v1 : Int32} (T : x_U L π h) (kv0 : q_M L π v0) (ht : ∀ j, 0 ≤ j → j < n → vA h (v0 + 1) j = t j) (hn : vI h v0 3 = n) : qi (f_Mod_expect N v0 v1 h) (fun r => x_U L π r ∧ (((vI r v0 48 = 0) ∧ (vI h v0 48 = 0) ∧ (x_lk t n (vI h v0 41) = v1) ∧ (vI r v0 41 = vI h v0 41 + 1) ∧ (∀ a k, ¬ ((a = v0 ∧ k = 41) ∨ (a = v0 ∧ k = 5) ∨ (a = v0 ∧ k = 48)) → vI r a k = vI h a k) ∧ (∀ a, ¬ (a < a) → vA r a = vA h a)) ∨ ((¬ vI r v0 48 = 0) ∧ (¬ vI h v0 48 = 0 ∨ ¬ x_lk t n (vI h v0 41) = v1) ∧ (∀ a k, ¬ ((a = v0 ∧ k = 41) ∨ (a = v0 ∧ k = 5) ∨ (a = v0 ∧ k = 48)) → vI r a k = vI h a k) ∧ (∀ a, ¬ (a < a) → vA r a = vA h a)))) := by
  unfold f_Mod_expect
  refine l_gI (e := (vI h v0 48)) rfl ?_
  refine qi_if (fun cc1 => ?_) (fun cc1 => ?_)
  · skip
    refine l_gO ?_
    refine j_Mod_here (v0 := v0) (t := t) (n := n) (e := (x_lk t n (vI h v0 41))) T kv0 ht hn rfl ?_
    try dsimp only
    refine qi_if (fun cc3 => ?_) (fun cc3 => ?_)
    · skip
      refine l_gI (e := (vI h v0 41)) rfl ?_
      refine l_sI T (q_Mk kv0) (by decide) rfl ?_
      intro h10_4 Th10_4 ih10_4 ah10_4
      refine qi_some ?_
      exact ⟨Th10_4, Or.inl ⟨(by show vI h10_4 v0 48 = 0; rw [show vI h10_4 v0 48 = (vI h v0 48) from (by rw [ih10_4 v0 48, if_neg (fun z => absurd z.2 (by decide))])] <;> (first | assumption | with_reducible rfl | grind)), (by show vI h v0 48 = 0; first | assumption | with_reducible rfl | grind), (by show x_lk t n (vI h v0 41) = v1; first | assumption | with_reducible rfl | grind), (by show vI h10_4 v0 41 = vI h v0 41 + 1; rw [show vI h10_4 v0 41 = ((vI h v0 41) + 1) from (by rw [ih10_4 v0 41, if_pos ⟨rfl, rfl⟩])] <;> (first | assumption | with_reducible rfl | grind)), (fun a k na => by rw [ih10_4 a k, if_neg (fun z => na (Or.inl z))]), (fun a na => by rw [ah10_4 a])⟩⟩
    · skip
      refine l_gI (e := (vI h v0 41)) rfl ?_
      refine l_gO ?_
      refine j_Mod_wrong (v0 := v0) (v1 := (vI h v0 41)) T kv0 ?_
      intro hr8_5 Thr8_5 gr8_5_0 fr8_5_I fr8_5_A
      try dsimp only
      refine qi_some ?_
      exact ⟨Thr8_5, Or.inr ⟨(by show ¬ vI hr8_5 v0 48 = 0; rw [show vI hr8_5 v0 48 = 1 from (by rw [gr8_5_0])] <;> (first | assumption | decide)), (by show ¬ vI h v0 48 = 0 ∨ ¬ x_lk t n (vI h v0 41) = v1; first | exact Or.inl (by assumption) | exact Or.inr (by assumption)), (fun a k na => by rw [fr8_5_I a k (fun z => na (z.elim (fun z => Or.inr (Or.inl z)) (fun z => Or.inr (Or.inr (z)))))]), (fun a na => by rw [fr8_5_A a (by omega)])⟩⟩
  · skip
    refine qi_some ?_
    exact ⟨T, Or.inr ⟨(by show ¬ vI h v0 48 = 0; first | assumption | decide), (by show ¬ vI h v0 48 = 0 ∨ ¬ x_lk t n (vI h v0 41) = v1; first | exact Or.inl (by assumption) | exact Or.inr (by assumption)), (fun a k na => by rfl), (fun a na => by rfl)⟩⟩
theorem j_Mod_expect {L : q_L} {π : Nat → Nat → Option Nat} {N : Nat} {t : Int32 → Int32} {n : Int32} {h : z_H} {v0 : Nat} {v1 : Int32} {β : Type} {f : z_H → Option β} {Q : β → Prop} (T : x_U L π h) (kv0 : q_M L π v0) (ht : ∀ j, 0 ≤ j → j < n → vA h (v0 + 1) j = t j) (hn : vI h v0 3 = n) (H1 : ∀ h', x_U L π h' → (vI h' v0 48 = 0) → (vI h v0 48 = 0) → (x_lk t n (vI h v0 41) = v1) → (vI h' v0 41 = vI h v0 41 + 1) → (∀ a k, ¬ ((a = v0 ∧ k = 41) ∨ (a = v0 ∧ k = 5) ∨ (a = v0 ∧ k = 48)) → vI h' a k = vI h a k) → (∀ a, ¬ (a < a) → vA h' a = vA h a) → qi (f h') Q) (H0 : ∀ h', x_U L π h' → (¬ vI h' v0 48 = 0) → (¬ vI h v0 48 = 0 ∨ ¬ x_lk t n (vI h v0 41) = v1) → (∀ a k, ¬ ((a = v0 ∧ k = 41) ∨ (a = v0 ∧ k = 5) ∨ (a = v0 ∧ k = 48)) → vI h' a k = vI h a k) → (∀ a, ¬ (a < a) → vA h' a = vA h a) → qi (f h') Q) : qi (z_b (f_Mod_expect N v0 v1 h) f) Q := by
  refine qi_b (i_Mod_expect  T kv0 ht hn) ?_
  rintro hz ⟨Tz, ⟨g0, g1, g2, g3, g4, g5⟩ | ⟨g0, g1, g2, g3⟩⟩
  · exact H1 hz Tz g0 g1 g2 g3 g4 g5
  · exact H0 hz Tz g0 g1 g2 g3

set_option maxHeartbeats 2000000 in
theorem i_Mod_stored {L : q_L} {π : Nat → Nat → Option Nat} {N : Nat} {h : z_H} {v0 : Nat} (T : x_U L π h) (kv0 : q_M L π v0)  : qi (f_Mod_stored N v0 h) (fun r => r = (300 * vI h v0 42 + vA h (v0 + 22) (vI h v0 42), h)) := by
  unfold f_Mod_stored
  refine l_gI (e := (vI h v0 42)) rfl ?_
  refine l_gR T (d_Mo_27 kv0) ?_
  refine l_gI (e := (vI h v0 42)) rfl ?_
  refine l_aI (e := (vA h (v0 + 22) (vI h v0 42))) (fun _ => rfl) (fun ix1 => ?_)
  refine qi_some ?_
  exact Prod.ext (by show ((300 * (vI h v0 42)) + (vA h (v0 + 22) (vI h v0 42))) = 300 * vI h v0 42 + vA h (v0 + 22) (vI h v0 42); first | assumption | with_reducible rfl | grind) rfl
theorem j_Mod_stored {L : q_L} {π : Nat → Nat → Option Nat} {N : Nat} {h : z_H} {v0 : Nat} {β : Type} {f : Int32 × z_H → Option β} {Q : β → Prop} {e : Int32} (T : x_U L π h) (kv0 : q_M L π v0)  (he : 300 * vI h v0 42 + vA h (v0 + 22) (vI h v0 42) = e) (H : qi (f (e, h)) Q) : qi (z_b (f_Mod_stored N v0 h) f) Q := by
  refine qi_b (i_Mod_stored  T kv0 ) ?_
  rintro r rfl
  rw [he]; exact H

set_option maxHeartbeats 2000000 in
theorem i_Mod_keep {L : q_L} {π : Nat → Nat → Option Nat} {N : Nat} {h : z_H} {v0 : Nat} {v1 : Int32} (T : x_U L π h) (kv0 : q_M L π v0)  : qi (f_Mod_keep N v0 v1 h) (fun r => x_U L π r ∧ (vA r (v0 + 22) (vI h v0 42) = vA h (v0 + 22) (vI h v0 42) + 1) ∧ (∀ j, 0 ≤ j → vA r (v0 + 28) j = if j = 300 * vI h v0 42 + vA h (v0 + 22) (vI h v0 42) then v1 else vA h (v0 + 28) j) ∧ (0 ≤ 300 * vI h v0 42 + vA h (v0 + 22) (vI h v0 42) ∧ 300 * vI h v0 42 + vA h (v0 + 22) (vI h v0 42) < 600) ∧ (∀ a k, ¬ (a < a) → vI r a k = vI h a k) ∧ (∀ a, ¬ (a = (v0 + 28) ∨ a = (v0 + 22)) → vA r a = vA h a)) := by
  unfold f_Mod_keep
  refine l_gR T (d_Mo_33 kv0) ?_
  refine l_gI (e := (vI h v0 42)) rfl ?_
  refine l_gR T (d_Mo_27 kv0) ?_
  refine l_gI (e := (vI h v0 42)) rfl ?_
  refine l_aI (e := (vA h (v0 + 22) (vI h v0 42))) (fun _ => rfl) (fun ix1 => ?_)
  refine l_uI28 T kv0 ?_
  intro u28h6_2
  intro h6_2 Th6_2 jh6_2 ih6_2 ah6_2 bh6_2
  refine l_gR Th6_2 (d_Mo_27 kv0) ?_
  refine l_gI (e := (vI h v0 42)) (by rw [ih6_2 v0 42]) ?_
  refine l_aI (e := (vA h (v0 + 22) (vI h v0 42))) (fun ix3 => (by rw [bh6_2 (v0 + 22) (by omega)])) (fun ix3 => ?_)
  refine l_uI Th6_2 ?_
  intro h10_4 Th10_4 jh10_4 ih10_4 ah10_4 bh10_4
  refine qi_some ?_
  exact ⟨Th10_4, (by show vA h10_4 (v0 + 22) (vI h v0 42) = vA h (v0 + 22) (vI h v0 42) + 1; rw [show vA h10_4 (v0 + 22) (vI h v0 42) = ((vA h (v0 + 22) (vI h v0 42)) + 1) from (by rw [ah10_4 (v0 + 22) (vI h v0 42) jh10_4, if_pos ⟨rfl, rfl⟩])] <;> (first | assumption | with_reducible rfl | grind)), (fun j j0 => by rw [bh10_4 (v0 + 28) (by omega), ah6_2 (v0 + 28) j j0]; by_cases q : j = 300 * vI h v0 42 + vA h (v0 + 22) (vI h v0 42); (rw [if_pos ⟨rfl, q⟩, if_pos q]); (rw [if_neg (fun z => q z.2), if_neg q])), (by show 0 ≤ 300 * vI h v0 42 + vA h (v0 + 22) (vI h v0 42) ∧ 300 * vI h v0 42 + vA h (v0 + 22) (vI h v0 42) < 600; exact ⟨jh6_2, u28h6_2⟩), (fun a k na => by rw [ih10_4 a k, ih6_2 a k]), (fun a na => by rw [bh10_4 a (fun z => na (Or.inr (z))), bh6_2 a (fun z => na (Or.inl z))])⟩
theorem j_Mod_keep {L : q_L} {π : Nat → Nat → Option Nat} {N : Nat} {h : z_H} {v0 : Nat} {v1 : Int32} {β : Type} {f : z_H → Option β} {Q : β → Prop} (T : x_U L π h) (kv0 : q_M L π v0)  (H : ∀ h', x_U L π h' → (vA h' (v0 + 22) (vI h v0 42) = vA h (v0 + 22) (vI h v0 42) + 1) → (∀ j, 0 ≤ j → vA h' (v0 + 28) j = if j = 300 * vI h v0 42 + vA h (v0 + 22) (vI h v0 42) then v1 else vA h (v0 + 28) j) → (0 ≤ 300 * vI h v0 42 + vA h (v0 + 22) (vI h v0 42) ∧ 300 * vI h v0 42 + vA h (v0 + 22) (vI h v0 42) < 600) → (∀ a k, ¬ (a < a) → vI h' a k = vI h a k) → (∀ a, ¬ (a = (v0 + 28) ∨ a = (v0 + 22)) → vA h' a = vA h a) → qi (f h') Q) : qi (z_b (f_Mod_keep N v0 v1 h) f) Q := by
  refine qi_b (i_Mod_keep  T kv0 ) ?_
  rintro hz ⟨Tz, g0, g1, g2, g3, g4⟩
  exact H hz Tz g0 g1 g2 g3 g4

set_option maxHeartbeats 2000000 in
theorem i_Mod_isPlain {L : q_L} {π : Nat → Nat → Option Nat} {N : Nat} {h : z_H} {v0 : Int32} (T : x_U L π h)   : qi (f_Mod_isPlain N v0 h) (fun r => r.2 = h ∧ (r.1 = 1 ∧ (x_pl v0 = true) ∨ r.1 = 0 ∧ (¬ x_pl v0 = true))) := by
  unfold f_Mod_isPlain
  refine qi_if (fun cc1 => ?_) (fun cc1 => ?_)
  · skip
    refine qi_some ?_
    exact ⟨rfl, Or.inl ⟨rfl, (by show x_pl v0 = true; rw [cc1]; decide)⟩⟩
  · skip
    refine qi_if (fun cc2 => ?_) (fun cc2 => ?_)
    · skip
      refine qi_some ?_
      exact ⟨rfl, Or.inl ⟨rfl, (by show x_pl v0 = true; rw [cc2]; decide)⟩⟩
    · skip
      refine qi_if (fun cc3 => ?_) (fun cc3 => ?_)
      · skip
        refine qi_some ?_
        exact ⟨rfl, Or.inl ⟨rfl, (by show x_pl v0 = true; rw [cc3]; decide)⟩⟩
      · skip
        refine qi_if (fun cc4 => ?_) (fun cc4 => ?_)
        · skip
          refine qi_some ?_
          exact ⟨rfl, Or.inl ⟨rfl, (by show x_pl v0 = true; rw [cc4]; decide)⟩⟩
        · skip
          refine qi_if (fun cc5 => ?_) (fun cc5 => ?_)
          · skip
            refine qi_some ?_
            exact ⟨rfl, Or.inl ⟨rfl, (by show x_pl v0 = true; rw [cc5]; decide)⟩⟩
          · skip
            refine qi_if (fun cc6 => ?_) (fun cc6 => ?_)
            · skip
              refine qi_some ?_
              exact ⟨rfl, Or.inl ⟨rfl, (by show x_pl v0 = true; rw [cc6]; decide)⟩⟩
            · skip
              refine qi_if (fun cc7 => ?_) (fun cc7 => ?_)
              · skip
                refine qi_some ?_
                exact ⟨rfl, Or.inl ⟨rfl, (by show x_pl v0 = true; rw [cc7]; decide)⟩⟩
              · skip
                refine qi_if (fun cc8 => ?_) (fun cc8 => ?_)
                · skip
                  refine qi_some ?_
                  exact ⟨rfl, Or.inl ⟨rfl, (by show x_pl v0 = true; rw [cc8]; decide)⟩⟩
                · skip
                  refine qi_if (fun cc9 => ?_) (fun cc9 => ?_)
                  · skip
                    refine qi_some ?_
                    exact ⟨rfl, Or.inl ⟨rfl, (by show x_pl v0 = true; rw [cc9]; decide)⟩⟩
                  · skip
                    refine qi_if (fun cc10 => ?_) (fun cc10 => ?_)
                    · skip
                      refine qi_some ?_
                      exact ⟨rfl, Or.inl ⟨rfl, (by show x_pl v0 = true; rw [cc10]; decide)⟩⟩
                    · skip
                      refine qi_if (fun cc11 => ?_) (fun cc11 => ?_)
                      · skip
                        refine qi_some ?_
                        exact ⟨rfl, Or.inl ⟨rfl, (by show x_pl v0 = true; rw [cc11]; decide)⟩⟩
                      · skip
                        refine qi_if (fun cc12 => ?_) (fun cc12 => ?_)
                        · skip
                          refine qi_some ?_
                          exact ⟨rfl, Or.inl ⟨rfl, (by show x_pl v0 = true; rw [cc12]; decide)⟩⟩
                        · skip
                          refine qi_if (fun cc13 => ?_) (fun cc13 => ?_)
                          · skip
                            refine qi_some ?_
                            exact ⟨rfl, Or.inl ⟨rfl, (by show x_pl v0 = true; rw [cc13]; decide)⟩⟩
                          · skip
                            refine qi_some ?_
                            exact ⟨rfl, Or.inr ⟨rfl, (by show ¬ x_pl v0 = true; exact x_pl0_ (by assumption) (by assumption) (by assumption) (by assumption) (by assumption) (by assumption) (by assumption) (by assumption) (by assumption) (by assumption) (by assumption) (by assumption) (by assumption))⟩⟩
theorem j_Mod_isPlain {L : q_L} {π : Nat → Nat → Option Nat} {N : Nat} {h : z_H} {v0 : Int32} {β : Type} {f : Int32 × z_H → Option β} {Q : β → Prop} (T : x_U L π h)   (H1 : ∀ _u : Unit, (x_pl v0 = true) → qi (f (1, h)) Q) (H0 : ∀ _u : Unit, (¬ x_pl v0 = true) → qi (f (0, h)) Q) : qi (z_b (f_Mod_isPlain N v0 h) f) Q := by
  refine qi_b (i_Mod_isPlain  T  ) ?_
  rintro ⟨y, hz⟩ ⟨e, ⟨ey, g0⟩ | ⟨ey, g0⟩⟩
  · dsimp only at *; subst ey; subst e; exact H1 () g0
  · dsimp only at *; subst ey; subst e; exact H0 () g0

set_option maxHeartbeats 2000000 in
theorem i_Mod_closed {L : q_L} {π : Nat → Nat → Option Nat} {N : Nat} {t : Int32 → Int32} {n : Int32} {h : z_H} {v0 : Nat} (T : x_U L π h) (kv0 : q_M L π v0) (ht : ∀ j, 0 ≤ j → j < n → vA h (v0 + 1) j = t j) (hn : vI h v0 3 = n) : qi (f_Mod_closed N v0 h) (fun r => x_U L π r ∧ (((vI r v0 48 = 0) ∧ (vI h v0 48 = 0) ∧ (x_end (x_lk t n (vI h v0 41)) = true) ∧ (∀ a k, ¬ ((a = v0 ∧ k = 5) ∨ (a = v0 ∧ k = 48)) → vI r a k = vI h a k) ∧ (∀ a, ¬ (a < a) → vA r a = vA h a)) ∨ ((¬ vI r v0 48 = 0) ∧ (¬ vI h v0 48 = 0 ∨ ¬ x_end (x_lk t n (vI h v0 41)) = true) ∧ (∀ a k, ¬ ((a = v0 ∧ k = 5) ∨ (a = v0 ∧ k = 48)) → vI r a k = vI h a k) ∧ (∀ a, ¬ (a < a) → vA r a = vA h a)))) := by
  unfold f_Mod_closed
  refine l_gO ?_
  refine j_Mod_here (v0 := v0) (t := t) (n := n) (e := (x_lk t n (vI h v0 41))) T kv0 ht hn rfl ?_
  try dsimp only
  refine qi_bs ?_
  refine l_gI (e := (vI h v0 48)) rfl ?_
  refine qi_if (fun cc2 => ?_) (fun cc2 => ?_)
  · skip
    refine qi_if (fun cc3 => ?_) (fun cc3 => ?_)
    · skip
      refine qi_some ?_
      exact ⟨T, Or.inl ⟨(by show vI h v0 48 = 0; first | assumption | with_reducible rfl | grind), (by show vI h v0 48 = 0; first | assumption | with_reducible rfl | grind), (by show x_end (x_lk t n (vI h v0 41)) = true; exact x_end1 (by (first | grind (ematch := 0) | grind))), (fun a k na => by rfl), (fun a na => by rfl)⟩⟩
    · skip
      refine qi_if (fun cc4 => ?_) (fun cc4 => ?_)
      · skip
        refine qi_some ?_
        exact ⟨T, Or.inl ⟨(by show vI h v0 48 = 0; first | assumption | with_reducible rfl | grind), (by show vI h v0 48 = 0; first | assumption | with_reducible rfl | grind), (by show x_end (x_lk t n (vI h v0 41)) = true; exact x_end1 (by (first | grind (ematch := 0) | grind))), (fun a k na => by rfl), (fun a na => by rfl)⟩⟩
      · skip
        refine qi_if (fun cc5 => ?_) (fun cc5 => ?_)
        · skip
          refine qi_some ?_
          exact ⟨T, Or.inl ⟨(by show vI h v0 48 = 0; first | assumption | with_reducible rfl | grind), (by show vI h v0 48 = 0; first | assumption | with_reducible rfl | grind), (by show x_end (x_lk t n (vI h v0 41)) = true; exact x_end1 (by (first | grind (ematch := 0) | grind))), (fun a k na => by rfl), (fun a na => by rfl)⟩⟩
        · skip
          refine qi_if (fun cc6 => ?_) (fun cc6 => ?_)
          · skip
            refine qi_some ?_
            exact ⟨T, Or.inl ⟨(by show vI h v0 48 = 0; first | assumption | with_reducible rfl | grind), (by show vI h v0 48 = 0; first | assumption | with_reducible rfl | grind), (by show x_end (x_lk t n (vI h v0 41)) = true; exact x_end1 (by (first | grind (ematch := 0) | grind))), (fun a k na => by rfl), (fun a na => by rfl)⟩⟩
          · skip
            refine qi_if (fun cc7 => ?_) (fun cc7 => ?_)
            · skip
              refine qi_some ?_
              exact ⟨T, Or.inl ⟨(by show vI h v0 48 = 0; first | assumption | with_reducible rfl | grind), (by show vI h v0 48 = 0; first | assumption | with_reducible rfl | grind), (by show x_end (x_lk t n (vI h v0 41)) = true; exact x_end1 (by (first | grind (ematch := 0) | grind))), (fun a k na => by rfl), (fun a na => by rfl)⟩⟩
            · skip
              refine l_gI (e := (vI h v0 41)) rfl ?_
              refine l_gO ?_
              refine j_Mod_wrong (v0 := v0) (v1 := (vI h v0 41)) T kv0 ?_
              intro hr13_8 Thr13_8 gr13_8_0 fr13_8_I fr13_8_A
              try dsimp only
              refine qi_some ?_
              exact ⟨Thr13_8, Or.inr ⟨(by show ¬ vI hr13_8 v0 48 = 0; rw [show vI hr13_8 v0 48 = 1 from (by rw [gr13_8_0])] <;> (first | assumption | decide)), (by show ¬ vI h v0 48 = 0 ∨ ¬ x_end (x_lk t n (vI h v0 41)) = true; first | exact Or.inl (by assumption) | exact Or.inr (x_end0 (by assumption) (by assumption) (by assumption) (by assumption) (by assumption))), (fun a k na => by rw [fr13_8_I a k (fun z => na (z.elim (fun z => Or.inl z) (fun z => Or.inr (z))))]), (fun a na => by rw [fr13_8_A a (by omega)])⟩⟩
  · skip
    refine qi_some ?_
    exact ⟨T, Or.inr ⟨(by show ¬ vI h v0 48 = 0; first | assumption | decide), (by show ¬ vI h v0 48 = 0 ∨ ¬ x_end (x_lk t n (vI h v0 41)) = true; first | exact Or.inl (by assumption) | exact Or.inr (x_end0 (by assumption) (by assumption) (by assumption) (by assumption) (by assumption))), (fun a k na => by rfl), (fun a na => by rfl)⟩⟩
theorem j_Mod_closed {L : q_L} {π : Nat → Nat → Option Nat} {N : Nat} {t : Int32 → Int32} {n : Int32} {h : z_H} {v0 : Nat} {β : Type} {f : z_H → Option β} {Q : β → Prop} (T : x_U L π h) (kv0 : q_M L π v0) (ht : ∀ j, 0 ≤ j → j < n → vA h (v0 + 1) j = t j) (hn : vI h v0 3 = n) (H1 : ∀ h', x_U L π h' → (vI h' v0 48 = 0) → (vI h v0 48 = 0) → (x_end (x_lk t n (vI h v0 41)) = true) → (∀ a k, ¬ ((a = v0 ∧ k = 5) ∨ (a = v0 ∧ k = 48)) → vI h' a k = vI h a k) → (∀ a, ¬ (a < a) → vA h' a = vA h a) → qi (f h') Q) (H0 : ∀ h', x_U L π h' → (¬ vI h' v0 48 = 0) → (¬ vI h v0 48 = 0 ∨ ¬ x_end (x_lk t n (vI h v0 41)) = true) → (∀ a k, ¬ ((a = v0 ∧ k = 5) ∨ (a = v0 ∧ k = 48)) → vI h' a k = vI h a k) → (∀ a, ¬ (a < a) → vA h' a = vA h a) → qi (f h') Q) : qi (z_b (f_Mod_closed N v0 h) f) Q := by
  refine qi_b (i_Mod_closed  T kv0 ht hn) ?_
  rintro hz ⟨Tz, ⟨g0, g1, g2, g3, g4⟩ | ⟨g0, g1, g2, g3⟩⟩
  · exact H1 hz Tz g0 g1 g2 g3 g4
  · exact H0 hz Tz g0 g1 g2 g3

set_option maxHeartbeats 2000000 in
theorem i_Mod_blanks_0 {L : q_L} {π : Nat → Nat → Option Nat} {N : Nat} {t : Int32 → Int32} {n : Int32} : ∀ (m9 : Nat) (v0 : Nat) (h : z_H), x_U L π h → q_M L π v0 → (∀ j, 0 ≤ j → j < n → vA h (v0 + 1) j = t j) → (vI h v0 3 = n) → (n ≤ 240) → (∀ j, t j ≠ -1) → (0 ≤ vI h v0 41) → qi (f_Mod_blanks_0 N m9 v0 h) (fun r => x_U L π r ∧ (vI r v0 41 = x_bl t n (vI h v0 41)) ∧ (∀ a k, ¬ ((a = v0 ∧ k = 41)) → vI r a k = vI h a k) ∧ (∀ a, ¬ (a < a) → vA r a = vA h a)) := by
  intro m9
  induction m9 with
  | zero => intro v0 h T kv0 ht hn n1 tp a0 r e; rw [f_Mod_blanks_0] at e; cases e
  | succ m9 ih =>
    intro v0 h T kv0 ht hn n1 tp a0
    rw [f_Mod_blanks_0]
    have n2 : n ≤ 1000 := Int32.le_trans n1 (by decide)
    refine l_gO ?_
    refine j_Mod_here (v0 := v0) (t := t) (n := n) (e := (x_lk t n (vI h v0 41))) T kv0 ht hn rfl ?_
    try dsimp only
    refine qi_if (fun cc2 => ?_) (fun cc2 => ?_)
    · skip
      refine l_gI (e := (vI h v0 41)) rfl ?_
      refine l_sI T (q_Mk kv0) (by decide) rfl ?_
      intro h5_3 Th5_3 ih5_3 ah5_3
      refine qi_mono (ih v0 h5_3 Th5_3 kv0 (by show ∀ j, 0 ≤ j → j < n → vA h5_3 (v0 + 1) j = t j; rw [show vA h5_3 (v0 + 1) = vA h (v0 + 1) from (by rw [ah5_3 (v0 + 1)])] <;> (first | assumption | with_reducible rfl | grind)) (by show vI h5_3 v0 3 = n; rw [show vI h5_3 v0 3 = (vI h v0 3) from (by rw [ih5_3 v0 3, if_neg (fun z => absurd z.2 (by decide))])] <;> (first | assumption | with_reducible rfl | grind)) n1 tp (by show 0 ≤ vI h5_3 v0 41; rw [show vI h5_3 v0 41 = ((vI h v0 41) + 1) from (by rw [ih5_3 v0 41, if_pos ⟨rfl, rfl⟩])] <;> (exact x_0le a0 (x_lp1 n2 (t := t) (x_ne (by assumption)))))) ?_
      rintro hrz4_5 ⟨Thrz4_5, grz4_5_0, frz4_5_I, frz4_5_A⟩
      try dsimp only at *
      rw [show vI h5_3 v0 41 = ((vI h v0 41) + 1) from (by rw [ih5_3 v0 41, if_pos ⟨rfl, rfl⟩])] at grz4_5_0
      exact ⟨Thrz4_5, (by show vI hrz4_5 v0 41 = x_bl t n (vI h v0 41); rw [show vI hrz4_5 v0 41 = (x_bl t n ((vI h v0 41) + 1)) from (by rw [grz4_5_0])] <;> (first | exact (x_bl_32 n2 (by assumption)).symm | exact (x_bl_no (by assumption)).symm)), (fun a k na => by rw [frz4_5_I a k (fun z => na (z)), ih5_3 a k, if_neg (fun z => na (z))]), (fun a na => by rw [frz4_5_A a (by omega), ah5_3 a])⟩
    · skip
      refine qi_some ?_
      exact ⟨T, (by show vI h v0 41 = x_bl t n (vI h v0 41); first | exact (x_bl_32 n2 (by assumption)).symm | exact (x_bl_no (by assumption)).symm), (fun a k na => by rfl), (fun a na => by rfl)⟩
theorem j_Mod_blanks_0 {L : q_L} {π : Nat → Nat → Option Nat} {N : Nat} {t : Int32 → Int32} {n : Int32} {m9 : Nat} {h : z_H} {v0 : Nat} {β : Type} {f : z_H → Option β} {Q : β → Prop} (T : x_U L π h) (kv0 : q_M L π v0) (ht : ∀ j, 0 ≤ j → j < n → vA h (v0 + 1) j = t j) (hn : vI h v0 3 = n) (n1 : n ≤ 240) (tp : ∀ j, t j ≠ -1) (a0 : 0 ≤ vI h v0 41) (H : ∀ h', x_U L π h' → (vI h' v0 41 = x_bl t n (vI h v0 41)) → (∀ a k, ¬ ((a = v0 ∧ k = 41)) → vI h' a k = vI h a k) → (∀ a, ¬ (a < a) → vA h' a = vA h a) → qi (f h') Q) : qi (z_b (f_Mod_blanks_0 N m9 v0 h) f) Q := by
  refine qi_b (i_Mod_blanks_0 m9 v0 h  T kv0 ht hn n1 tp a0) ?_
  rintro hz ⟨Tz, g0, g1, g2⟩
  exact H hz Tz g0 g1 g2

set_option maxHeartbeats 2000000 in
theorem i_Mod_blanks {L : q_L} {π : Nat → Nat → Option Nat} {N : Nat} {t : Int32 → Int32} {n : Int32} {h : z_H} {v0 : Nat} (T : x_U L π h) (kv0 : q_M L π v0) (ht : ∀ j, 0 ≤ j → j < n → vA h (v0 + 1) j = t j) (hn : vI h v0 3 = n) (n1 : n ≤ 240) (tp : ∀ j, t j ≠ -1) (a0 : 0 ≤ vI h v0 41) : qi (f_Mod_blanks N v0 h) (fun r => x_U L π r ∧ (vI r v0 41 = x_bl t n (vI h v0 41)) ∧ (∀ a k, ¬ ((a = v0 ∧ k = 41)) → vI r a k = vI h a k) ∧ (∀ a, ¬ (a < a) → vA r a = vA h a)) := by
  have n2 : n ≤ 1000 := Int32.le_trans n1 (by decide)
  unfold f_Mod_blanks
  refine qi_tail ?_
  refine j_Mod_blanks_0 (v0 := v0) (t := t) (n := n) T kv0 ht hn n1 tp a0 ?_
  intro hrz1_2 Thrz1_2 grz1_2_0 frz1_2_I frz1_2_A
  try dsimp only
  refine qi_some ?_
  exact ⟨Thrz1_2, (by show vI hrz1_2 v0 41 = x_bl t n (vI h v0 41); rw [show vI hrz1_2 v0 41 = (x_bl t n (vI h v0 41)) from (by rw [grz1_2_0])] <;> (first | assumption | with_reducible rfl | grind)), (fun a k na => by rw [frz1_2_I a k (fun z => na (z))]), (fun a na => by rw [frz1_2_A a (by omega)])⟩
theorem j_Mod_blanks {L : q_L} {π : Nat → Nat → Option Nat} {N : Nat} {t : Int32 → Int32} {n : Int32} {h : z_H} {v0 : Nat} {β : Type} {f : z_H → Option β} {Q : β → Prop} (T : x_U L π h) (kv0 : q_M L π v0) (ht : ∀ j, 0 ≤ j → j < n → vA h (v0 + 1) j = t j) (hn : vI h v0 3 = n) (n1 : n ≤ 240) (tp : ∀ j, t j ≠ -1) (a0 : 0 ≤ vI h v0 41) (H : ∀ h', x_U L π h' → (vI h' v0 41 = x_bl t n (vI h v0 41)) → (∀ a k, ¬ ((a = v0 ∧ k = 41)) → vI h' a k = vI h a k) → (∀ a, ¬ (a < a) → vA h' a = vA h a) → qi (f h') Q) : qi (z_b (f_Mod_blanks N v0 h) f) Q := by
  refine qi_b (i_Mod_blanks  T kv0 ht hn n1 tp a0) ?_
  rintro hz ⟨Tz, g0, g1, g2⟩
  exact H hz Tz g0 g1 g2

set_option maxHeartbeats 4000000 in
theorem i_Mod_address {L : q_L} {π : Nat → Nat → Option Nat} {N : Nat} {t : Int32 → Int32} {n : Int32} {h : z_H} {v0 : Nat} (T : x_U L π h) (kv0 : q_M L π v0) (ht : ∀ j, 0 ≤ j → j < n → vA h (v0 + 1) j = t j) (hn : vI h v0 3 = n) (n1 : n ≤ 240) (tp : ∀ j, t j ≠ -1) (bd : vI h v0 48 = 0) (a0 : 0 ≤ vI h v0 41) : qi (f_Mod_address N v0 h) (fun r => x_U L π r.2 ∧ (((vI r.2 v0 48 = 0) ∧ (r.1 ≤ 0 → ¬ (x_lk t n (vI h v0 41) = 36 ∨ x_lk t n (vI h v0 41) = 47 ∨ (49 ≤ x_lk t n (vI h v0 41) ∧ x_lk t n (vI h v0 41) ≤ 57)) ∧ vI r.2 v0 41 = vI h v0 41) ∧ (¬ r.1 ≤ 0 → x_adr t n (vI h v0 41) = some (vI r.2 v0 41)) ∧ (0 ≤ r.1) ∧ (∀ a k, ¬ ((a = v0 ∧ k = 47) ∨ (a = v0 ∧ k = 41) ∨ (a = v0 ∧ k = 44) ∨ (a = v0 ∧ k = 45) ∨ (a = v0 ∧ k = 46) ∨ (a = v0 ∧ k = 49) ∨ (a = v0 ∧ k = 50) ∨ (a = v0 ∧ k = 5) ∨ (a = v0 ∧ k = 48)) → vI r.2 a k = vI h a k) ∧ (∀ a, ¬ (a = (v0 + 23) ∨ a = (v0 + 30) ∨ a = (v0 + 31) ∨ a = (v0 + 24) ∨ a = (v0 + 25) ∨ a = (v0 + 20) ∨ a = (v0 + 26) ∨ a = (v0 + 27) ∨ a = (v0 + 29) ∨ a = (v0 + 21)) → vA r.2 a = vA h a)) ∨ ((¬ vI r.2 v0 48 = 0) ∧ (x_adr t n (vI h v0 41) = none) ∧ (x_lk t n (vI h v0 41) = 47) ∧ (∀ a k, ¬ ((a = v0 ∧ k = 47) ∨ (a = v0 ∧ k = 41) ∨ (a = v0 ∧ k = 44) ∨ (a = v0 ∧ k = 45) ∨ (a = v0 ∧ k = 46) ∨ (a = v0 ∧ k = 49) ∨ (a = v0 ∧ k = 50) ∨ (a = v0 ∧ k = 5) ∨ (a = v0 ∧ k = 48)) → vI r.2 a k = vI h a k) ∧ (∀ a, ¬ (a = (v0 + 23) ∨ a = (v0 + 30) ∨ a = (v0 + 31) ∨ a = (v0 + 24) ∨ a = (v0 + 25) ∨ a = (v0 + 20) ∨ a = (v0 + 26) ∨ a = (v0 + 27) ∨ a = (v0 + 29) ∨ a = (v0 + 21)) → vA r.2 a = vA h a)))) := by
  have n2 : n ≤ 1000 := Int32.le_trans n1 (by decide)
  unfold f_Mod_address
  refine l_gO ?_
  refine j_Mod_here (v0 := v0) (t := t) (n := n) (e := (x_lk t n (vI h v0 41))) T kv0 ht hn rfl ?_
  try dsimp only
  refine qi_bs ?_
  refine l_sI T (q_Mk kv0) (by decide) rfl ?_
  intro h4_2 Th4_2 ih4_2 ah4_2
  refine j_Mod_in (v0 := (x_lk t n (vI h v0 41))) (v1 := (49 : Int32)) (v2 := (57 : Int32)) Th4_2 (fun _ g1r5_3_0 => ?_) (fun _ g0r5_3_0 => ?_)
  · try dsimp only
    refine qi_if (fun cc4 => absurd cc4 (by decide)) (fun _ => ?_)
    refine l_sI Th4_2 (q_Mk kv0) (by decide) rfl ?_
    intro h16_5 Th16_5 ih16_5 ah16_5
    refine l_gI (e := (vI h v0 41)) (by rw [ih16_5 v0 41, if_neg (fun z => absurd z.2 (by decide)), ih4_2 v0 41, if_neg (fun z => absurd z.2 (by decide))]) ?_
    refine l_sI Th16_5 (q_Mk kv0) (by decide) rfl ?_
    intro h18_6 Th18_6 ih18_6 ah18_6
    refine l_gO ?_
    refine j_Mod_here (v0 := v0) (t := t) (n := n) (e := (x_lk t n ((vI h v0 41) + 1))) Th18_6 kv0 (by show ∀ j, 0 ≤ j → j < n → vA h18_6 (v0 + 1) j = t j; rw [show vA h18_6 (v0 + 1) = vA h (v0 + 1) from (by rw [ah18_6 (v0 + 1), ah16_5 (v0 + 1), ah4_2 (v0 + 1)])] <;> (first | assumption | with_reducible rfl | grind)) (by show vI h18_6 v0 3 = n; rw [show vI h18_6 v0 3 = (vI h v0 3) from (by rw [ih18_6 v0 3, if_neg (fun z => absurd z.2 (by decide)), ih16_5 v0 3, if_neg (fun z => absurd z.2 (by decide)), ih4_2 v0 3, if_neg (fun z => absurd z.2 (by decide))])] <;> (first | assumption | with_reducible rfl | grind)) (by rw [show vI h18_6 v0 41 = ((vI h v0 41) + 1) from (by rw [ih18_6 v0 41, if_pos ⟨rfl, rfl⟩])]) ?_
    try dsimp only
    refine j_Mod_in (v0 := ((x_lk t n ((vI h v0 41) + 1)))) (v1 := (48 : Int32)) (v2 := (57 : Int32)) Th18_6 (fun _ g1r21_8_0 => ?_) (fun _ g0r21_8_0 => ?_)
    · try dsimp only
      refine qi_if (fun cc9 => absurd cc9 (by decide)) (fun _ => ?_)
      refine l_gI (e := ((x_lk t n (vI h v0 41)) - 48)) (by rw [ih18_6 v0 47, if_neg (fun z => absurd z.2 (by decide)), ih16_5 v0 47, if_pos ⟨rfl, rfl⟩]) ?_
      refine l_gO ?_
      refine j_Mod_here (v0 := v0) (t := t) (n := n) (e := (x_lk t n ((vI h v0 41) + 1))) Th18_6 kv0 (by show ∀ j, 0 ≤ j → j < n → vA h18_6 (v0 + 1) j = t j; rw [show vA h18_6 (v0 + 1) = vA h (v0 + 1) from (by rw [ah18_6 (v0 + 1), ah16_5 (v0 + 1), ah4_2 (v0 + 1)])] <;> (first | assumption | with_reducible rfl | grind)) (by show vI h18_6 v0 3 = n; rw [show vI h18_6 v0 3 = (vI h v0 3) from (by rw [ih18_6 v0 3, if_neg (fun z => absurd z.2 (by decide)), ih16_5 v0 3, if_neg (fun z => absurd z.2 (by decide)), ih4_2 v0 3, if_neg (fun z => absurd z.2 (by decide))])] <;> (first | assumption | with_reducible rfl | grind)) (by rw [show vI h18_6 v0 41 = ((vI h v0 41) + 1) from (by rw [ih18_6 v0 41, if_pos ⟨rfl, rfl⟩])]) ?_
      try dsimp only
      refine l_sI Th18_6 (q_Mk kv0) (by decide) rfl ?_
      intro h26_11 Th26_11 ih26_11 ah26_11
      refine l_gI (e := ((vI h v0 41) + 1)) (by rw [ih26_11 v0 41, if_neg (fun z => absurd z.2 (by decide)), ih18_6 v0 41, if_pos ⟨rfl, rfl⟩]) ?_
      refine l_sI Th26_11 (q_Mk kv0) (by decide) rfl ?_
      intro h28_12 Th28_12 ih28_12 ah28_12
      refine qi_some ?_
      exact ⟨Th28_12, Or.inl ⟨(by show vI h28_12 v0 48 = 0; rw [show vI h28_12 v0 48 = (vI h v0 48) from (by rw [ih28_12 v0 48, if_neg (fun z => absurd z.2 (by decide)), ih26_11 v0 48, if_neg (fun z => absurd z.2 (by decide)), ih18_6 v0 48, if_neg (fun z => absurd z.2 (by decide)), ih16_5 v0 48, if_neg (fun z => absurd z.2 (by decide)), ih4_2 v0 48, if_neg (fun z => absurd z.2 (by decide))])] <;> (first | assumption | with_reducible rfl | grind)), (by show (1 : Int32) ≤ 0 → ¬ (x_lk t n (vI h v0 41) = 36 ∨ x_lk t n (vI h v0 41) = 47 ∨ (49 ≤ x_lk t n (vI h v0 41) ∧ x_lk t n (vI h v0 41) ≤ 57)) ∧ vI h28_12 v0 41 = vI h v0 41; rw [show vI h28_12 v0 41 = (((vI h v0 41) + 1) + 1) from (by rw [ih28_12 v0 41, if_pos ⟨rfl, rfl⟩])] <;> ((try simp only [Int32.add_zero, x_s11, x_s12, x_s21, x_s13, x_s22, x_s31]) <;> (intro z; exact absurd z (by decide)))), (by show ¬ (1 : Int32) ≤ 0 → x_adr t n (vI h v0 41) = some (vI h28_12 v0 41); rw [show vI h28_12 v0 41 = (((vI h v0 41) + 1) + 1) from (by rw [ih28_12 v0 41, if_pos ⟨rfl, rfl⟩])] <;> ((try simp only [Int32.add_zero, x_s11, x_s12, x_s21, x_s13, x_s22, x_s31]) <;> (intro _; exact x_adrd1 (x_n47 (by assumption)) (x_n36 (by assumption)) (Or.inr (Or.inr (by assumption))) (by assumption)))), (by show 0 ≤ (1 : Int32); decide), (fun a k na => by rw [ih28_12 a k, if_neg (fun z => na (Or.inr (Or.inl z))), ih26_11 a k, if_neg (fun z => na (Or.inl z)), ih18_6 a k, if_neg (fun z => na (Or.inr (Or.inl z))), ih16_5 a k, if_neg (fun z => na (Or.inl z)), ih4_2 a k, if_neg (fun z => na (Or.inl z))]), (fun a na => by rw [ah28_12 a, ah26_11 a, ah18_6 a, ah16_5 a, ah4_2 a])⟩⟩
    · try dsimp only
      refine qi_if (fun _ => ?_) (fun cc13 => absurd (by decide) cc13)
      refine qi_some ?_
      exact ⟨Th18_6, Or.inl ⟨(by show vI h18_6 v0 48 = 0; rw [show vI h18_6 v0 48 = (vI h v0 48) from (by rw [ih18_6 v0 48, if_neg (fun z => absurd z.2 (by decide)), ih16_5 v0 48, if_neg (fun z => absurd z.2 (by decide)), ih4_2 v0 48, if_neg (fun z => absurd z.2 (by decide))])] <;> (first | assumption | with_reducible rfl | grind)), (by show (1 : Int32) ≤ 0 → ¬ (x_lk t n (vI h v0 41) = 36 ∨ x_lk t n (vI h v0 41) = 47 ∨ (49 ≤ x_lk t n (vI h v0 41) ∧ x_lk t n (vI h v0 41) ≤ 57)) ∧ vI h18_6 v0 41 = vI h v0 41; rw [show vI h18_6 v0 41 = ((vI h v0 41) + 1) from (by rw [ih18_6 v0 41, if_pos ⟨rfl, rfl⟩])] <;> (intro z; exact absurd z (by decide))), (by show ¬ (1 : Int32) ≤ 0 → x_adr t n (vI h v0 41) = some (vI h18_6 v0 41); rw [show vI h18_6 v0 41 = ((vI h v0 41) + 1) from (by rw [ih18_6 v0 41, if_pos ⟨rfl, rfl⟩])] <;> (intro _; exact x_adrd0 (x_n47 (by assumption)) (x_n36 (by assumption)) (Or.inr (Or.inr (by assumption))) (by assumption))), (by show 0 ≤ (1 : Int32); decide), (fun a k na => by rw [ih18_6 a k, if_neg (fun z => na (Or.inr (Or.inl z))), ih16_5 a k, if_neg (fun z => na (Or.inl z)), ih4_2 a k, if_neg (fun z => na (Or.inl z))]), (fun a na => by rw [ah18_6 a, ah16_5 a, ah4_2 a])⟩⟩
  · try dsimp only
    refine qi_if (fun _ => ?_) (fun cc14 => absurd (by decide) cc14)
    refine qi_if (fun cc15 => ?_) (fun cc15 => ?_)
    · skip
      refine l_gI (e := (vI h v0 41)) (by rw [ih4_2 v0 41, if_neg (fun z => absurd z.2 (by decide))]) ?_
      refine l_sI Th4_2 (q_Mk kv0) (by decide) rfl ?_
      intro h15_16 Th15_16 ih15_16 ah15_16
      refine qi_some ?_
      exact ⟨Th15_16, Or.inl ⟨(by show vI h15_16 v0 48 = 0; rw [show vI h15_16 v0 48 = (vI h v0 48) from (by rw [ih15_16 v0 48, if_neg (fun z => absurd z.2 (by decide)), ih4_2 v0 48, if_neg (fun z => absurd z.2 (by decide))])] <;> (first | assumption | with_reducible rfl | grind)), (by show (2 : Int32) ≤ 0 → ¬ (x_lk t n (vI h v0 41) = 36 ∨ x_lk t n (vI h v0 41) = 47 ∨ (49 ≤ x_lk t n (vI h v0 41) ∧ x_lk t n (vI h v0 41) ≤ 57)) ∧ vI h15_16 v0 41 = vI h v0 41; rw [show vI h15_16 v0 41 = ((vI h v0 41) + 1) from (by rw [ih15_16 v0 41, if_pos ⟨rfl, rfl⟩])] <;> (intro z; exact absurd z (by decide))), (by show ¬ (2 : Int32) ≤ 0 → x_adr t n (vI h v0 41) = some (vI h15_16 v0 41); rw [show vI h15_16 v0 41 = ((vI h v0 41) + 1) from (by rw [ih15_16 v0 41, if_pos ⟨rfl, rfl⟩])] <;> (intro _; exact x_adr36 (by assumption))), (by show 0 ≤ (2 : Int32); decide), (fun a k na => by rw [ih15_16 a k, if_neg (fun z => na (Or.inr (Or.inl z))), ih4_2 a k, if_neg (fun z => na (Or.inl z))]), (fun a na => by rw [ah15_16 a, ah4_2 a])⟩⟩
    · skip
      refine qi_if (fun cc17 => ?_) (fun cc17 => ?_)
      · skip
        refine l_gI (e := (vI h v0 41)) (by rw [ih4_2 v0 41, if_neg (fun z => absurd z.2 (by decide))]) ?_
        refine l_sI Th4_2 (q_Mk kv0) (by decide) rfl ?_
        intro h10_18 Th10_18 ih10_18 ah10_18
        refine l_gO ?_
        refine j_Mod_readPattern (v0 := v0) (t := t) (n := n) Th10_18 kv0 (by show ∀ j, 0 ≤ j → j < n → vA h10_18 (v0 + 1) j = t j; rw [show vA h10_18 (v0 + 1) = vA h (v0 + 1) from (by rw [ah10_18 (v0 + 1), ah4_2 (v0 + 1)])] <;> (first | assumption | with_reducible rfl | grind)) (by show vI h10_18 v0 3 = n; rw [show vI h10_18 v0 3 = (vI h v0 3) from (by rw [ih10_18 v0 3, if_neg (fun z => absurd z.2 (by decide)), ih4_2 v0 3, if_neg (fun z => absurd z.2 (by decide))])] <;> (first | assumption | with_reducible rfl | grind)) n1 tp (by show vI h10_18 v0 48 = 0; rw [show vI h10_18 v0 48 = (vI h v0 48) from (by rw [ih10_18 v0 48, if_neg (fun z => absurd z.2 (by decide)), ih4_2 v0 48, if_neg (fun z => absurd z.2 (by decide))])] <;> (first | assumption | with_reducible rfl | grind)) (by show 0 ≤ vI h10_18 v0 41; rw [show vI h10_18 v0 41 = ((vI h v0 41) + 1) from (by rw [ih10_18 v0 41, if_pos ⟨rfl, rfl⟩])] <;> (exact x_0le a0 (x_lp1 n2 (t := t) (x_ne (by assumption))))) ?_ ?_
        · intro yr12_19 hr12_19 Thr12_19 g1r12_19_0 g1r12_19_1 g1r12_19_2 f1r12_19_I f1r12_19_A
          try dsimp only
          rw [show vI h10_18 v0 41 = ((vI h v0 41) + 1) from (by rw [ih10_18 v0 41, if_pos ⟨rfl, rfl⟩])] at g1r12_19_1
          refine l_sI Thr12_19 (q_Mk kv0) (by decide) rfl ?_
          intro h13_20 Th13_20 ih13_20 ah13_20
          refine qi_some ?_
          exact ⟨Th13_20, Or.inl ⟨(by show vI h13_20 v0 48 = 0; rw [show vI h13_20 v0 48 = 0 from (by rw [ih13_20 v0 48, if_neg (fun z => absurd z.2 (by decide)), g1r12_19_0])] <;> (first | assumption | with_reducible rfl | grind)), (by show (3 : Int32) ≤ 0 → ¬ (x_lk t n (vI h v0 41) = 36 ∨ x_lk t n (vI h v0 41) = 47 ∨ (49 ≤ x_lk t n (vI h v0 41) ∧ x_lk t n (vI h v0 41) ≤ 57)) ∧ vI h13_20 v0 41 = vI h v0 41; rw [show vI h13_20 v0 41 = (vI hr12_19 v0 41) from (by rw [ih13_20 v0 41, if_neg (fun z => absurd z.2 (by decide))])] <;> (intro z; exact absurd z (by decide))), (by show ¬ (3 : Int32) ≤ 0 → x_adr t n (vI h v0 41) = some (vI h13_20 v0 41); rw [show vI h13_20 v0 41 = (vI hr12_19 v0 41) from (by rw [ih13_20 v0 41, if_neg (fun z => absurd z.2 (by decide))])] <;> (intro _; exact x_adr47 (by assumption) g1r12_19_1)), (by show 0 ≤ (3 : Int32); decide), (fun a k na => by rw [ih13_20 a k, if_neg (fun z => na (Or.inl z)), f1r12_19_I a k (fun z => na (z.elim (fun z => Or.inr (Or.inl z)) (fun z => z.elim (fun z => Or.inr (Or.inr (Or.inl z))) (fun z => z.elim (fun z => Or.inr (Or.inr (Or.inr (Or.inl z)))) (fun z => z.elim (fun z => Or.inr (Or.inr (Or.inr (Or.inr (Or.inl z))))) (fun z => z.elim (fun z => Or.inr (Or.inr (Or.inr (Or.inr (Or.inr (Or.inl z)))))) (fun z => z.elim (fun z => Or.inr (Or.inr (Or.inr (Or.inr (Or.inr (Or.inr (Or.inl z))))))) (fun z => z.elim (fun z => Or.inr (Or.inr (Or.inr (Or.inr (Or.inr (Or.inr (Or.inr (Or.inl z)))))))) (fun z => Or.inr (Or.inr (Or.inr (Or.inr (Or.inr (Or.inr (Or.inr (Or.inr (z))))))))))))))))), ih10_18 a k, if_neg (fun z => na (Or.inr (Or.inl z))), ih4_2 a k, if_neg (fun z => na (Or.inl z))]), (fun a na => by rw [ah13_20 a, f1r12_19_A a (fun z => na (z.elim (fun z => Or.inl z) (fun z => z.elim (fun z => Or.inr (Or.inl z)) (fun z => z.elim (fun z => Or.inr (Or.inr (Or.inl z))) (fun z => z.elim (fun z => Or.inr (Or.inr (Or.inr (Or.inl z)))) (fun z => z.elim (fun z => Or.inr (Or.inr (Or.inr (Or.inr (Or.inl z))))) (fun z => z.elim (fun z => Or.inr (Or.inr (Or.inr (Or.inr (Or.inr (Or.inl z)))))) (fun z => z.elim (fun z => Or.inr (Or.inr (Or.inr (Or.inr (Or.inr (Or.inr (Or.inl z))))))) (fun z => z.elim (fun z => Or.inr (Or.inr (Or.inr (Or.inr (Or.inr (Or.inr (Or.inr (Or.inl z)))))))) (fun z => z.elim (fun z => Or.inr (Or.inr (Or.inr (Or.inr (Or.inr (Or.inr (Or.inr (Or.inr (Or.inl z))))))))) (fun z => Or.inr (Or.inr (Or.inr (Or.inr (Or.inr (Or.inr (Or.inr (Or.inr (Or.inr (z)))))))))))))))))))), ah10_18 a, ah4_2 a])⟩⟩
        · intro yr12_19 hr12_19 Thr12_19 g0r12_19_0 g0r12_19_1 f0r12_19_I f0r12_19_A
          try dsimp only
          rw [show vI h10_18 v0 41 = ((vI h v0 41) + 1) from (by rw [ih10_18 v0 41, if_pos ⟨rfl, rfl⟩])] at g0r12_19_1
          refine l_sI Thr12_19 (q_Mk kv0) (by decide) rfl ?_
          intro h13_21 Th13_21 ih13_21 ah13_21
          refine qi_some ?_
          exact ⟨Th13_21, Or.inr ⟨(by show ¬ vI h13_21 v0 48 = 0; rw [show vI h13_21 v0 48 = (vI hr12_19 v0 48) from (by rw [ih13_21 v0 48, if_neg (fun z => absurd z.2 (by decide))])] <;> (first | assumption | decide)), (by show x_adr t n (vI h v0 41) = none; exact x_adr47n (by assumption) g0r12_19_1), (by show x_lk t n (vI h v0 41) = 47; first | assumption | with_reducible rfl | grind), (fun a k na => by rw [ih13_21 a k, if_neg (fun z => na (Or.inl z)), f0r12_19_I a k (fun z => na (z.elim (fun z => Or.inr (Or.inl z)) (fun z => z.elim (fun z => Or.inr (Or.inr (Or.inl z))) (fun z => z.elim (fun z => Or.inr (Or.inr (Or.inr (Or.inl z)))) (fun z => z.elim (fun z => Or.inr (Or.inr (Or.inr (Or.inr (Or.inl z))))) (fun z => z.elim (fun z => Or.inr (Or.inr (Or.inr (Or.inr (Or.inr (Or.inl z)))))) (fun z => z.elim (fun z => Or.inr (Or.inr (Or.inr (Or.inr (Or.inr (Or.inr (Or.inl z))))))) (fun z => z.elim (fun z => Or.inr (Or.inr (Or.inr (Or.inr (Or.inr (Or.inr (Or.inr (Or.inl z)))))))) (fun z => Or.inr (Or.inr (Or.inr (Or.inr (Or.inr (Or.inr (Or.inr (Or.inr (z))))))))))))))))), ih10_18 a k, if_neg (fun z => na (Or.inr (Or.inl z))), ih4_2 a k, if_neg (fun z => na (Or.inl z))]), (fun a na => by rw [ah13_21 a, f0r12_19_A a (fun z => na (z.elim (fun z => Or.inl z) (fun z => z.elim (fun z => Or.inr (Or.inl z)) (fun z => z.elim (fun z => Or.inr (Or.inr (Or.inl z))) (fun z => z.elim (fun z => Or.inr (Or.inr (Or.inr (Or.inl z)))) (fun z => z.elim (fun z => Or.inr (Or.inr (Or.inr (Or.inr (Or.inl z))))) (fun z => z.elim (fun z => Or.inr (Or.inr (Or.inr (Or.inr (Or.inr (Or.inl z)))))) (fun z => z.elim (fun z => Or.inr (Or.inr (Or.inr (Or.inr (Or.inr (Or.inr (Or.inl z))))))) (fun z => z.elim (fun z => Or.inr (Or.inr (Or.inr (Or.inr (Or.inr (Or.inr (Or.inr (Or.inl z)))))))) (fun z => z.elim (fun z => Or.inr (Or.inr (Or.inr (Or.inr (Or.inr (Or.inr (Or.inr (Or.inr (Or.inl z))))))))) (fun z => Or.inr (Or.inr (Or.inr (Or.inr (Or.inr (Or.inr (Or.inr (Or.inr (Or.inr (z)))))))))))))))))))), ah10_18 a, ah4_2 a])⟩⟩
      · skip
        refine qi_some ?_
        exact ⟨Th4_2, Or.inl ⟨(by show vI h4_2 v0 48 = 0; rw [show vI h4_2 v0 48 = (vI h v0 48) from (by rw [ih4_2 v0 48, if_neg (fun z => absurd z.2 (by decide))])] <;> (first | assumption | with_reducible rfl | grind)), (by show (0 : Int32) ≤ 0 → ¬ (x_lk t n (vI h v0 41) = 36 ∨ x_lk t n (vI h v0 41) = 47 ∨ (49 ≤ x_lk t n (vI h v0 41) ∧ x_lk t n (vI h v0 41) ≤ 57)) ∧ vI h4_2 v0 41 = vI h v0 41; rw [show vI h4_2 v0 41 = (vI h v0 41) from (by rw [ih4_2 v0 41, if_neg (fun z => absurd z.2 (by decide))])] <;> (intro _; exact ⟨x_adrno (by assumption) (by assumption) (by assumption), rfl⟩)), (by show ¬ (0 : Int32) ≤ 0 → x_adr t n (vI h v0 41) = some (vI h4_2 v0 41); rw [show vI h4_2 v0 41 = (vI h v0 41) from (by rw [ih4_2 v0 41, if_neg (fun z => absurd z.2 (by decide))])] <;> (intro z; exact absurd (by decide) z)), (by show 0 ≤ (0 : Int32); decide), (fun a k na => by rw [ih4_2 a k, if_neg (fun z => na (Or.inl z))]), (fun a na => by rw [ah4_2 a])⟩⟩
theorem j_Mod_address {L : q_L} {π : Nat → Nat → Option Nat} {N : Nat} {t : Int32 → Int32} {n : Int32} {h : z_H} {v0 : Nat} {β : Type} {f : Int32 × z_H → Option β} {Q : β → Prop} (T : x_U L π h) (kv0 : q_M L π v0) (ht : ∀ j, 0 ≤ j → j < n → vA h (v0 + 1) j = t j) (hn : vI h v0 3 = n) (n1 : n ≤ 240) (tp : ∀ j, t j ≠ -1) (bd : vI h v0 48 = 0) (a0 : 0 ≤ vI h v0 41) (H1 : ∀ y h', x_U L π h' → (vI h' v0 48 = 0) → (y ≤ 0 → ¬ (x_lk t n (vI h v0 41) = 36 ∨ x_lk t n (vI h v0 41) = 47 ∨ (49 ≤ x_lk t n (vI h v0 41) ∧ x_lk t n (vI h v0 41) ≤ 57)) ∧ vI h' v0 41 = vI h v0 41) → (¬ y ≤ 0 → x_adr t n (vI h v0 41) = some (vI h' v0 41)) → (0 ≤ y) → (∀ a k, ¬ ((a = v0 ∧ k = 47) ∨ (a = v0 ∧ k = 41) ∨ (a = v0 ∧ k = 44) ∨ (a = v0 ∧ k = 45) ∨ (a = v0 ∧ k = 46) ∨ (a = v0 ∧ k = 49) ∨ (a = v0 ∧ k = 50) ∨ (a = v0 ∧ k = 5) ∨ (a = v0 ∧ k = 48)) → vI h' a k = vI h a k) → (∀ a, ¬ (a = (v0 + 23) ∨ a = (v0 + 30) ∨ a = (v0 + 31) ∨ a = (v0 + 24) ∨ a = (v0 + 25) ∨ a = (v0 + 20) ∨ a = (v0 + 26) ∨ a = (v0 + 27) ∨ a = (v0 + 29) ∨ a = (v0 + 21)) → vA h' a = vA h a) → qi (f (y, h')) Q) (H0 : ∀ y h', x_U L π h' → (¬ vI h' v0 48 = 0) → (x_adr t n (vI h v0 41) = none) → (x_lk t n (vI h v0 41) = 47) → (∀ a k, ¬ ((a = v0 ∧ k = 47) ∨ (a = v0 ∧ k = 41) ∨ (a = v0 ∧ k = 44) ∨ (a = v0 ∧ k = 45) ∨ (a = v0 ∧ k = 46) ∨ (a = v0 ∧ k = 49) ∨ (a = v0 ∧ k = 50) ∨ (a = v0 ∧ k = 5) ∨ (a = v0 ∧ k = 48)) → vI h' a k = vI h a k) → (∀ a, ¬ (a = (v0 + 23) ∨ a = (v0 + 30) ∨ a = (v0 + 31) ∨ a = (v0 + 24) ∨ a = (v0 + 25) ∨ a = (v0 + 20) ∨ a = (v0 + 26) ∨ a = (v0 + 27) ∨ a = (v0 + 29) ∨ a = (v0 + 21)) → vA h' a = vA h a) → qi (f (y, h')) Q) : qi (z_b (f_Mod_address N v0 h) f) Q := by
  refine qi_b (i_Mod_address  T kv0 ht hn n1 tp bd a0) ?_
  rintro ⟨y, hz⟩ ⟨Tz, ⟨g0, g1, g2, g3, g4, g5⟩ | ⟨g0, g1, g2, g3, g4⟩⟩
  · exact H1 y hz Tz g0 g1 g2 g3 g4 g5
  · exact H0 y hz Tz g0 g1 g2 g3 g4
