set_option maxHeartbeats 2000000 in
theorem i_Row_at {L : q_L} {π : Nat → Nat → Option Nat} {N : Nat} {h : z_H} {v0 : Nat} {v1 : Int32} (T : x_U L π h) (kv0 : qκ L v0 = 11)  : qi (f_Row_at N v0 v1 h) (fun r => r = ((if 0 ≤ v1 ∧ v1 < vI h v0 1 then vA h (v0 + 1) v1 else -1), h)) := by
  unfold f_Row_at
  refine qi_if (fun cc1 => ?_) (fun cc1 => ?_)
  · skip
    refine qi_some ?_
    exact Prod.ext (by show (-1) = (if 0 ≤ v1 ∧ v1 < vI h v0 1 then vA h (v0 + 1) v1 else -1); rw [if_neg (fun z => absurd z.1 (Int32.not_le.mpr cc1))]) rfl
  · skip
    refine l_gI (e := (vI h v0 1)) rfl ?_
    refine qi_if (fun cc2 => ?_) (fun cc2 => ?_)
    · skip
      refine qi_some ?_
      exact Prod.ext (by show (-1) = (if 0 ≤ v1 ∧ v1 < vI h v0 1 then vA h (v0 + 1) v1 else -1); rw [if_neg (fun z => absurd z.2 (Int32.not_lt.mpr cc2))]) rfl
    · skip
      refine l_gR T (d_Row_0 T kv0) ?_
      refine l_aI (e := (vA h (v0 + 1) v1)) (fun _ => rfl) (fun ix3 => ?_)
      refine qi_some ?_
      exact Prod.ext (by show (vA h (v0 + 1) v1) = (if 0 ≤ v1 ∧ v1 < vI h v0 1 then vA h (v0 + 1) v1 else -1); rw [if_pos ⟨Int32.not_lt.mp cc1, Int32.not_le.mp cc2⟩]) rfl
theorem j_Row_at {L : q_L} {π : Nat → Nat → Option Nat} {N : Nat} {h : z_H} {v0 : Nat} {v1 : Int32} {β : Type} {f : Int32 × z_H → Option β} {Q : β → Prop} {e : Int32} (T : x_U L π h) (kv0 : qκ L v0 = 11)  (he : (if 0 ≤ v1 ∧ v1 < vI h v0 1 then vA h (v0 + 1) v1 else -1) = e) (H : qi (f (e, h)) Q) : qi (z_b (f_Row_at N v0 v1 h) f) Q := by
  refine qi_b (i_Row_at  T kv0 ) ?_
  rintro r rfl
  rw [he]; exact H

set_option maxHeartbeats 2000000 in
theorem i_Row_newlineFrom_2 {L : q_L} {π : Nat → Nat → Option Nat} {N : Nat} {t : Int32 → Int32} {n : Int32} : ∀ (m9 : Nat) (v0 : Nat) (v2 : Int32) (h : z_H), x_U L π h → qκ L v0 = 11 → (∀ j, 0 ≤ j → j < n → vA h (v0 + 1) j = t j) → (vI h v0 1 = n) → (n ≤ 1000) → qi (f_Row_newlineFrom_2 N m9 v0 v2 h) (fun r => r = (x_nl t n v2, h)) := by
  intro m9
  induction m9 with
  | zero => intro v0 v2 h T kv0 ht hn n2 r e; rw [f_Row_newlineFrom_2] at e; cases e
  | succ m9 ih =>
    intro v0 v2 h T kv0 ht hn n2
    rw [f_Row_newlineFrom_2]
    refine l_gI (e := (vI h v0 1)) rfl ?_
    refine qi_if (fun cc1 => ?_) (fun cc1 => ?_)
    · skip
      refine qi_some ?_
      exact Prod.ext (by show v2 = x_nl t n v2; rw [x_nl_out (Int32.not_lt.mpr (hn ▸ cc1))]) rfl
    · skip
      refine l_gR T (d_Row_0 T kv0) ?_
      refine l_aI (e := (vA h (v0 + 1) v2)) (fun _ => rfl) (fun ix2 => ?_)
      refine qi_if (fun cc3 => ?_) (fun cc3 => ?_)
      · skip
        refine qi_some ?_
        exact Prod.ext (by show v2 = x_nl t n v2; rw [x_nl_10 n2 (hn ▸ Int32.not_le.mp cc1) (by rw [← ht _ ix2 (hn ▸ Int32.not_le.mp cc1)]; exact cc3)]) rfl
      · skip
        refine qi_bs ?_
        refine qi_mono (ih v0 (v2 + 1) h T kv0 ht hn n2) ?_
        rintro r rfl
        exact Prod.ext (by show x_nl t n (v2 + 1) = x_nl t n v2; exact (x_nl_st (a := v2) n2 (hn ▸ Int32.not_le.mp cc1) (by rw [← ht _ ix2 (hn ▸ Int32.not_le.mp cc1)]; exact cc3)).symm) rfl
theorem j_Row_newlineFrom_2 {L : q_L} {π : Nat → Nat → Option Nat} {N : Nat} {t : Int32 → Int32} {n : Int32} {m9 : Nat} {h : z_H} {v0 : Nat} {v2 : Int32} {β : Type} {f : Int32 × z_H → Option β} {Q : β → Prop} {e : Int32} (T : x_U L π h) (kv0 : qκ L v0 = 11) (ht : ∀ j, 0 ≤ j → j < n → vA h (v0 + 1) j = t j) (hn : vI h v0 1 = n) (n2 : n ≤ 1000) (he : x_nl t n v2 = e) (H : qi (f (e, h)) Q) : qi (z_b (f_Row_newlineFrom_2 N m9 v0 v2 h) f) Q := by
  refine qi_b (i_Row_newlineFrom_2 m9 v0 v2 h  T kv0 ht hn n2) ?_
  rintro r rfl
  rw [he]; exact H

set_option maxHeartbeats 2000000 in
theorem i_Row_newlineFrom {L : q_L} {π : Nat → Nat → Option Nat} {N : Nat} {t : Int32 → Int32} {n : Int32} {h : z_H} {v0 : Nat} {v1 : Int32} (T : x_U L π h) (kv0 : qκ L v0 = 11) (ht : ∀ j, 0 ≤ j → j < n → vA h (v0 + 1) j = t j) (hn : vI h v0 1 = n) (n2 : n ≤ 1000) : qi (f_Row_newlineFrom N v0 v1 h) (fun r => r = (x_nl t n v1, h)) := by
  unfold f_Row_newlineFrom
  refine qi_tailp ?_
  refine j_Row_newlineFrom_2 (v0 := v0) (v2 := v1) (t := t) (n := n) (e := (x_nl t n v1)) T kv0 ht hn n2 rfl ?_
  try dsimp only
  refine qi_some ?_
  exact Prod.ext (by show (x_nl t n v1) = x_nl t n v1; first | assumption | with_reducible rfl | grind) rfl
theorem j_Row_newlineFrom {L : q_L} {π : Nat → Nat → Option Nat} {N : Nat} {t : Int32 → Int32} {n : Int32} {h : z_H} {v0 : Nat} {v1 : Int32} {β : Type} {f : Int32 × z_H → Option β} {Q : β → Prop} {e : Int32} (T : x_U L π h) (kv0 : qκ L v0 = 11) (ht : ∀ j, 0 ≤ j → j < n → vA h (v0 + 1) j = t j) (hn : vI h v0 1 = n) (n2 : n ≤ 1000) (he : x_nl t n v1 = e) (H : qi (f (e, h)) Q) : qi (z_b (f_Row_newlineFrom N v0 v1 h) f) Q := by
  refine qi_b (i_Row_newlineFrom  T kv0 ht hn n2) ?_
  rintro r rfl
  rw [he]; exact H

set_option maxHeartbeats 2000000 in
theorem i_Pa_startsAddress {L : q_L} {π : Nat → Nat → Option Nat} {N : Nat} {h : z_H} {v0 : Int32} (T : x_U L π h)   : qi (f_Pa_startsAddress N v0 h) (fun r => r.2 = h ∧ (r.1 = 1 ∧ (v0 = 36 ∨ v0 = 47 ∨ (49 ≤ v0 ∧ v0 ≤ 57)) ∨ r.1 = 0 ∧ (¬ (v0 = 36 ∨ v0 = 47 ∨ (49 ≤ v0 ∧ v0 ≤ 57))))) := by
  unfold f_Pa_startsAddress
  refine qi_if (fun cc1 => ?_) (fun cc1 => ?_)
  · skip
    refine qi_some ?_
    exact ⟨rfl, Or.inl ⟨rfl, (by show v0 = 36 ∨ v0 = 47 ∨ (49 ≤ v0 ∧ v0 ≤ 57); first | assumption | with_reducible rfl | grind)⟩⟩
  · skip
    refine qi_if (fun cc2 => ?_) (fun cc2 => ?_)
    · skip
      refine qi_some ?_
      exact ⟨rfl, Or.inl ⟨rfl, (by show v0 = 36 ∨ v0 = 47 ∨ (49 ≤ v0 ∧ v0 ≤ 57); first | assumption | with_reducible rfl | grind)⟩⟩
    · skip
      refine qi_if (fun cc3 => ?_) (fun cc3 => ?_)
      · skip
        refine qi_some ?_
        exact ⟨rfl, Or.inr ⟨rfl, (by show ¬ (v0 = 36 ∨ v0 = 47 ∨ (49 ≤ v0 ∧ v0 ≤ 57)); first | assumption | with_reducible rfl | grind)⟩⟩
      · skip
        refine qi_if (fun cc4 => ?_) (fun cc4 => ?_)
        · skip
          refine qi_some ?_
          exact ⟨rfl, Or.inr ⟨rfl, (by show ¬ (v0 = 36 ∨ v0 = 47 ∨ (49 ≤ v0 ∧ v0 ≤ 57)); first | assumption | with_reducible rfl | grind)⟩⟩
        · skip
          refine qi_some ?_
          exact ⟨rfl, Or.inl ⟨rfl, (by show v0 = 36 ∨ v0 = 47 ∨ (49 ≤ v0 ∧ v0 ≤ 57); first | assumption | with_reducible rfl | grind)⟩⟩
theorem j_Pa_startsAddress {L : q_L} {π : Nat → Nat → Option Nat} {N : Nat} {h : z_H} {v0 : Int32} {β : Type} {f : Int32 × z_H → Option β} {Q : β → Prop} (T : x_U L π h)   (H1 : ∀ _u : Unit, (v0 = 36 ∨ v0 = 47 ∨ (49 ≤ v0 ∧ v0 ≤ 57)) → qi (f (1, h)) Q) (H0 : ∀ _u : Unit, (¬ (v0 = 36 ∨ v0 = 47 ∨ (49 ≤ v0 ∧ v0 ≤ 57))) → qi (f (0, h)) Q) : qi (z_b (f_Pa_startsAddress N v0 h) f) Q := by
  refine qi_b (i_Pa_startsAddress  T  ) ?_
  rintro ⟨y, hz⟩ ⟨e, ⟨ey, g0⟩ | ⟨ey, g0⟩⟩
  · dsimp only at *; subst ey; subst e; exact H1 () g0
  · dsimp only at *; subst ey; subst e; exact H0 () g0

set_option maxHeartbeats 2000000 in
theorem i_Pa_isLetter {L : q_L} {π : Nat → Nat → Option Nat} {N : Nat} {h : z_H} {v0 : Int32} (T : x_U L π h)   : qi (f_Pa_isLetter N v0 h) (fun r => r.2 = h ∧ (r.1 = 1 ∧ (97 ≤ v0 ∧ v0 ≤ 122) ∨ r.1 = 0 ∧ (¬ (97 ≤ v0 ∧ v0 ≤ 122)))) := by
  unfold f_Pa_isLetter
  refine qi_if (fun cc1 => ?_) (fun cc1 => ?_)
  · skip
    refine qi_some ?_
    exact ⟨rfl, Or.inr ⟨rfl, (by show ¬ (97 ≤ v0 ∧ v0 ≤ 122); first | assumption | with_reducible rfl | grind)⟩⟩
  · skip
    refine qi_if (fun cc2 => ?_) (fun cc2 => ?_)
    · skip
      refine qi_some ?_
      exact ⟨rfl, Or.inr ⟨rfl, (by show ¬ (97 ≤ v0 ∧ v0 ≤ 122); first | assumption | with_reducible rfl | grind)⟩⟩
    · skip
      refine qi_some ?_
      exact ⟨rfl, Or.inl ⟨rfl, (by show 97 ≤ v0 ∧ v0 ≤ 122; first | assumption | with_reducible rfl | grind)⟩⟩
theorem j_Pa_isLetter {L : q_L} {π : Nat → Nat → Option Nat} {N : Nat} {h : z_H} {v0 : Int32} {β : Type} {f : Int32 × z_H → Option β} {Q : β → Prop} (T : x_U L π h)   (H1 : ∀ _u : Unit, (97 ≤ v0 ∧ v0 ≤ 122) → qi (f (1, h)) Q) (H0 : ∀ _u : Unit, (¬ (97 ≤ v0 ∧ v0 ≤ 122)) → qi (f (0, h)) Q) : qi (z_b (f_Pa_isLetter N v0 h) f) Q := by
  refine qi_b (i_Pa_isLetter  T  ) ?_
  rintro ⟨y, hz⟩ ⟨e, ⟨ey, g0⟩ | ⟨ey, g0⟩⟩
  · dsimp only at *; subst ey; subst e; exact H1 () g0
  · dsimp only at *; subst ey; subst e; exact H0 () g0

set_option maxHeartbeats 2000000 in
theorem i_Pa_isExchangeable {L : q_L} {π : Nat → Nat → Option Nat} {N : Nat} {h : z_H} {v0 : Int32} (T : x_U L π h)   : qi (f_Pa_isExchangeable N v0 h) (fun r => r.2 = h ∧ (r.1 = 1 ∧ (¬ v0 = -1) ∧ (¬ v0 = 10) ∧ (¬ v0 = 92) ∨ r.1 = 0 ∧ (v0 = -1 ∨ v0 = 10 ∨ v0 = 92))) := by
  unfold f_Pa_isExchangeable
  refine qi_if (fun cc1 => ?_) (fun cc1 => ?_)
  · skip
    refine qi_some ?_
    exact ⟨rfl, Or.inr ⟨rfl, (by show v0 = -1 ∨ v0 = 10 ∨ v0 = 92; first | assumption | with_reducible rfl | grind)⟩⟩
  · skip
    refine qi_if (fun cc2 => ?_) (fun cc2 => ?_)
    · skip
      refine qi_some ?_
      exact ⟨rfl, Or.inr ⟨rfl, (by show v0 = -1 ∨ v0 = 10 ∨ v0 = 92; first | assumption | with_reducible rfl | grind)⟩⟩
    · skip
      refine qi_if (fun cc3 => ?_) (fun cc3 => ?_)
      · skip
        refine qi_some ?_
        exact ⟨rfl, Or.inr ⟨rfl, (by show v0 = -1 ∨ v0 = 10 ∨ v0 = 92; first | assumption | with_reducible rfl | grind)⟩⟩
      · skip
        refine qi_some ?_
        exact ⟨rfl, Or.inl ⟨rfl, (by show ¬ v0 = -1; first | assumption | with_reducible rfl | grind), cc2, cc3⟩⟩
theorem j_Pa_isExchangeable {L : q_L} {π : Nat → Nat → Option Nat} {N : Nat} {h : z_H} {v0 : Int32} {β : Type} {f : Int32 × z_H → Option β} {Q : β → Prop} (T : x_U L π h)   (H1 : ∀ _u : Unit, (¬ v0 = -1) → (¬ v0 = 10) → (¬ v0 = 92) → qi (f (1, h)) Q) (H0 : ∀ _u : Unit, (v0 = -1 ∨ v0 = 10 ∨ v0 = 92) → qi (f (0, h)) Q) : qi (z_b (f_Pa_isExchangeable N v0 h) f) Q := by
  refine qi_b (i_Pa_isExchangeable  T  ) ?_
  rintro ⟨y, hz⟩ ⟨e, ⟨ey, g0, g1, g2⟩ | ⟨ey, g0⟩⟩
  · dsimp only at *; subst ey; subst e; exact H1 () g0 g1 g2
  · dsimp only at *; subst ey; subst e; exact H0 () g0

set_option maxHeartbeats 2000000 in
theorem i_Pa_mayFollowBackslash {L : q_L} {π : Nat → Nat → Option Nat} {N : Nat} {cm : Nat} {h : z_H} {v0 : Nat} {v1 : Int32} (T : x_U L π h) (kv0 : qκ L v0 = 7) (kcm : qκ L cm = 2) (pcm : π v0 6 = some cm) : qi (f_Pa_mayFollowBackslash N v0 v1 h) (fun r => r.2 = h ∧ (r.1 = 1 ∧ ((49 ≤ v1 ∧ v1 ≤ 48 + vI h (cm + 5) 6) ∨ v1 = 38 ∨ v1 = 47 ∨ v1 = 92 ∨ v1 = 110) ∨ r.1 = 0 ∧ (¬ ((49 ≤ v1 ∧ v1 ≤ 48 + vI h (cm + 5) 6) ∨ v1 = 38 ∨ v1 = 47 ∨ v1 = 92 ∨ v1 = 110)))) := by
  unfold f_Pa_mayFollowBackslash
  refine qi_if (fun cc1 => ?_) (fun cc1 => ?_)
  · skip
    unfold f_Pa_mayFollowBackslash_28
    refine qi_if (fun _ => ?_) (fun cc3 => absurd (by decide) cc3)
    refine qi_if (fun cc4 => ?_) (fun cc4 => ?_)
    · skip
      refine qi_some ?_
      exact ⟨rfl, Or.inl ⟨rfl, (by show (49 ≤ v1 ∧ v1 ≤ 48 + vI h (cm + 5) 6) ∨ v1 = 38 ∨ v1 = 47 ∨ v1 = 92 ∨ v1 = 110; first | assumption | with_reducible rfl | grind)⟩⟩
    · skip
      refine qi_if (fun cc5 => ?_) (fun cc5 => ?_)
      · skip
        refine qi_some ?_
        exact ⟨rfl, Or.inl ⟨rfl, (by show (49 ≤ v1 ∧ v1 ≤ 48 + vI h (cm + 5) 6) ∨ v1 = 38 ∨ v1 = 47 ∨ v1 = 92 ∨ v1 = 110; first | assumption | with_reducible rfl | grind)⟩⟩
      · skip
        refine qi_if (fun cc6 => ?_) (fun cc6 => ?_)
        · skip
          refine qi_some ?_
          exact ⟨rfl, Or.inl ⟨rfl, (by show (49 ≤ v1 ∧ v1 ≤ 48 + vI h (cm + 5) 6) ∨ v1 = 38 ∨ v1 = 47 ∨ v1 = 92 ∨ v1 = 110; first | assumption | with_reducible rfl | grind)⟩⟩
        · skip
          refine qi_if (fun cc7 => ?_) (fun cc7 => ?_)
          · skip
            refine qi_some ?_
            exact ⟨rfl, Or.inl ⟨rfl, (by show (49 ≤ v1 ∧ v1 ≤ 48 + vI h (cm + 5) 6) ∨ v1 = 38 ∨ v1 = 47 ∨ v1 = 92 ∨ v1 = 110; first | assumption | with_reducible rfl | grind)⟩⟩
          · skip
            refine qi_some ?_
            exact ⟨rfl, Or.inr ⟨rfl, (by show ¬ ((49 ≤ v1 ∧ v1 ≤ 48 + vI h (cm + 5) 6) ∨ v1 = 38 ∨ v1 = 47 ∨ v1 = 92 ∨ v1 = 110); first | assumption | with_reducible rfl | grind)⟩⟩
  · skip
    refine l_gR T pcm ?_
    refine l_gR T (d_Cmd_2 T kcm) ?_
    have kk8 := e_Cmd_2 T kcm
    refine l_gI (e := (vI h (cm + 5) 6)) rfl ?_
    refine qi_if (fun cc9 => ?_) (fun cc9 => ?_)
    · skip
      unfold f_Pa_mayFollowBackslash_28
      refine qi_if (fun _ => ?_) (fun cc11 => absurd (by decide) cc11)
      refine qi_if (fun cc12 => ?_) (fun cc12 => ?_)
      · skip
        refine qi_some ?_
        exact ⟨rfl, Or.inl ⟨rfl, (by show (49 ≤ v1 ∧ v1 ≤ 48 + vI h (cm + 5) 6) ∨ v1 = 38 ∨ v1 = 47 ∨ v1 = 92 ∨ v1 = 110; first | assumption | with_reducible rfl | grind)⟩⟩
      · skip
        refine qi_if (fun cc13 => ?_) (fun cc13 => ?_)
        · skip
          refine qi_some ?_
          exact ⟨rfl, Or.inl ⟨rfl, (by show (49 ≤ v1 ∧ v1 ≤ 48 + vI h (cm + 5) 6) ∨ v1 = 38 ∨ v1 = 47 ∨ v1 = 92 ∨ v1 = 110; first | assumption | with_reducible rfl | grind)⟩⟩
        · skip
          refine qi_if (fun cc14 => ?_) (fun cc14 => ?_)
          · skip
            refine qi_some ?_
            exact ⟨rfl, Or.inl ⟨rfl, (by show (49 ≤ v1 ∧ v1 ≤ 48 + vI h (cm + 5) 6) ∨ v1 = 38 ∨ v1 = 47 ∨ v1 = 92 ∨ v1 = 110; first | assumption | with_reducible rfl | grind)⟩⟩
          · skip
            refine qi_if (fun cc15 => ?_) (fun cc15 => ?_)
            · skip
              refine qi_some ?_
              exact ⟨rfl, Or.inl ⟨rfl, (by show (49 ≤ v1 ∧ v1 ≤ 48 + vI h (cm + 5) 6) ∨ v1 = 38 ∨ v1 = 47 ∨ v1 = 92 ∨ v1 = 110; first | assumption | with_reducible rfl | grind)⟩⟩
            · skip
              refine qi_some ?_
              exact ⟨rfl, Or.inr ⟨rfl, (by show ¬ ((49 ≤ v1 ∧ v1 ≤ 48 + vI h (cm + 5) 6) ∨ v1 = 38 ∨ v1 = 47 ∨ v1 = 92 ∨ v1 = 110); first | assumption | with_reducible rfl | grind)⟩⟩
    · skip
      unfold f_Pa_mayFollowBackslash_28
      refine qi_if (fun cc17 => absurd cc17 (by decide)) (fun _ => ?_)
      refine qi_some ?_
      exact ⟨rfl, Or.inl ⟨rfl, (by show (49 ≤ v1 ∧ v1 ≤ 48 + vI h (cm + 5) 6) ∨ v1 = 38 ∨ v1 = 47 ∨ v1 = 92 ∨ v1 = 110; first | assumption | with_reducible rfl | grind)⟩⟩
theorem j_Pa_mayFollowBackslash {L : q_L} {π : Nat → Nat → Option Nat} {N : Nat} {cm : Nat} {h : z_H} {v0 : Nat} {v1 : Int32} {β : Type} {f : Int32 × z_H → Option β} {Q : β → Prop} (T : x_U L π h) (kv0 : qκ L v0 = 7) (kcm : qκ L cm = 2) (pcm : π v0 6 = some cm) (H1 : ∀ _u : Unit, ((49 ≤ v1 ∧ v1 ≤ 48 + vI h (cm + 5) 6) ∨ v1 = 38 ∨ v1 = 47 ∨ v1 = 92 ∨ v1 = 110) → qi (f (1, h)) Q) (H0 : ∀ _u : Unit, (¬ ((49 ≤ v1 ∧ v1 ≤ 48 + vI h (cm + 5) 6) ∨ v1 = 38 ∨ v1 = 47 ∨ v1 = 92 ∨ v1 = 110)) → qi (f (0, h)) Q) : qi (z_b (f_Pa_mayFollowBackslash N v0 v1 h) f) Q := by
  refine qi_b (i_Pa_mayFollowBackslash  T kv0 kcm pcm) ?_
  rintro ⟨y, hz⟩ ⟨e, ⟨ey, g0⟩ | ⟨ey, g0⟩⟩
  · dsimp only at *; subst ey; subst e; exact H1 () g0
  · dsimp only at *; subst ey; subst e; exact H0 () g0

set_option maxHeartbeats 2000000 in
theorem i_Pa_passBlanks_2 {L : q_L} {π : Nat → Nat → Option Nat} {N : Nat} {pg : Nat} {t : Int32 → Int32} {n : Int32} : ∀ (m9 : Nat) (v0 : Nat) (v1 : Int32) (h : z_H), x_U L π h → qκ L v0 = 7 → (qκ L pg = 10) → (π v0 5 = some pg) → (π (v0 + 1) 0 = some (pg + 1)) → (∀ j, 0 ≤ j → j < n → vA h ((pg + 1) + 1) j = t j) → (vI h (pg + 1) 1 = n) → (n ≤ 240) → (∀ j, t j ≠ -1) → (v0 + 5 ≤ pg) → (0 ≤ vI h (v0 + 1) 1) → (v1 ≤ vI h (v0 + 1) 1) → qi (f_Pa_passBlanks_2 N m9 v0 v1 h) (fun r => x_U L π r ∧ (vI r (v0 + 1) 1 = x_bl t n (vI h (v0 + 1) 1)) ∧ (∀ a k, ¬ ((a = (v0 + 1) ∧ k = 1)) → vI r a k = vI h a k) ∧ (∀ a, ¬ (a < a) → vA r a = vA h a)) := by
  intro m9
  induction m9 with
  | zero => intro v0 v1 h T kv0 kpg ppg ptx ht hn n1 tp D a0 hs r e; rw [f_Pa_passBlanks_2] at e; cases e
  | succ m9 ih =>
    intro v0 v1 h T kv0 kpg ppg ptx ht hn n1 tp D a0 hs
    rw [f_Pa_passBlanks_2]
    have n2 : n ≤ 1000 := Int32.le_trans n1 (by decide)
    have ktx := e_Prog_0 T kpg
    refine qi_if (fun cc1 => ?_) (fun cc1 => ?_)
    · skip
      refine qi_some ?_
      exact ⟨T, (by show vI h (v0 + 1) 1 = x_bl t n (vI h (v0 + 1) 1); first | exact (x_bl_32 n2 (by assumption)).symm | exact (x_bl_no (by assumption)).symm | exact (x_bl_out (x_lim2 hs (by assumption) n1)).symm), (fun a k na => by rfl), (fun a na => by rfl)⟩
    · skip
      refine l_gR T (d_Pa_0 T kv0) ?_
      have kk2 := e_Pa_0 T kv0
      refine l_gO ?_
      refine j_Cur_look (v0 := (v0 + 1)) (v1 := (0 : Int32)) (tx := (pg + 1)) (t := t) (n := n) (e := (x_lk t n (vI h (v0 + 1) 1))) T kk2 ktx ptx ht hn (by simp only [Int32.add_zero, x_s11, x_s12, x_s21, x_s13, x_s22, x_s31]) ?_
      try dsimp only
      refine qi_if (fun cc4 => ?_) (fun cc4 => ?_)
      · skip
        refine l_gR T (d_Pa_0 T kv0) ?_
        refine l_gI (e := (vI h (v0 + 1) 1)) rfl ?_
        refine l_sI T kk2 (by decide) rfl ?_
        intro h8_5 Th8_5 ih8_5 ah8_5
        refine qi_bs ?_
        refine qi_mono (ih v0 (v1 + 1) h8_5 Th8_5 kv0 kpg ppg ptx (by show ∀ j, 0 ≤ j → j < n → vA h8_5 ((pg + 1) + 1) j = t j; rw [show vA h8_5 ((pg + 1) + 1) = vA h ((pg + 1) + 1) from (by rw [ah8_5 ((pg + 1) + 1)])] <;> ((try simp only [Int32.add_zero, x_s11, x_s12, x_s21, x_s13, x_s22, x_s31]) <;> (first | assumption | with_reducible rfl | grind))) (by show vI h8_5 (pg + 1) 1 = n; rw [show vI h8_5 (pg + 1) 1 = (vI h (pg + 1) 1) from (by rw [ih8_5 (pg + 1) 1, if_neg (fun z => absurd z.1 (by omega))])] <;> (first | assumption | with_reducible rfl | grind)) n1 tp D (by show 0 ≤ vI h8_5 (v0 + 1) 1; rw [show vI h8_5 (v0 + 1) 1 = ((vI h (v0 + 1) 1) + 1) from (by rw [ih8_5 (v0 + 1) 1, if_pos ⟨rfl, rfl⟩])] <;> (exact x_0le a0 (x_lp1 n2 (t := t) (x_ne (by assumption))))) (by show (v1 + 1) ≤ vI h8_5 (v0 + 1) 1; rw [show vI h8_5 (v0 + 1) 1 = ((vI h (v0 + 1) 1) + 1) from (by rw [ih8_5 (v0 + 1) 1, if_pos ⟨rfl, rfl⟩])] <;> (exact x_stp2 hs (by assumption) (x_lp1 n2 (t := t) (x_ne (by assumption)))))) ?_
        rintro hrz6_7 ⟨Thrz6_7, grz6_7_0, frz6_7_I, frz6_7_A⟩
        try dsimp only at *
        rw [show vI h8_5 (v0 + 1) 1 = ((vI h (v0 + 1) 1) + 1) from (by rw [ih8_5 (v0 + 1) 1, if_pos ⟨rfl, rfl⟩])] at grz6_7_0
        exact ⟨Thrz6_7, (by show vI hrz6_7 (v0 + 1) 1 = x_bl t n (vI h (v0 + 1) 1); rw [show vI hrz6_7 (v0 + 1) 1 = (x_bl t n ((vI h (v0 + 1) 1) + 1)) from (by rw [grz6_7_0])] <;> (first | exact (x_bl_32 n2 (by assumption)).symm | exact (x_bl_no (by assumption)).symm | exact (x_bl_out (x_lim2 hs (by assumption) n1)).symm)), (fun a k na => by rw [frz6_7_I a k (fun z => na (z)), ih8_5 a k, if_neg (fun z => na (z))]), (fun a na => by rw [frz6_7_A a (by omega), ah8_5 a])⟩
      · skip
        refine qi_some ?_
        exact ⟨T, (by show vI h (v0 + 1) 1 = x_bl t n (vI h (v0 + 1) 1); first | exact (x_bl_32 n2 (by assumption)).symm | exact (x_bl_no (by assumption)).symm | exact (x_bl_out (x_lim2 hs (by assumption) n1)).symm), (fun a k na => by rfl), (fun a na => by rfl)⟩
theorem j_Pa_passBlanks_2 {L : q_L} {π : Nat → Nat → Option Nat} {N : Nat} {pg : Nat} {t : Int32 → Int32} {n : Int32} {m9 : Nat} {h : z_H} {v0 : Nat} {v1 : Int32} {β : Type} {f : z_H → Option β} {Q : β → Prop} (T : x_U L π h) (kv0 : qκ L v0 = 7) (kpg : qκ L pg = 10) (ppg : π v0 5 = some pg) (ptx : π (v0 + 1) 0 = some (pg + 1)) (ht : ∀ j, 0 ≤ j → j < n → vA h ((pg + 1) + 1) j = t j) (hn : vI h (pg + 1) 1 = n) (n1 : n ≤ 240) (tp : ∀ j, t j ≠ -1) (D : v0 + 5 ≤ pg) (a0 : 0 ≤ vI h (v0 + 1) 1) (hs : v1 ≤ vI h (v0 + 1) 1) (H : ∀ h', x_U L π h' → (vI h' (v0 + 1) 1 = x_bl t n (vI h (v0 + 1) 1)) → (∀ a k, ¬ ((a = (v0 + 1) ∧ k = 1)) → vI h' a k = vI h a k) → (∀ a, ¬ (a < a) → vA h' a = vA h a) → qi (f h') Q) : qi (z_b (f_Pa_passBlanks_2 N m9 v0 v1 h) f) Q := by
  refine qi_b (i_Pa_passBlanks_2 m9 v0 v1 h  T kv0 kpg ppg ptx ht hn n1 tp D a0 hs) ?_
  rintro hz ⟨Tz, g0, g1, g2⟩
  exact H hz Tz g0 g1 g2

set_option maxHeartbeats 2000000 in
theorem i_Pa_passBlanks {L : q_L} {π : Nat → Nat → Option Nat} {N : Nat} {pg : Nat} {t : Int32 → Int32} {n : Int32} {h : z_H} {v0 : Nat} (T : x_U L π h) (kv0 : qκ L v0 = 7) (kpg : qκ L pg = 10) (ppg : π v0 5 = some pg) (ptx : π (v0 + 1) 0 = some (pg + 1)) (ht : ∀ j, 0 ≤ j → j < n → vA h ((pg + 1) + 1) j = t j) (hn : vI h (pg + 1) 1 = n) (n1 : n ≤ 240) (tp : ∀ j, t j ≠ -1) (D : v0 + 5 ≤ pg) (a0 : 0 ≤ vI h (v0 + 1) 1) : qi (f_Pa_passBlanks N v0 h) (fun r => x_U L π r ∧ (vI r (v0 + 1) 1 = x_bl t n (vI h (v0 + 1) 1)) ∧ (∀ a k, ¬ ((a = (v0 + 1) ∧ k = 1)) → vI r a k = vI h a k) ∧ (∀ a, ¬ (a < a) → vA r a = vA h a)) := by
  have n2 : n ≤ 1000 := Int32.le_trans n1 (by decide)
  have ktx := e_Prog_0 T kpg
  unfold f_Pa_passBlanks
  refine qi_tail ?_
  refine j_Pa_passBlanks_2 (v0 := v0) (v1 := (0 : Int32)) (pg := pg) (t := t) (n := n) T kv0 kpg ppg ptx ht hn n1 tp D a0 (by show (0 : Int32) ≤ vI h (v0 + 1) 1; first | assumption | with_reducible rfl | grind) ?_
  intro hrz1_2 Thrz1_2 grz1_2_0 frz1_2_I frz1_2_A
  try dsimp only
  refine qi_some ?_
  exact ⟨Thrz1_2, (by show vI hrz1_2 (v0 + 1) 1 = x_bl t n (vI h (v0 + 1) 1); rw [show vI hrz1_2 (v0 + 1) 1 = (x_bl t n (vI h (v0 + 1) 1)) from (by rw [grz1_2_0])] <;> (first | assumption | with_reducible rfl | grind)), (fun a k na => by rw [frz1_2_I a k (fun z => na (z))]), (fun a na => by rw [frz1_2_A a (by omega)])⟩
theorem j_Pa_passBlanks {L : q_L} {π : Nat → Nat → Option Nat} {N : Nat} {pg : Nat} {t : Int32 → Int32} {n : Int32} {h : z_H} {v0 : Nat} {β : Type} {f : z_H → Option β} {Q : β → Prop} (T : x_U L π h) (kv0 : qκ L v0 = 7) (kpg : qκ L pg = 10) (ppg : π v0 5 = some pg) (ptx : π (v0 + 1) 0 = some (pg + 1)) (ht : ∀ j, 0 ≤ j → j < n → vA h ((pg + 1) + 1) j = t j) (hn : vI h (pg + 1) 1 = n) (n1 : n ≤ 240) (tp : ∀ j, t j ≠ -1) (D : v0 + 5 ≤ pg) (a0 : 0 ≤ vI h (v0 + 1) 1) (H : ∀ h', x_U L π h' → (vI h' (v0 + 1) 1 = x_bl t n (vI h (v0 + 1) 1)) → (∀ a k, ¬ ((a = (v0 + 1) ∧ k = 1)) → vI h' a k = vI h a k) → (∀ a, ¬ (a < a) → vA h' a = vA h a) → qi (f h') Q) : qi (z_b (f_Pa_passBlanks N v0 h) f) Q := by
  refine qi_b (i_Pa_passBlanks  T kv0 kpg ppg ptx ht hn n1 tp D a0) ?_
  rintro hz ⟨Tz, g0, g1, g2⟩
  exact H hz Tz g0 g1 g2

set_option maxHeartbeats 2000000 in
theorem i_Pa_endCommand {L : q_L} {π : Nat → Nat → Option Nat} {N : Nat} {pg : Nat} {t : Int32 → Int32} {n : Int32} {h : z_H} {v0 : Nat} (T : x_U L π h) (kv0 : qκ L v0 = 7) (kpg : qκ L pg = 10) (ppg : π v0 5 = some pg) (ptx : π (v0 + 1) 0 = some (pg + 1)) (ht : ∀ j, 0 ≤ j → j < n → vA h ((pg + 1) + 1) j = t j) (hn : vI h (pg + 1) 1 = n) (n1 : n ≤ 240) (tp : ∀ j, t j ≠ -1) (D : v0 + 5 ≤ pg) (a0 : 0 ≤ vI h (v0 + 1) 1) : qi (f_Pa_endCommand N v0 h) (fun r => x_U L π r.2 ∧ ((r.1 = 1 ∧ (x_end (x_lk t n (vI h (v0 + 1) 1)) = true) ∧ (∀ a k, ¬ ((a = (v0 + 1) ∧ k = 2)) → vI r.2 a k = vI h a k) ∧ (∀ a, ¬ (a < a) → vA r.2 a = vA h a)) ∨ (r.1 = 0 ∧ (¬ x_end (x_lk t n (vI h (v0 + 1) 1)) = true)))) := by
  have n2 : n ≤ 1000 := Int32.le_trans n1 (by decide)
  have ktx := e_Prog_0 T kpg
  unfold f_Pa_endCommand
  refine l_gR T (d_Pa_0 T kv0) ?_
  have kk1 := e_Pa_0 T kv0
  refine l_gO ?_
  refine j_Cur_look (v0 := (v0 + 1)) (v1 := (0 : Int32)) (tx := (pg + 1)) (t := t) (n := n) (e := (x_lk t n (vI h (v0 + 1) 1))) T kk1 ktx ptx ht hn (by simp only [Int32.add_zero, x_s11, x_s12, x_s21, x_s13, x_s22, x_s31]) ?_
  try dsimp only
  refine qi_bs ?_
  refine qi_if (fun cc3 => ?_) (fun cc3 => ?_)
  · skip
    refine qi_some ?_
    exact ⟨T, Or.inl ⟨rfl, (by show x_end (x_lk t n (vI h (v0 + 1) 1)) = true; exact x_end1 (by (first | grind (ematch := 0) | grind))), (fun a k na => by rfl), (fun a na => by rfl)⟩⟩
  · skip
    refine qi_if (fun cc4 => ?_) (fun cc4 => ?_)
    · skip
      refine qi_some ?_
      exact ⟨T, Or.inl ⟨rfl, (by show x_end (x_lk t n (vI h (v0 + 1) 1)) = true; exact x_end1 (by (first | grind (ematch := 0) | grind))), (fun a k na => by rfl), (fun a na => by rfl)⟩⟩
    · skip
      refine qi_if (fun cc5 => ?_) (fun cc5 => ?_)
      · skip
        refine qi_some ?_
        exact ⟨T, Or.inl ⟨rfl, (by show x_end (x_lk t n (vI h (v0 + 1) 1)) = true; exact x_end1 (by (first | grind (ematch := 0) | grind))), (fun a k na => by rfl), (fun a na => by rfl)⟩⟩
      · skip
        refine qi_if (fun cc6 => ?_) (fun cc6 => ?_)
        · skip
          refine qi_some ?_
          exact ⟨T, Or.inl ⟨rfl, (by show x_end (x_lk t n (vI h (v0 + 1) 1)) = true; exact x_end1 (by (first | grind (ematch := 0) | grind))), (fun a k na => by rfl), (fun a na => by rfl)⟩⟩
        · skip
          refine qi_if (fun cc7 => ?_) (fun cc7 => ?_)
          · skip
            refine qi_some ?_
            exact ⟨T, Or.inl ⟨rfl, (by show x_end (x_lk t n (vI h (v0 + 1) 1)) = true; exact x_end1 (by (first | grind (ematch := 0) | grind))), (fun a k na => by rfl), (fun a na => by rfl)⟩⟩
          · skip
            refine l_gR T (d_Pa_0 T kv0) ?_
            refine l_gO ?_
            refine j_Cur_refuse (v0 := (v0 + 1)) (v1 := (0 : Int32)) T kk1 ?_
            · intro hr12_8 Thr12_8
              try dsimp only
              refine qi_zB (fun zb9 => ?_)
              refine qi_some ?_
              exact ⟨Thr12_8, Or.inr ⟨rfl, (by show ¬ x_end (x_lk t n (vI h (v0 + 1) 1)) = true; exact x_end0 (by assumption) (by assumption) (by assumption) (by assumption) (by assumption))⟩⟩
theorem j_Pa_endCommand {L : q_L} {π : Nat → Nat → Option Nat} {N : Nat} {pg : Nat} {t : Int32 → Int32} {n : Int32} {h : z_H} {v0 : Nat} {β : Type} {f : Int32 × z_H → Option β} {Q : β → Prop} (T : x_U L π h) (kv0 : qκ L v0 = 7) (kpg : qκ L pg = 10) (ppg : π v0 5 = some pg) (ptx : π (v0 + 1) 0 = some (pg + 1)) (ht : ∀ j, 0 ≤ j → j < n → vA h ((pg + 1) + 1) j = t j) (hn : vI h (pg + 1) 1 = n) (n1 : n ≤ 240) (tp : ∀ j, t j ≠ -1) (D : v0 + 5 ≤ pg) (a0 : 0 ≤ vI h (v0 + 1) 1) (H1 : ∀ h', x_U L π h' → (x_end (x_lk t n (vI h (v0 + 1) 1)) = true) → (∀ a k, ¬ ((a = (v0 + 1) ∧ k = 2)) → vI h' a k = vI h a k) → (∀ a, ¬ (a < a) → vA h' a = vA h a) → qi (f (1, h')) Q) (H0 : ∀ h', x_U L π h' → (¬ x_end (x_lk t n (vI h (v0 + 1) 1)) = true) → qi (f (0, h')) Q) : qi (z_b (f_Pa_endCommand N v0 h) f) Q := by
  refine qi_b (i_Pa_endCommand  T kv0 kpg ppg ptx ht hn n1 tp D a0) ?_
  rintro ⟨y, hz⟩ ⟨Tz, ⟨ey, g0, g1, g2⟩ | ⟨ey, g0⟩⟩
  · dsimp only at *; subst ey; exact H1 hz Tz g0 g1 g2
  · dsimp only at *; subst ey; exact H0 hz Tz g0

set_option maxHeartbeats 2000000 in
theorem i_Pa_openBlock {L : q_L} {π : Nat → Nat → Option Nat} {N : Nat} {pg : Nat} {t : Int32 → Int32} {n : Int32} {h : z_H} {v0 : Nat} (T : x_U L π h) (kv0 : qκ L v0 = 7) (kpg : qκ L pg = 10) (ppg : π v0 5 = some pg) (ptx : π (v0 + 1) 0 = some (pg + 1)) (ht : ∀ j, 0 ≤ j → j < n → vA h ((pg + 1) + 1) j = t j) (hn : vI h (pg + 1) 1 = n) (n1 : n ≤ 240) (tp : ∀ j, t j ≠ -1) (D : v0 + 5 ≤ pg) (a0 : 0 ≤ vI h (v0 + 1) 1) : qi (f_Pa_openBlock N v0 h) (fun r => x_U L π r.2 ∧ ((r.1 = 1 ∧ (vI r.2 v0 4 = vI h v0 4 + 1) ∧ (vI r.2 (v0 + 1) 1 = vI h (v0 + 1) 1 + 1) ∧ (¬ vI h v0 4 = 4) ∧ (∀ a k, ¬ ((a = (v0 + 1) ∧ k = 2) ∨ (a = v0 ∧ k = 4) ∨ (a = (v0 + 1) ∧ k = 1)) → vI r.2 a k = vI h a k) ∧ (∀ a, ¬ (a = (v0 + 3)) → vA r.2 a = vA h a)) ∨ (r.1 = 0 ∧ (vI h v0 4 = 4)))) := by
  have n2 : n ≤ 1000 := Int32.le_trans n1 (by decide)
  have ktx := e_Prog_0 T kpg
  unfold f_Pa_openBlock
  refine l_gI (e := (vI h v0 4)) rfl ?_
  refine qi_if (fun cc1 => ?_) (fun cc1 => ?_)
  · skip
    refine l_gR T (d_Pa_0 T kv0) ?_
    have kk2 := e_Pa_0 T kv0
    refine l_gO ?_
    refine j_Cur_refuse (v0 := (v0 + 1)) (v1 := (0 : Int32)) T kk2 ?_
    · intro hr15_3 Thr15_3
      try dsimp only
      refine qi_zB (fun zb4 => ?_)
      refine qi_some ?_
      exact ⟨Thr15_3, Or.inr ⟨rfl, (by show vI h v0 4 = 4; first | assumption | with_reducible rfl | grind)⟩⟩
  · skip
    refine l_gR T (d_Pa_2 T kv0) ?_
    refine l_gI (e := (vI h v0 4)) rfl ?_
    refine l_gR T ppg ?_
    refine l_gI (e := (vI h pg 3)) rfl ?_
    refine l_uI T ?_
    intro h7_5 Th7_5 jh7_5 ih7_5 ah7_5 bh7_5
    refine l_gI (e := (vI h v0 4)) (by rw [ih7_5 v0 4]) ?_
    refine l_sI Th7_5 kv0 (by decide) rfl ?_
    intro h9_6 Th9_6 ih9_6 ah9_6
    refine l_gR Th9_6 (d_Pa_0 Th9_6 kv0) ?_
    have kk7 := e_Pa_0 Th9_6 kv0
    refine l_gI (e := (vI h (v0 + 1) 1)) (by rw [ih9_6 (v0 + 1) 1, if_neg (fun z => absurd z.2 (by decide)), ih7_5 (v0 + 1) 1]) ?_
    refine l_sI Th9_6 kk7 (by decide) rfl ?_
    intro h12_8 Th12_8 ih12_8 ah12_8
    refine qi_some ?_
    exact ⟨Th12_8, Or.inl ⟨rfl, (by show vI h12_8 v0 4 = vI h v0 4 + 1; rw [show vI h12_8 v0 4 = ((vI h v0 4) + 1) from (by rw [ih12_8 v0 4, if_neg (fun z => absurd z.2 (by decide)), ih9_6 v0 4, if_pos ⟨rfl, rfl⟩])] <;> (first | assumption | with_reducible rfl | grind)), (by show vI h12_8 (v0 + 1) 1 = vI h (v0 + 1) 1 + 1; rw [show vI h12_8 (v0 + 1) 1 = ((vI h (v0 + 1) 1) + 1) from (by rw [ih12_8 (v0 + 1) 1, if_pos ⟨rfl, rfl⟩])] <;> (first | assumption | with_reducible rfl | grind)), (by show ¬ vI h v0 4 = 4; first | assumption | with_reducible rfl | grind), (fun a k na => by rw [ih12_8 a k, if_neg (fun z => na (Or.inr (Or.inr (z)))), ih9_6 a k, if_neg (fun z => na (Or.inr (Or.inl z))), ih7_5 a k]), (fun a na => by rw [ah12_8 a, ah9_6 a, bh7_5 a (fun z => na (z))])⟩⟩
theorem j_Pa_openBlock {L : q_L} {π : Nat → Nat → Option Nat} {N : Nat} {pg : Nat} {t : Int32 → Int32} {n : Int32} {h : z_H} {v0 : Nat} {β : Type} {f : Int32 × z_H → Option β} {Q : β → Prop} (T : x_U L π h) (kv0 : qκ L v0 = 7) (kpg : qκ L pg = 10) (ppg : π v0 5 = some pg) (ptx : π (v0 + 1) 0 = some (pg + 1)) (ht : ∀ j, 0 ≤ j → j < n → vA h ((pg + 1) + 1) j = t j) (hn : vI h (pg + 1) 1 = n) (n1 : n ≤ 240) (tp : ∀ j, t j ≠ -1) (D : v0 + 5 ≤ pg) (a0 : 0 ≤ vI h (v0 + 1) 1) (H1 : ∀ h', x_U L π h' → (vI h' v0 4 = vI h v0 4 + 1) → (vI h' (v0 + 1) 1 = vI h (v0 + 1) 1 + 1) → (¬ vI h v0 4 = 4) → (∀ a k, ¬ ((a = (v0 + 1) ∧ k = 2) ∨ (a = v0 ∧ k = 4) ∨ (a = (v0 + 1) ∧ k = 1)) → vI h' a k = vI h a k) → (∀ a, ¬ (a = (v0 + 3)) → vA h' a = vA h a) → qi (f (1, h')) Q) (H0 : ∀ h', x_U L π h' → (vI h v0 4 = 4) → qi (f (0, h')) Q) : qi (z_b (f_Pa_openBlock N v0 h) f) Q := by
  refine qi_b (i_Pa_openBlock  T kv0 kpg ppg ptx ht hn n1 tp D a0) ?_
  rintro ⟨y, hz⟩ ⟨Tz, ⟨ey, g0, g1, g2, g3, g4⟩ | ⟨ey, g0⟩⟩
  · dsimp only at *; subst ey; exact H1 hz Tz g0 g1 g2 g3 g4
  · dsimp only at *; subst ey; exact H0 hz Tz g0

set_option maxHeartbeats 2000000 in
theorem i_Pa_closeBlock {L : q_L} {π : Nat → Nat → Option Nat} {N : Nat} {pg : Nat} {t : Int32 → Int32} {n : Int32} {h : z_H} {v0 : Nat} (T : x_U L π h) (kv0 : qκ L v0 = 7) (kpg : qκ L pg = 10) (ppg : π v0 5 = some pg) (ptx : π (v0 + 1) 0 = some (pg + 1)) (ht : ∀ j, 0 ≤ j → j < n → vA h ((pg + 1) + 1) j = t j) (hn : vI h (pg + 1) 1 = n) (n1 : n ≤ 240) (tp : ∀ j, t j ≠ -1) (D : v0 + 5 ≤ pg) (a0 : 0 ≤ vI h (v0 + 1) 1) : qi (f_Pa_closeBlock N v0 h) (fun r => x_U L π r.2 ∧ ((r.1 = 1 ∧ (vI r.2 v0 4 = vI h v0 4 - 1) ∧ (vI r.2 (v0 + 1) 1 = vI h (v0 + 1) 1 + 1) ∧ (¬ vI h v0 4 = 0) ∧ (∀ a k, ¬ ((a = (v0 + 1) ∧ k = 2) ∨ (a = v0 ∧ k = 4) ∨ (a = (pg + (9 + 6 * Int32.toNatClampNeg (vA h (v0 + 3) ((vI h v0 4) - 1)))) ∧ k = 7) ∨ (a = (v0 + 1) ∧ k = 1)) → vI r.2 a k = vI h a k) ∧ (∀ a, ¬ (a < a) → vA r.2 a = vA h a)) ∨ (r.1 = 0 ∧ (vI h v0 4 = 0)))) := by
  have n2 : n ≤ 1000 := Int32.le_trans n1 (by decide)
  have ktx := e_Prog_0 T kpg
  unfold f_Pa_closeBlock
  refine l_gI (e := (vI h v0 4)) rfl ?_
  refine qi_if (fun cc1 => ?_) (fun cc1 => ?_)
  · skip
    refine l_gR T (d_Pa_0 T kv0) ?_
    have kk2 := e_Pa_0 T kv0
    refine l_gO ?_
    refine j_Cur_refuse (v0 := (v0 + 1)) (v1 := (0 : Int32)) T kk2 ?_
    · intro hr19_3 Thr19_3
      try dsimp only
      refine qi_zB (fun zb4 => ?_)
      refine qi_some ?_
      exact ⟨Thr19_3, Or.inr ⟨rfl, (by show vI h v0 4 = 0; first | assumption | with_reducible rfl | grind)⟩⟩
  · skip
    refine l_gI (e := (vI h v0 4)) rfl ?_
    refine l_sI T kv0 (by decide) rfl ?_
    intro h4_5 Th4_5 ih4_5 ah4_5
    refine l_gR Th4_5 ppg ?_
    refine l_gR Th4_5 (d_Prog_2 Th4_5 kpg) ?_
    refine l_gR Th4_5 (d_Pa_2 Th4_5 kv0) ?_
    refine l_gI (e := ((vI h v0 4) - 1)) (by rw [ih4_5 v0 4, if_pos ⟨rfl, rfl⟩]) ?_
    refine l_aI (e := (vA h (v0 + 3) ((vI h v0 4) - 1))) (fun ix6 => (by rw [ah4_5 (v0 + 3)])) (fun ix6 => ?_)
    refine l_Prog_e8 Th4_5 kpg ?_
    intro ij7 ik7 kc7
    have in7 := q_clp ij7 ik7
    refine l_gR Th4_5 ppg ?_
    refine l_gI (e := (vI h pg 3)) (by rw [ih4_5 pg 3, if_neg (fun z => absurd z.2 (by decide))]) ?_
    refine l_sI Th4_5 kc7 (by decide) rfl ?_
    intro h13_8 Th13_8 ih13_8 ah13_8
    refine l_gR Th13_8 (d_Pa_0 Th13_8 kv0) ?_
    have kk9 := e_Pa_0 Th13_8 kv0
    refine l_gI (e := (vI h (v0 + 1) 1)) (by rw [ih13_8 (v0 + 1) 1, if_neg (fun z => absurd z.2 (by decide)), ih4_5 (v0 + 1) 1, if_neg (fun z => absurd z.2 (by decide))]) ?_
    refine l_sI Th13_8 kk9 (by decide) rfl ?_
    intro h16_10 Th16_10 ih16_10 ah16_10
    refine qi_some ?_
    exact ⟨Th16_10, Or.inl ⟨rfl, (by show vI h16_10 v0 4 = vI h v0 4 - 1; rw [show vI h16_10 v0 4 = ((vI h v0 4) - 1) from (by rw [ih16_10 v0 4, if_neg (fun z => absurd z.2 (by decide)), ih13_8 v0 4, if_neg (fun z => absurd z.2 (by decide)), ih4_5 v0 4, if_pos ⟨rfl, rfl⟩])] <;> (first | assumption | with_reducible rfl | grind)), (by show vI h16_10 (v0 + 1) 1 = vI h (v0 + 1) 1 + 1; rw [show vI h16_10 (v0 + 1) 1 = ((vI h (v0 + 1) 1) + 1) from (by rw [ih16_10 (v0 + 1) 1, if_pos ⟨rfl, rfl⟩])] <;> (first | assumption | with_reducible rfl | grind)), (by show ¬ vI h v0 4 = 0; first | assumption | with_reducible rfl | grind), (fun a k na => by rw [ih16_10 a k, if_neg (fun z => na (Or.inr (Or.inr (Or.inr (z))))), ih13_8 a k, if_neg (fun z => na (Or.inr (Or.inr (Or.inl z)))), ih4_5 a k, if_neg (fun z => na (Or.inr (Or.inl z)))]), (fun a na => by rw [ah16_10 a, ah13_8 a, ah4_5 a])⟩⟩
theorem j_Pa_closeBlock {L : q_L} {π : Nat → Nat → Option Nat} {N : Nat} {pg : Nat} {t : Int32 → Int32} {n : Int32} {h : z_H} {v0 : Nat} {β : Type} {f : Int32 × z_H → Option β} {Q : β → Prop} (T : x_U L π h) (kv0 : qκ L v0 = 7) (kpg : qκ L pg = 10) (ppg : π v0 5 = some pg) (ptx : π (v0 + 1) 0 = some (pg + 1)) (ht : ∀ j, 0 ≤ j → j < n → vA h ((pg + 1) + 1) j = t j) (hn : vI h (pg + 1) 1 = n) (n1 : n ≤ 240) (tp : ∀ j, t j ≠ -1) (D : v0 + 5 ≤ pg) (a0 : 0 ≤ vI h (v0 + 1) 1) (H1 : ∀ h', x_U L π h' → (vI h' v0 4 = vI h v0 4 - 1) → (vI h' (v0 + 1) 1 = vI h (v0 + 1) 1 + 1) → (¬ vI h v0 4 = 0) → (∀ a k, ¬ ((a = (v0 + 1) ∧ k = 2) ∨ (a = v0 ∧ k = 4) ∨ (a = (pg + (9 + 6 * Int32.toNatClampNeg (vA h (v0 + 3) ((vI h v0 4) - 1)))) ∧ k = 7) ∨ (a = (v0 + 1) ∧ k = 1)) → vI h' a k = vI h a k) → (∀ a, ¬ (a < a) → vA h' a = vA h a) → qi (f (1, h')) Q) (H0 : ∀ h', x_U L π h' → (vI h v0 4 = 0) → qi (f (0, h')) Q) : qi (z_b (f_Pa_closeBlock N v0 h) f) Q := by
  refine qi_b (i_Pa_closeBlock  T kv0 kpg ppg ptx ht hn n1 tp D a0) ?_
  rintro ⟨y, hz⟩ ⟨Tz, ⟨ey, g0, g1, g2, g3, g4⟩ | ⟨ey, g0⟩⟩
  · dsimp only at *; subst ey; exact H1 hz Tz g0 g1 g2 g3 g4
  · dsimp only at *; subst ey; exact H0 hz Tz g0

set_option maxHeartbeats 2000000 in
theorem i_Pa_placeLabel {L : q_L} {π : Nat → Nat → Option Nat} {N : Nat} {pg : Nat} {cm : Nat} {t : Int32 → Int32} {n : Int32} {h : z_H} {v0 : Nat} (T : x_U L π h) (kv0 : qκ L v0 = 7) (kpg : qκ L pg = 10) (ppg : π v0 5 = some pg) (kcm : qκ L cm = 2) (pcm : π v0 6 = some cm) (ptx : π (v0 + 1) 0 = some (pg + 1)) (ht : ∀ j, 0 ≤ j → j < n → vA h ((pg + 1) + 1) j = t j) (hn : vI h (pg + 1) 1 = n) (n1 : n ≤ 240) (tp : ∀ j, t j ≠ -1) (D : v0 + 5 ≤ pg) (hc : pg + 9 ≤ cm ∧ cm + 6 ≤ pg + 249) (a0 : 0 ≤ vI h (v0 + 1) 1) : qi (f_Pa_placeLabel N v0 h) (fun r => x_U L π r.2 ∧ ((r.1 = 1 ∧ (vI r.2 (v0 + 1) 1 = vI h (v0 + 1) 1 + 2) ∧ (¬ 0 < vI h cm 5) ∧ (vI h cm 6 = 0) ∧ (97 ≤ x_lk t n (vI h (v0 + 1) 1 + 1) ∧ x_lk t n (vI h (v0 + 1) 1 + 1) ≤ 122) ∧ (vA h (v0 + 4) (x_lk t n (vI h (v0 + 1) 1 + 1) - 97) = -1) ∧ (∀ j, 0 ≤ j → vA r.2 (v0 + 4) j = if j = x_lk t n (vI h (v0 + 1) 1 + 1) - 97 then vI h pg 3 else vA h (v0 + 4) j) ∧ (∀ a k, ¬ ((a = (v0 + 1) ∧ k = 2) ∨ (a = (v0 + 1) ∧ k = 1)) → vI r.2 a k = vI h a k) ∧ (∀ a, ¬ (a = (v0 + 4)) → vA r.2 a = vA h a)) ∨ (r.1 = 0 ∧ (0 < vI h cm 5 ∨ ¬ vI h cm 6 = 0 ∨ ¬ (97 ≤ x_lk t n (vI h (v0 + 1) 1 + 1) ∧ x_lk t n (vI h (v0 + 1) 1 + 1) ≤ 122) ∨ ¬ vA h (v0 + 4) (x_lk t n (vI h (v0 + 1) 1 + 1) - 97) = -1)))) := by
  have n2 : n ≤ 1000 := Int32.le_trans n1 (by decide)
  have ktx := e_Prog_0 T kpg
  unfold f_Pa_placeLabel
  refine l_gR T pcm ?_
  refine l_gI (e := (vI h cm 5)) rfl ?_
  refine qi_if (fun cc1 => ?_) (fun cc1 => ?_)
  · skip
    unfold f_Pa_placeLabel_20
    refine l_gR T (d_Pa_0 T kv0) ?_
    have kk3 := e_Pa_0 T kv0
    refine l_gO ?_
    refine j_Cur_refuse (v0 := (v0 + 1)) (v1 := (0 : Int32)) T kk3 ?_
    · intro hr3i2_4 Thr3i2_4
      try dsimp only
      refine qi_zB (fun zb5 => ?_)
      refine qi_some ?_
      exact ⟨Thr3i2_4, Or.inr ⟨rfl, (by show 0 < vI h cm 5 ∨ ¬ vI h cm 6 = 0 ∨ ¬ (97 ≤ x_lk t n (vI h (v0 + 1) 1 + 1) ∧ x_lk t n (vI h (v0 + 1) 1 + 1) ≤ 122) ∨ ¬ vA h (v0 + 4) (x_lk t n (vI h (v0 + 1) 1 + 1) - 97) = -1; first | assumption | with_reducible rfl | grind)⟩⟩
  · skip
    refine l_gR T pcm ?_
    refine l_gI (e := (vI h cm 6)) rfl ?_
    refine qi_if (fun cc6 => ?_) (fun cc6 => ?_)
    · skip
      refine l_gR T (d_Pa_0 T kv0) ?_
      have kk7 := e_Pa_0 T kv0
      refine l_gI (e := (vI h (v0 + 1) 1)) rfl ?_
      refine l_sI T kk7 (by decide) rfl ?_
      intro h9_8 Th9_8 ih9_8 ah9_8
      refine l_gR Th9_8 (d_Pa_0 Th9_8 kv0) ?_
      refine l_gO ?_
      refine j_Cur_look (v0 := (v0 + 1)) (v1 := (0 : Int32)) (tx := (pg + 1)) (t := t) (n := n) (e := (x_lk t n (((vI h (v0 + 1) 1) + 1)))) Th9_8 kk7 ktx ptx (by show ∀ j, 0 ≤ j → j < n → vA h9_8 ((pg + 1) + 1) j = t j; rw [show vA h9_8 ((pg + 1) + 1) = vA h ((pg + 1) + 1) from (by rw [ah9_8 ((pg + 1) + 1)])] <;> ((try simp only [Int32.add_zero, x_s11, x_s12, x_s21, x_s13, x_s22, x_s31]) <;> (first | assumption | with_reducible rfl | grind))) (by show vI h9_8 (pg + 1) 1 = n; rw [show vI h9_8 (pg + 1) 1 = (vI h (pg + 1) 1) from (by rw [ih9_8 (pg + 1) 1, if_neg (fun z => absurd z.1 (by omega))])] <;> (first | assumption | with_reducible rfl | grind)) (by rw [show vI h9_8 (v0 + 1) 1 = ((vI h (v0 + 1) 1) + 1) from (by rw [ih9_8 (v0 + 1) 1, if_pos ⟨rfl, rfl⟩])]; try simp only [Int32.add_zero, x_s11, x_s12, x_s21, x_s13, x_s22, x_s31]) ?_
      try dsimp only
      refine qi_bs ?_
      refine j_Pa_isLetter (v0 := (x_lk t n (((vI h (v0 + 1) 1) + 1)))) Th9_8 (fun _ g1r14_10_0 => ?_) (fun _ g0r14_10_0 => ?_)
      · try dsimp only
        refine qi_if (fun cc11 => absurd cc11 (by decide)) (fun _ => ?_)
        refine l_gR Th9_8 (d_Pa_3 Th9_8 kv0) ?_
        refine l_aI (e := (vA h (v0 + 4) ((x_lk t n (((vI h (v0 + 1) 1) + 1))) - 97))) (fun ix12 => (by rw [ah9_8 (v0 + 4)])) (fun ix12 => ?_)
        refine qi_if (fun cc13 => ?_) (fun cc13 => ?_)
        · skip
          refine l_gR Th9_8 (d_Pa_3 Th9_8 kv0) ?_
          refine l_gR Th9_8 ppg ?_
          refine l_gI (e := (vI h pg 3)) (by rw [ih9_8 pg 3, if_neg (fun z => absurd z.2 (by decide))]) ?_
          refine l_uI Th9_8 ?_
          intro h22_14 Th22_14 jh22_14 ih22_14 ah22_14 bh22_14
          refine l_gR Th22_14 (d_Pa_0 Th22_14 kv0) ?_
          refine l_gI (e := ((vI h (v0 + 1) 1) + 1)) (by rw [ih22_14 (v0 + 1) 1, ih9_8 (v0 + 1) 1, if_pos ⟨rfl, rfl⟩]) ?_
          refine l_sI Th22_14 kk7 (by decide) rfl ?_
          intro h25_15 Th25_15 ih25_15 ah25_15
          refine qi_some ?_
          exact ⟨Th25_15, Or.inl ⟨rfl, (by show vI h25_15 (v0 + 1) 1 = vI h (v0 + 1) 1 + 2; rw [show vI h25_15 (v0 + 1) 1 = (((vI h (v0 + 1) 1) + 1) + 1) from (by rw [ih25_15 (v0 + 1) 1, if_pos ⟨rfl, rfl⟩])] <;> ((try simp only [Int32.add_zero, x_s11, x_s12, x_s21, x_s13, x_s22, x_s31]) <;> (rfl))), (by show ¬ 0 < vI h cm 5; first | assumption | with_reducible rfl | grind), (by show vI h cm 6 = 0; first | assumption | with_reducible rfl | grind), (by show 97 ≤ x_lk t n (vI h (v0 + 1) 1 + 1) ∧ x_lk t n (vI h (v0 + 1) 1 + 1) ≤ 122; first | assumption | with_reducible rfl | grind), (by show vA h (v0 + 4) (x_lk t n (vI h (v0 + 1) 1 + 1) - 97) = -1; first | assumption | with_reducible rfl | grind), (fun j j0 => by rw [ah25_15 (v0 + 4), ah22_14 (v0 + 4) j j0, ah9_8 (v0 + 4)]; by_cases q : j = x_lk t n (vI h (v0 + 1) 1 + 1) - 97; (rw [if_pos ⟨rfl, q⟩, if_pos q]); (rw [if_neg (fun z => q z.2), if_neg q])), (fun a k na => by rw [ih25_15 a k, if_neg (fun z => na (Or.inr (z))), ih22_14 a k, ih9_8 a k, if_neg (fun z => na (Or.inr (z)))]), (fun a na => by rw [ah25_15 a, bh22_14 a (fun z => na (z)), ah9_8 a])⟩⟩
        · skip
          unfold f_Pa_placeLabel_71
          refine l_gR Th9_8 (d_Pa_0 Th9_8 kv0) ?_
          refine l_gO ?_
          refine j_Cur_refuse (v0 := (v0 + 1)) (v1 := (0 : Int32)) Th9_8 kk7 ?_
          · intro hr3i16_17 Thr3i16_17
            try dsimp only
            refine qi_zB (fun zb18 => ?_)
            refine qi_some ?_
            exact ⟨Thr3i16_17, Or.inr ⟨rfl, (by show 0 < vI h cm 5 ∨ ¬ vI h cm 6 = 0 ∨ ¬ (97 ≤ x_lk t n (vI h (v0 + 1) 1 + 1) ∧ x_lk t n (vI h (v0 + 1) 1 + 1) ≤ 122) ∨ ¬ vA h (v0 + 4) (x_lk t n (vI h (v0 + 1) 1 + 1) - 97) = -1; first | assumption | with_reducible rfl | grind)⟩⟩
      · try dsimp only
        refine qi_if (fun _ => ?_) (fun cc19 => absurd (by decide) cc19)
        unfold f_Pa_placeLabel_71
        refine l_gR Th9_8 (d_Pa_0 Th9_8 kv0) ?_
        refine l_gO ?_
        refine j_Cur_refuse (v0 := (v0 + 1)) (v1 := (0 : Int32)) Th9_8 kk7 ?_
        · intro hr3i20_21 Thr3i20_21
          try dsimp only
          refine qi_zB (fun zb22 => ?_)
          refine qi_some ?_
          exact ⟨Thr3i20_21, Or.inr ⟨rfl, (by show 0 < vI h cm 5 ∨ ¬ vI h cm 6 = 0 ∨ ¬ (97 ≤ x_lk t n (vI h (v0 + 1) 1 + 1) ∧ x_lk t n (vI h (v0 + 1) 1 + 1) ≤ 122) ∨ ¬ vA h (v0 + 4) (x_lk t n (vI h (v0 + 1) 1 + 1) - 97) = -1; first | assumption | with_reducible rfl | grind)⟩⟩
    · skip
      unfold f_Pa_placeLabel_20
      refine l_gR T (d_Pa_0 T kv0) ?_
      have kk24 := e_Pa_0 T kv0
      refine l_gO ?_
      refine j_Cur_refuse (v0 := (v0 + 1)) (v1 := (0 : Int32)) T kk24 ?_
      · intro hr3i23_25 Thr3i23_25
        try dsimp only
        refine qi_zB (fun zb26 => ?_)
        refine qi_some ?_
        exact ⟨Thr3i23_25, Or.inr ⟨rfl, (by show 0 < vI h cm 5 ∨ ¬ vI h cm 6 = 0 ∨ ¬ (97 ≤ x_lk t n (vI h (v0 + 1) 1 + 1) ∧ x_lk t n (vI h (v0 + 1) 1 + 1) ≤ 122) ∨ ¬ vA h (v0 + 4) (x_lk t n (vI h (v0 + 1) 1 + 1) - 97) = -1; first | assumption | with_reducible rfl | grind)⟩⟩
theorem j_Pa_placeLabel {L : q_L} {π : Nat → Nat → Option Nat} {N : Nat} {pg : Nat} {cm : Nat} {t : Int32 → Int32} {n : Int32} {h : z_H} {v0 : Nat} {β : Type} {f : Int32 × z_H → Option β} {Q : β → Prop} (T : x_U L π h) (kv0 : qκ L v0 = 7) (kpg : qκ L pg = 10) (ppg : π v0 5 = some pg) (kcm : qκ L cm = 2) (pcm : π v0 6 = some cm) (ptx : π (v0 + 1) 0 = some (pg + 1)) (ht : ∀ j, 0 ≤ j → j < n → vA h ((pg + 1) + 1) j = t j) (hn : vI h (pg + 1) 1 = n) (n1 : n ≤ 240) (tp : ∀ j, t j ≠ -1) (D : v0 + 5 ≤ pg) (hc : pg + 9 ≤ cm ∧ cm + 6 ≤ pg + 249) (a0 : 0 ≤ vI h (v0 + 1) 1) (H1 : ∀ h', x_U L π h' → (vI h' (v0 + 1) 1 = vI h (v0 + 1) 1 + 2) → (¬ 0 < vI h cm 5) → (vI h cm 6 = 0) → (97 ≤ x_lk t n (vI h (v0 + 1) 1 + 1) ∧ x_lk t n (vI h (v0 + 1) 1 + 1) ≤ 122) → (vA h (v0 + 4) (x_lk t n (vI h (v0 + 1) 1 + 1) - 97) = -1) → (∀ j, 0 ≤ j → vA h' (v0 + 4) j = if j = x_lk t n (vI h (v0 + 1) 1 + 1) - 97 then vI h pg 3 else vA h (v0 + 4) j) → (∀ a k, ¬ ((a = (v0 + 1) ∧ k = 2) ∨ (a = (v0 + 1) ∧ k = 1)) → vI h' a k = vI h a k) → (∀ a, ¬ (a = (v0 + 4)) → vA h' a = vA h a) → qi (f (1, h')) Q) (H0 : ∀ h', x_U L π h' → (0 < vI h cm 5 ∨ ¬ vI h cm 6 = 0 ∨ ¬ (97 ≤ x_lk t n (vI h (v0 + 1) 1 + 1) ∧ x_lk t n (vI h (v0 + 1) 1 + 1) ≤ 122) ∨ ¬ vA h (v0 + 4) (x_lk t n (vI h (v0 + 1) 1 + 1) - 97) = -1) → qi (f (0, h')) Q) : qi (z_b (f_Pa_placeLabel N v0 h) f) Q := by
  refine qi_b (i_Pa_placeLabel  T kv0 kpg ppg kcm pcm ptx ht hn n1 tp D hc a0) ?_
  rintro ⟨y, hz⟩ ⟨Tz, ⟨ey, g0, g1, g2, g3, g4, g5, g6, g7⟩ | ⟨ey, g0⟩⟩
  · dsimp only at *; subst ey; exact H1 hz Tz g0 g1 g2 g3 g4 g5 g6 g7
  · dsimp only at *; subst ey; exact H0 hz Tz g0

