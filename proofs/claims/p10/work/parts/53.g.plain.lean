set_option maxHeartbeats 1000000 in
theorem p_Mod_isPlain {L : q_L} {W : Nat → Prop} {h0 : z_H} {π : Nat → Nat → Option Nat} {N : Nat} {h : z_H} {v0 : Int32} (T : q_U L W h0 π h)   : qk (f_Mod_isPlain N v0 h) (fun r => r.2 = h ∧ (r.1 = 0 ∨ r.1 = 1) ∧ (r.1 = 1 → v0 ≠ 98 ∧ v0 ≠ 116 ∧ v0 ≠ 123 ∧ v0 ≠ 115 ∧ v0 ≠ 121 ∧ v0 ≠ 97 ∧ v0 ≠ 99 ∧ v0 ≠ 105)) := by
  unfold f_Mod_isPlain
  refine qk_if (fun cc1 => ?_) (fun cc1 => ?_)
  · skip
    refine qk_some ?_
    exact ⟨rfl, (by first | with_reducible assumption | grind | lia), (by first | with_reducible assumption | grind | lia)⟩
  · skip
    refine qk_if (fun cc2 => ?_) (fun cc2 => ?_)
    · skip
      refine qk_some ?_
      exact ⟨rfl, (by first | with_reducible assumption | grind | lia), (by first | with_reducible assumption | grind | lia)⟩
    · skip
      refine qk_if (fun cc3 => ?_) (fun cc3 => ?_)
      · skip
        refine qk_some ?_
        exact ⟨rfl, (by first | with_reducible assumption | grind | lia), (by first | with_reducible assumption | grind | lia)⟩
      · skip
        refine qk_if (fun cc4 => ?_) (fun cc4 => ?_)
        · skip
          refine qk_some ?_
          exact ⟨rfl, (by first | with_reducible assumption | grind | lia), (by first | with_reducible assumption | grind | lia)⟩
        · skip
          refine qk_if (fun cc5 => ?_) (fun cc5 => ?_)
          · skip
            refine qk_some ?_
            exact ⟨rfl, (by first | with_reducible assumption | grind | lia), (by first | with_reducible assumption | grind | lia)⟩
          · skip
            refine qk_if (fun cc6 => ?_) (fun cc6 => ?_)
            · skip
              refine qk_some ?_
              exact ⟨rfl, (by first | with_reducible assumption | grind | lia), (by first | with_reducible assumption | grind | lia)⟩
            · skip
              refine qk_if (fun cc7 => ?_) (fun cc7 => ?_)
              · skip
                refine qk_some ?_
                exact ⟨rfl, (by first | with_reducible assumption | grind | lia), (by first | with_reducible assumption | grind | lia)⟩
              · skip
                refine qk_if (fun cc8 => ?_) (fun cc8 => ?_)
                · skip
                  refine qk_some ?_
                  exact ⟨rfl, (by first | with_reducible assumption | grind | lia), (by first | with_reducible assumption | grind | lia)⟩
                · skip
                  refine qk_if (fun cc9 => ?_) (fun cc9 => ?_)
                  · skip
                    refine qk_some ?_
                    exact ⟨rfl, (by first | with_reducible assumption | grind | lia), (by first | with_reducible assumption | grind | lia)⟩
                  · skip
                    refine qk_if (fun cc10 => ?_) (fun cc10 => ?_)
                    · skip
                      refine qk_some ?_
                      exact ⟨rfl, (by first | with_reducible assumption | grind | lia), (by first | with_reducible assumption | grind | lia)⟩
                    · skip
                      refine qk_if (fun cc11 => ?_) (fun cc11 => ?_)
                      · skip
                        refine qk_some ?_
                        exact ⟨rfl, (by first | with_reducible assumption | grind | lia), (by first | with_reducible assumption | grind | lia)⟩
                      · skip
                        refine qk_if (fun cc12 => ?_) (fun cc12 => ?_)
                        · skip
                          refine qk_some ?_
                          exact ⟨rfl, (by first | with_reducible assumption | grind | lia), (by first | with_reducible assumption | grind | lia)⟩
                        · skip
                          refine qk_if (fun cc13 => ?_) (fun cc13 => ?_)
                          · skip
                            refine qk_some ?_
                            exact ⟨rfl, (by first | with_reducible assumption | grind | lia), (by first | with_reducible assumption | grind | lia)⟩
                          · skip
                            refine qk_some ?_
                            exact ⟨rfl, (by first | with_reducible assumption | grind | lia), (by first | with_reducible assumption | grind | lia)⟩
theorem c_Mod_isPlain {L : q_L} {W : Nat → Prop} {h0 : z_H} {π : Nat → Nat → Option Nat} {N : Nat} {h : z_H} {v0 : Int32} {β : Type} {f : Int32 × z_H → Option β} {Q : β → Prop} (T : q_U L W h0 π h)   (H : ∀ y, (y = 0 ∨ y = 1) → (y = 1 → v0 ≠ 98 ∧ v0 ≠ 116 ∧ v0 ≠ 123 ∧ v0 ≠ 115 ∧ v0 ≠ 121 ∧ v0 ≠ 97 ∧ v0 ≠ 99 ∧ v0 ≠ 105) → qk (f (y, h)) Q) : qk (z_b (f_Mod_isPlain N v0 h) f) Q := by
  refine qk_b (p_Mod_isPlain T  ) ?_
  rintro ⟨y, hz⟩ ⟨hy, g0, g1⟩
  try dsimp only at *
  subst hy
  exact H y g0 g1
