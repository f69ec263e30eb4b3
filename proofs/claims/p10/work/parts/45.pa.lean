/-- a pattern of a command is one that may be matched, and its items are there -/
def q_PW (h : z_H) (it pt : Nat) : Prop := q_PV (vA h (it + 1)) (vA h (it + 2)) (vI h pt 2) (vI h pt 4) (vI h pt 5) (vI h pt 3) ∧ vI h pt 3 ≤ vI h it 4
theorem q_PW_eq {h h' : z_H} {it pt : Nat} (P : q_PW h it pt) (e : ∀ j, 0 ≤ j → j < vI h it 4 → vA h' (it + 1) j = vA h (it + 1) j ∧ vA h' (it + 2) j = vA h (it + 2) j) (e0 : vI h it 4 ≤ vI h' it 4) (e1 : ∀ k, vI h' pt k = vI h pt k) : q_PW h' it pt := by
  refine ⟨q_PV_eq P.1 (fun j h1 h2 => e j h1 (by have := P.2; lia)) (e1 _) (e1 _) (e1 _) (e1 _), ?_⟩
  rw [e1 3]
  have := P.2
  lia
/-- a command whose patterns may be matched -/
def q_CV (h : z_H) (c it : Nat) : Prop := (1 ≤ vI h c 5 → vI h (c + 1) 1 = 2 → q_PW h it (c + 2)) ∧ (2 ≤ vI h c 5 → vI h (c + 3) 1 = 2 → q_PW h it (c + 4)) ∧ (vI h c 3 = 115 → q_PW h it (c + 5))
theorem q_CV_eq {h h' : z_H} {c it : Nat} (P : q_CV h c it) (e : ∀ j, 0 ≤ j → j < vI h it 4 → vA h' (it + 1) j = vA h (it + 1) j ∧ vA h' (it + 2) j = vA h (it + 2) j) (e0 : vI h it 4 ≤ vI h' it 4) (e1 : ∀ a k, c ≤ a → a < c + 6 → k ≠ 7 → vI h' a k = vI h a k) (e2 : ∀ k, vI h' (c + 2) k = vI h (c + 2) k) (e3 : ∀ k, vI h' (c + 4) k = vI h (c + 4) k) (e4 : ∀ k, vI h' (c + 5) k = vI h (c + 5) k) : q_CV h' c it := by
  obtain ⟨p1, p2, p3⟩ := P
  have a1 := e1 c 5 (by omega) (by omega) (by decide)
  have a2 := e1 c 3 (by omega) (by omega) (by decide)
  have a3 := e1 (c + 1) 1 (by omega) (by omega) (by decide)
  have a4 := e1 (c + 3) 1 (by omega) (by omega) (by decide)
  refine ⟨fun b1 b2 => q_PW_eq (p1 (a1 ▸ b1) (a3 ▸ b2)) e e0 e2, fun b1 b2 => q_PW_eq (p2 (a1 ▸ b1) (a4 ▸ b2)) e e0 e3, fun b1 => q_PW_eq (p3 (a2 ▸ b1)) e e0 e4⟩
set_option maxHeartbeats 1000000 in
theorem p_Pa_refusedAt {L : q_L} {W : Nat → Prop} {h0 : z_H} {π : Nat → Nat → Option Nat} {N : Nat} {h : z_H} {v0 : Nat} (T : q_U L W h0 π h) (kv0 : qκ L v0 = 7)  : qk (f_Pa_refusedAt N v0 h) (fun r => r.2 = h) := by
  unfold f_Pa_refusedAt
  refine r_Pa_0 T kv0 ?_
  intro kx1
  refine r_Cur_2 T kx1 ?_
  intro x2 ex2
  subst ex2
  refine qk_some ?_
  exact rfl
theorem c_Pa_refusedAt {L : q_L} {W : Nat → Prop} {h0 : z_H} {π : Nat → Nat → Option Nat} {N : Nat} {h : z_H} {v0 : Nat} {β : Type} {f : Int32 × z_H → Option β} {Q : β → Prop} (T : q_U L W h0 π h) (kv0 : qκ L v0 = 7)  (H : ∀ y, qk (f (y, h)) Q) : qk (z_b (f_Pa_refusedAt N v0 h) f) Q := by
  refine qk_b (p_Pa_refusedAt T kv0 ) ?_
  rintro ⟨y, hz⟩ hy
  try dsimp only at *
  subst hy
  exact H y 

set_option maxHeartbeats 1000000 in
theorem p_Pa_startsAddress {L : q_L} {W : Nat → Prop} {h0 : z_H} {π : Nat → Nat → Option Nat} {N : Nat} {h : z_H} {v0 : Int32} (T : q_U L W h0 π h)   : qk (f_Pa_startsAddress N v0 h) (fun r => r.2 = h ∧ (r.1 = 0 ∨ r.1 = 1) ∧ (r.1 = 1 → v0 = 36 ∨ v0 = 47 ∨ (49 ≤ v0 ∧ v0 ≤ 57))) := by
  unfold f_Pa_startsAddress
  refine qk_if (fun cc1 => ?_) (fun cc1 => ?_)
  · skip
    refine qk_some ?_
    exact ⟨rfl, (by first | with_reducible assumption | grind | grind (ematch := 40) (gen := 40) (liaSteps := 300000) | lia), (by first | with_reducible assumption | grind | grind (ematch := 40) (gen := 40) (liaSteps := 300000) | lia)⟩
  · skip
    refine qk_if (fun cc2 => ?_) (fun cc2 => ?_)
    · skip
      refine qk_some ?_
      exact ⟨rfl, (by first | with_reducible assumption | grind | grind (ematch := 40) (gen := 40) (liaSteps := 300000) | lia), (by first | with_reducible assumption | grind | grind (ematch := 40) (gen := 40) (liaSteps := 300000) | lia)⟩
    · skip
      refine qk_if (fun cc3 => ?_) (fun cc3 => ?_)
      · skip
        refine qk_some ?_
        exact ⟨rfl, (by first | with_reducible assumption | grind | grind (ematch := 40) (gen := 40) (liaSteps := 300000) | lia), (by first | with_reducible assumption | grind | grind (ematch := 40) (gen := 40) (liaSteps := 300000) | lia)⟩
      · skip
        refine qk_if (fun cc4 => ?_) (fun cc4 => ?_)
        · skip
          refine qk_some ?_
          exact ⟨rfl, (by first | with_reducible assumption | grind | grind (ematch := 40) (gen := 40) (liaSteps := 300000) | lia), (by first | with_reducible assumption | grind | grind (ematch := 40) (gen := 40) (liaSteps := 300000) | lia)⟩
        · skip
          refine qk_some ?_
          exact ⟨rfl, (by first | with_reducible assumption | grind | grind (ematch := 40) (gen := 40) (liaSteps := 300000) | lia), (by first | with_reducible assumption | grind | grind (ematch := 40) (gen := 40) (liaSteps := 300000) | lia)⟩
theorem c_Pa_startsAddress {L : q_L} {W : Nat → Prop} {h0 : z_H} {π : Nat → Nat → Option Nat} {N : Nat} {h : z_H} {v0 : Int32} {β : Type} {f : Int32 × z_H → Option β} {Q : β → Prop} (T : q_U L W h0 π h)   (H : ∀ y, (y = 0 ∨ y = 1) → (y = 1 → v0 = 36 ∨ v0 = 47 ∨ (49 ≤ v0 ∧ v0 ≤ 57)) → qk (f (y, h)) Q) : qk (z_b (f_Pa_startsAddress N v0 h) f) Q := by
  refine qk_b (p_Pa_startsAddress T  ) ?_
  rintro ⟨y, hz⟩ ⟨hy, g0, g1⟩
  try dsimp only at *
  subst hy
  exact H y g0 g1

set_option maxHeartbeats 1000000 in
theorem p_Pa_isLetter {L : q_L} {W : Nat → Prop} {h0 : z_H} {π : Nat → Nat → Option Nat} {N : Nat} {h : z_H} {v0 : Int32} (T : q_U L W h0 π h)   : qk (f_Pa_isLetter N v0 h) (fun r => r.2 = h ∧ (r.1 = 0 ∨ r.1 = 1) ∧ (r.1 = 1 → 97 ≤ v0 ∧ v0 ≤ 122)) := by
  unfold f_Pa_isLetter
  refine qk_if (fun cc1 => ?_) (fun cc1 => ?_)
  · skip
    refine qk_some ?_
    exact ⟨rfl, (by first | with_reducible assumption | grind | grind (ematch := 40) (gen := 40) (liaSteps := 300000) | lia), (by first | with_reducible assumption | grind | grind (ematch := 40) (gen := 40) (liaSteps := 300000) | lia)⟩
  · skip
    refine qk_if (fun cc2 => ?_) (fun cc2 => ?_)
    · skip
      refine qk_some ?_
      exact ⟨rfl, (by first | with_reducible assumption | grind | grind (ematch := 40) (gen := 40) (liaSteps := 300000) | lia), (by first | with_reducible assumption | grind | grind (ematch := 40) (gen := 40) (liaSteps := 300000) | lia)⟩
    · skip
      refine qk_some ?_
      exact ⟨rfl, (by first | with_reducible assumption | grind | grind (ematch := 40) (gen := 40) (liaSteps := 300000) | lia), (by first | with_reducible assumption | grind | grind (ematch := 40) (gen := 40) (liaSteps := 300000) | lia)⟩
theorem c_Pa_isLetter {L : q_L} {W : Nat → Prop} {h0 : z_H} {π : Nat → Nat → Option Nat} {N : Nat} {h : z_H} {v0 : Int32} {β : Type} {f : Int32 × z_H → Option β} {Q : β → Prop} (T : q_U L W h0 π h)   (H : ∀ y, (y = 0 ∨ y = 1) → (y = 1 → 97 ≤ v0 ∧ v0 ≤ 122) → qk (f (y, h)) Q) : qk (z_b (f_Pa_isLetter N v0 h) f) Q := by
  refine qk_b (p_Pa_isLetter T  ) ?_
  rintro ⟨y, hz⟩ ⟨hy, g0, g1⟩
  try dsimp only at *
  subst hy
  exact H y g0 g1

set_option maxHeartbeats 1000000 in
theorem p_Pa_isExchangeable {L : q_L} {W : Nat → Prop} {h0 : z_H} {π : Nat → Nat → Option Nat} {N : Nat} {h : z_H} {v0 : Int32} (T : q_U L W h0 π h)   : qk (f_Pa_isExchangeable N v0 h) (fun r => r.2 = h ∧ (r.1 = 0 ∨ r.1 = 1) ∧ (r.1 = 1 → v0 ≠ -1)) := by
  unfold f_Pa_isExchangeable
  refine qk_if (fun cc1 => ?_) (fun cc1 => ?_)
  · skip
    refine qk_some ?_
    exact ⟨rfl, (by first | with_reducible assumption | grind | grind (ematch := 40) (gen := 40) (liaSteps := 300000) | lia), (by first | with_reducible assumption | grind | grind (ematch := 40) (gen := 40) (liaSteps := 300000) | lia)⟩
  · skip
    refine qk_if (fun cc2 => ?_) (fun cc2 => ?_)
    · skip
      refine qk_some ?_
      exact ⟨rfl, (by first | with_reducible assumption | grind | grind (ematch := 40) (gen := 40) (liaSteps := 300000) | lia), (by first | with_reducible assumption | grind | grind (ematch := 40) (gen := 40) (liaSteps := 300000) | lia)⟩
    · skip
      refine qk_if (fun cc3 => ?_) (fun cc3 => ?_)
      · skip
        refine qk_some ?_
        exact ⟨rfl, (by first | with_reducible assumption | grind | grind (ematch := 40) (gen := 40) (liaSteps := 300000) | lia), (by first | with_reducible assumption | grind | grind (ematch := 40) (gen := 40) (liaSteps := 300000) | lia)⟩
      · skip
        refine qk_some ?_
        exact ⟨rfl, (by first | with_reducible assumption | grind | grind (ematch := 40) (gen := 40) (liaSteps := 300000) | lia), (by first | with_reducible assumption | grind | grind (ematch := 40) (gen := 40) (liaSteps := 300000) | lia)⟩
theorem c_Pa_isExchangeable {L : q_L} {W : Nat → Prop} {h0 : z_H} {π : Nat → Nat → Option Nat} {N : Nat} {h : z_H} {v0 : Int32} {β : Type} {f : Int32 × z_H → Option β} {Q : β → Prop} (T : q_U L W h0 π h)   (H : ∀ y, (y = 0 ∨ y = 1) → (y = 1 → v0 ≠ -1) → qk (f (y, h)) Q) : qk (z_b (f_Pa_isExchangeable N v0 h) f) Q := by
  refine qk_b (p_Pa_isExchangeable T  ) ?_
  rintro ⟨y, hz⟩ ⟨hy, g0, g1⟩
  try dsimp only at *
  subst hy
  exact H y g0 g1

set_option maxHeartbeats 1000000 in
theorem p_Pa_mayFollowBackslash {L : q_L} {W : Nat → Prop} {h0 : z_H} {π : Nat → Nat → Option Nat} {N : Nat} {cm : Nat} {h : z_H} {v0 : Nat} {v1 : Int32} (T : q_U L W h0 π h) (kv0 : qκ L v0 = 7) (kcm : qκ L cm = 2) (pcm : π v0 6 = some cm) : qk (f_Pa_mayFollowBackslash N v0 v1 h) (fun r => r.2 = h ∧ (r.1 = 0 ∨ r.1 = 1)) := by
  unfold f_Pa_mayFollowBackslash
  refine qk_if (fun cc1 => ?_) (fun cc1 => ?_)
  · skip
    unfold f_Pa_mayFollowBackslash_28
    refine qk_if (fun cc3 => ?_) (fun cc3 => ?_)
    · skip
      refine qk_if (fun cc4 => ?_) (fun cc4 => ?_)
      · skip
        refine qk_some ?_
        exact ⟨rfl, (by first | with_reducible assumption | grind | grind (ematch := 40) (gen := 40) (liaSteps := 300000) | lia)⟩
      · skip
        refine qk_if (fun cc5 => ?_) (fun cc5 => ?_)
        · skip
          refine qk_some ?_
          exact ⟨rfl, (by first | with_reducible assumption | grind | grind (ematch := 40) (gen := 40) (liaSteps := 300000) | lia)⟩
        · skip
          refine qk_if (fun cc6 => ?_) (fun cc6 => ?_)
          · skip
            refine qk_some ?_
            exact ⟨rfl, (by first | with_reducible assumption | grind | grind (ematch := 40) (gen := 40) (liaSteps := 300000) | lia)⟩
          · skip
            refine qk_if (fun cc7 => ?_) (fun cc7 => ?_)
            · skip
              refine qk_some ?_
              exact ⟨rfl, (by first | with_reducible assumption | grind | grind (ematch := 40) (gen := 40) (liaSteps := 300000) | lia)⟩
            · skip
              refine qk_some ?_
              exact ⟨rfl, (by first | with_reducible assumption | grind | grind (ematch := 40) (gen := 40) (liaSteps := 300000) | lia)⟩
    · skip
      refine qk_some ?_
      exact ⟨rfl, (by first | with_reducible assumption | grind | grind (ematch := 40) (gen := 40) (liaSteps := 300000) | lia)⟩
  · skip
    refine r_Pa_6 T kv0 pcm ?_
    refine r_Cmd_2 T kcm ?_
    intro kx3
    refine r_Pt_6 T kx3 ?_
    intro x4 ex4 lx4 ux4
    subst ex4
    refine qk_if (fun cc8 => ?_) (fun cc8 => ?_)
    · skip
      unfold f_Pa_mayFollowBackslash_28
      refine qk_if (fun cc10 => ?_) (fun cc10 => ?_)
      · skip
        refine qk_if (fun cc11 => ?_) (fun cc11 => ?_)
        · skip
          refine qk_some ?_
          exact ⟨rfl, (by first | with_reducible assumption | grind | grind (ematch := 40) (gen := 40) (liaSteps := 300000) | lia)⟩
        · skip
          refine qk_if (fun cc12 => ?_) (fun cc12 => ?_)
          · skip
            refine qk_some ?_
            exact ⟨rfl, (by first | with_reducible assumption | grind | grind (ematch := 40) (gen := 40) (liaSteps := 300000) | lia)⟩
          · skip
            refine qk_if (fun cc13 => ?_) (fun cc13 => ?_)
            · skip
              refine qk_some ?_
              exact ⟨rfl, (by first | with_reducible assumption | grind | grind (ematch := 40) (gen := 40) (liaSteps := 300000) | lia)⟩
            · skip
              refine qk_if (fun cc14 => ?_) (fun cc14 => ?_)
              · skip
                refine qk_some ?_
                exact ⟨rfl, (by first | with_reducible assumption | grind | grind (ematch := 40) (gen := 40) (liaSteps := 300000) | lia)⟩
              · skip
                refine qk_some ?_
                exact ⟨rfl, (by first | with_reducible assumption | grind | grind (ematch := 40) (gen := 40) (liaSteps := 300000) | lia)⟩
      · skip
        refine qk_some ?_
        exact ⟨rfl, (by first | with_reducible assumption | grind | grind (ematch := 40) (gen := 40) (liaSteps := 300000) | lia)⟩
    · skip
      unfold f_Pa_mayFollowBackslash_28
      refine qk_if (fun cc16 => ?_) (fun cc16 => ?_)
      · skip
        refine qk_if (fun cc17 => ?_) (fun cc17 => ?_)
        · skip
          refine qk_some ?_
          exact ⟨rfl, (by first | with_reducible assumption | grind | grind (ematch := 40) (gen := 40) (liaSteps := 300000) | lia)⟩
        · skip
          refine qk_if (fun cc18 => ?_) (fun cc18 => ?_)
          · skip
            refine qk_some ?_
            exact ⟨rfl, (by first | with_reducible assumption | grind | grind (ematch := 40) (gen := 40) (liaSteps := 300000) | lia)⟩
          · skip
            refine qk_if (fun cc19 => ?_) (fun cc19 => ?_)
            · skip
              refine qk_some ?_
              exact ⟨rfl, (by first | with_reducible assumption | grind | grind (ematch := 40) (gen := 40) (liaSteps := 300000) | lia)⟩
            · skip
              refine qk_if (fun cc20 => ?_) (fun cc20 => ?_)
              · skip
                refine qk_some ?_
                exact ⟨rfl, (by first | with_reducible assumption | grind | grind (ematch := 40) (gen := 40) (liaSteps := 300000) | lia)⟩
              · skip
                refine qk_some ?_
                exact ⟨rfl, (by first | with_reducible assumption | grind | grind (ematch := 40) (gen := 40) (liaSteps := 300000) | lia)⟩
      · skip
        refine qk_some ?_
        exact ⟨rfl, (by first | with_reducible assumption | grind | grind (ematch := 40) (gen := 40) (liaSteps := 300000) | lia)⟩
theorem c_Pa_mayFollowBackslash {L : q_L} {W : Nat → Prop} {h0 : z_H} {π : Nat → Nat → Option Nat} {N : Nat} {cm : Nat} {h : z_H} {v0 : Nat} {v1 : Int32} {β : Type} {f : Int32 × z_H → Option β} {Q : β → Prop} (T : q_U L W h0 π h) (kv0 : qκ L v0 = 7) (kcm : qκ L cm = 2) (pcm : π v0 6 = some cm) (H : ∀ y, (y = 0 ∨ y = 1) → qk (f (y, h)) Q) : qk (z_b (f_Pa_mayFollowBackslash N v0 v1 h) f) Q := by
  refine qk_b (p_Pa_mayFollowBackslash T kv0 kcm pcm) ?_
  rintro ⟨y, hz⟩ ⟨hy, g0⟩
  try dsimp only at *
  subst hy
  exact H y g0

set_option maxHeartbeats 2000000 in
theorem p_Pa_passBlanks_2_n {L : q_L} {W : Nat → Prop} {h0 : z_H} {π : Nat → Nat → Option Nat} {N : Nat} {pg : Nat} {lo : Nat → Int32} (hqn : q_Q lo 241) : ∀ (n : Nat) (v0 : Nat) (v1 : Int32) (h : z_H), q_U L W h0 π h → qκ L v0 = 7 → (qκ L pg = 10) → (π v0 5 = some pg) → (π (v0 + 1) 0 = some (pg + 1)) → (∀ a, v0 ≤ a → a < v0 + 5 → W a) → (∀ a, pg ≤ a → a < pg + 249 → W a) → (0 ≤ v1) → (v1 ≤ 240) → (lo n ≤ v1) → qk (f_Pa_passBlanks_2 N  n v0 v1 h) (fun r => q_U L W h0 π r ∧ (∀ a k, ¬ ((a = v0 + 1 ∧ k = 1)) → vI r a k = vI h a k) ∧ (∀ a j, vA r a j = vA h a j) ∧ (vI h (v0 + 1) 1 ≤ vI r (v0 + 1) 1)) := by
  intro n
  induction n with
  | zero => intro v0 v1 h T kv0 kpg ppg ptx wP wG b0 b1 hms; have hz := hqn.1; exact absurd hms (by grind)
  | succ n ih =>
    intro v0 v1 h T kv0 kpg ppg ptx wP wG b0 b1 hms
    obtain ⟨hq1, hq2, hq3⟩ := hqn.2 n
    rw [f_Pa_passBlanks_2]
    obtain ⟨kcu, kpr, cpa1, cpa2, cpa3, cpa4, cpa5⟩ := q_CPa T kv0
    obtain ⟨ktx, ctx, kit, cpg1, cpg2, cpg3⟩ := q_CProg T kpg
    refine qk_if (fun cc1 => ?_) (fun cc1 => ?_)
    · skip
      refine qk_some ?_
      exact ⟨T, (by clear ih; first | with_reducible assumption | grind | grind (ematch := 40) (gen := 40) (liaSteps := 300000) | lia), (by clear ih; first | with_reducible assumption | grind | grind (ematch := 40) (gen := 40) (liaSteps := 300000) | lia), (by clear ih; first | with_reducible assumption | grind | grind (ematch := 40) (gen := 40) (liaSteps := 300000) | lia)⟩
    · skip
      refine r_Pa_0 T kv0 ?_
      intro kx2
      refine r_Cur_o T kx2 ?_
      refine c_Cur_look (v0 := (v0 + 1)) (v1 := 0) (tx := (pg + 1)) T kx2 ktx ptx (by clear ih; first | with_reducible assumption | grind | grind (ematch := 40) (gen := 40) (liaSteps := 300000) | lia) (by clear ih; first | with_reducible assumption | grind | grind (ematch := 40) (gen := 40) (liaSteps := 300000) | lia) (by clear ih; first | with_reducible assumption | grind | grind (ematch := 40) (gen := 40) (liaSteps := 300000) | lia) ?_
      intro yr4 gr4_0 gr4_1 gr4_2 gr4_3 gr4_4
      simp only [Int32.add_zero] at gr4_2 gr4_3 gr4_4
      dsimp only
      refine qk_if (fun cc2 => ?_) (fun cc2 => ?_)
      · skip
        refine r_Pa_0 T kv0 ?_
        intro kx6
        refine r_Cur_1 T kx6 ?_
        intro x7 ex7 lx7 ux7
        subst ex7
        refine w_Cur_1 T kx6 (by clear ih; first | with_reducible assumption | grind | grind (ematch := 40) (gen := 40) (liaSteps := 300000) | lia) (q_inc01 (T.2.2.2.1 _ 1) (q_CCur T kx6)) (by first | exact q_inc1 (by clear ih; first | with_reducible assumption | grind -lia | grind) (q_inc00 (T.2.2.2.1 _ 1) (q_CCur T kx6)) | exact q_inc1b (by clear ih; first | with_reducible assumption | grind -lia | grind) (q_inc00 (T.2.2.2.1 _ 1) (q_CCur T kx6))) ?_
        intro h8 Th8 ih8 ah8
        refine qk_bs ?_
        refine qk_mono (ih (v0) ((v1 + 1)) h8 Th8 kv0 kpg ppg ptx (by clear ih; first | with_reducible assumption | grind | grind (ematch := 40) (gen := 40) (liaSteps := 300000) | lia) (by clear ih; first | with_reducible assumption | grind | grind (ematch := 40) (gen := 40) (liaSteps := 300000) | lia) (by clear ih; first | with_reducible assumption | grind | grind (ematch := 40) (gen := 40) (liaSteps := 300000) | lia) (by clear ih; first | with_reducible assumption | grind | grind (ematch := 40) (gen := 40) (liaSteps := 300000) | lia) (by clear ih; first | with_reducible assumption | grind | grind (ematch := 40) (gen := 40) (liaSteps := 300000) | lia)) ?_
        rintro hz ⟨Tz, g0, g1, g2⟩
        try dsimp only at *
        exact ⟨Tz, (by clear ih; first | with_reducible assumption | grind | grind (ematch := 40) (gen := 40) (liaSteps := 300000) | lia), (by clear ih; first | with_reducible assumption | grind | grind (ematch := 40) (gen := 40) (liaSteps := 300000) | lia), (by clear ih; first | with_reducible assumption | grind | grind (ematch := 40) (gen := 40) (liaSteps := 300000) | lia)⟩
      · skip
        refine qk_some ?_
        exact ⟨T, (by clear ih; first | with_reducible assumption | grind | grind (ematch := 40) (gen := 40) (liaSteps := 300000) | lia), (by clear ih; first | with_reducible assumption | grind | grind (ematch := 40) (gen := 40) (liaSteps := 300000) | lia), (by clear ih; first | with_reducible assumption | grind | grind (ematch := 40) (gen := 40) (liaSteps := 300000) | lia)⟩
theorem p_Pa_passBlanks_2 {L : q_L} {W : Nat → Prop} {h0 : z_H} {π : Nat → Nat → Option Nat} {N : Nat} {pg : Nat} {h : z_H} {v0 : Nat} {v1 : Int32} (T : q_U L W h0 π h) (kv0 : qκ L v0 = 7) (kpg : qκ L pg = 10) (ppg : π v0 5 = some pg) (ptx : π (v0 + 1) 0 = some (pg + 1)) (wP : ∀ a, v0 ≤ a → a < v0 + 5 → W a) (wG : ∀ a, pg ≤ a → a < pg + 249 → W a) (b0 : 0 ≤ v1) (b1 : v1 ≤ 240) (hN : 100000 ≤ N) : qk (f_Pa_passBlanks_2 N  N v0 v1 h) (fun r => q_U L W h0 π r ∧ (∀ a k, ¬ ((a = v0 + 1 ∧ k = 1)) → vI r a k = vI h a k) ∧ (∀ a j, vA r a j = vA h a j) ∧ (vI h (v0 + 1) 1 ≤ vI r (v0 + 1) 1)) := by
  have hq := q_qnN hN
  refine p_Pa_passBlanks_2_n (q_lo (M := 241) (by decide) (by decide)) N v0 v1 h T kv0 kpg ppg ptx wP wG b0 b1 ?_ 
  show 241 - q_n N ≤ _
  rw [hq]
  lia

set_option maxHeartbeats 2000000 in
theorem p_Pa_passBlanks {L : q_L} {W : Nat → Prop} {h0 : z_H} {π : Nat → Nat → Option Nat} {N : Nat} {pg : Nat} {h : z_H} {v0 : Nat} (T : q_U L W h0 π h) (kv0 : qκ L v0 = 7) (kpg : qκ L pg = 10) (ppg : π v0 5 = some pg) (ptx : π (v0 + 1) 0 = some (pg + 1)) (wP : ∀ a, v0 ≤ a → a < v0 + 5 → W a) (wG : ∀ a, pg ≤ a → a < pg + 249 → W a) (hN : 100000 ≤ N) : qk (f_Pa_passBlanks N v0 h) (fun r => q_U L W h0 π r ∧ (∀ a k, ¬ ((a = v0 + 1 ∧ k = 1)) → vI r a k = vI h a k) ∧ (∀ a j, vA r a j = vA h a j) ∧ (vI h (v0 + 1) 1 ≤ vI r (v0 + 1) 1)) := by
  unfold f_Pa_passBlanks
  refine qk_mono (p_Pa_passBlanks_2 (v0 := v0) (v1 := 0) (pg := pg) T kv0 kpg ppg ptx (by first | with_reducible assumption | grind | grind (ematch := 40) (gen := 40) (liaSteps := 300000) | lia) (by first | with_reducible assumption | grind | grind (ematch := 40) (gen := 40) (liaSteps := 300000) | lia) (by first | with_reducible assumption | grind | grind (ematch := 40) (gen := 40) (liaSteps := 300000) | lia) (by first | with_reducible assumption | grind | grind (ematch := 40) (gen := 40) (liaSteps := 300000) | lia) (by first | with_reducible assumption | grind | grind (ematch := 40) (gen := 40) (liaSteps := 300000) | lia)) ?_
  rintro hz ⟨Tz, g0, g1, g2⟩
  try dsimp only at *
  exact ⟨Tz, (by first | with_reducible assumption | grind | grind (ematch := 40) (gen := 40) (liaSteps := 300000) | lia), (by first | with_reducible assumption | grind | grind (ematch := 40) (gen := 40) (liaSteps := 300000) | lia), (by first | with_reducible assumption | grind | grind (ematch := 40) (gen := 40) (liaSteps := 300000) | lia)⟩
theorem c_Pa_passBlanks {L : q_L} {W : Nat → Prop} {h0 : z_H} {π : Nat → Nat → Option Nat} {N : Nat} {pg : Nat} {h : z_H} {v0 : Nat} {β : Type} {f : z_H → Option β} {Q : β → Prop} (T : q_U L W h0 π h) (kv0 : qκ L v0 = 7) (kpg : qκ L pg = 10) (ppg : π v0 5 = some pg) (ptx : π (v0 + 1) 0 = some (pg + 1)) (wP : ∀ a, v0 ≤ a → a < v0 + 5 → W a) (wG : ∀ a, pg ≤ a → a < pg + 249 → W a) (hN : 100000 ≤ N) (H : ∀ h', q_U L W h0 π h' → (∀ a k, ¬ ((a = v0 + 1 ∧ k = 1)) → vI h' a k = vI h a k) → (∀ a j, vA h' a j = vA h a j) → (vI h (v0 + 1) 1 ≤ vI h' (v0 + 1) 1) → qk (f h') Q) : qk (z_b (f_Pa_passBlanks N v0 h) f) Q := by
  refine qk_b (p_Pa_passBlanks T kv0 kpg ppg ptx wP wG hN) ?_
  rintro hz ⟨Tz, g0, g1, g2⟩
  exact H hz Tz g0 g1 g2

set_option maxHeartbeats 2000000 in
theorem p_Pa_endCommand {L : q_L} {W : Nat → Prop} {h0 : z_H} {π : Nat → Nat → Option Nat} {N : Nat} {pg : Nat} {h : z_H} {v0 : Nat} (T : q_U L W h0 π h) (kv0 : qκ L v0 = 7) (kpg : qκ L pg = 10) (ppg : π v0 5 = some pg) (ptx : π (v0 + 1) 0 = some (pg + 1)) (wP : ∀ a, v0 ≤ a → a < v0 + 5 → W a) (wG : ∀ a, pg ≤ a → a < pg + 249 → W a) : qk (f_Pa_endCommand N v0 h) (fun r => q_U L W h0 π r.2 ∧ (r.1 = 0 ∨ r.1 = 1) ∧ (∀ a k, ¬ ((a = v0 + 1 ∧ k = 2)) → vI r.2 a k = vI h a k) ∧ (∀ a j, vA r.2 a j = vA h a j)) := by
  obtain ⟨kcu, kpr, cpa1, cpa2, cpa3, cpa4, cpa5⟩ := q_CPa T kv0
  obtain ⟨ktx, ctx, kit, cpg1, cpg2, cpg3⟩ := q_CProg T kpg
  unfold f_Pa_endCommand
  refine r_Pa_0 T kv0 ?_
  intro kx1
  refine r_Cur_o T kx1 ?_
  refine c_Cur_look (v0 := (v0 + 1)) (v1 := 0) (tx := (pg + 1)) T kx1 ktx ptx (by first | with_reducible assumption | grind | grind (ematch := 40) (gen := 40) (liaSteps := 300000) | lia) (by first | with_reducible assumption | grind | grind (ematch := 40) (gen := 40) (liaSteps := 300000) | lia) (by first | with_reducible assumption | grind | grind (ematch := 40) (gen := 40) (liaSteps := 300000) | lia) ?_
  intro yr3 gr3_0 gr3_1 gr3_2 gr3_3 gr3_4
  simp only [Int32.add_zero] at gr3_2 gr3_3 gr3_4
  dsimp only
  refine qk_bs ?_
  refine qk_if (fun cc1 => ?_) (fun cc1 => ?_)
  · skip
    refine qk_some ?_
    exact ⟨T, (by first | with_reducible assumption | grind | grind (ematch := 40) (gen := 40) (liaSteps := 300000) | lia), (by first | with_reducible assumption | grind | grind (ematch := 40) (gen := 40) (liaSteps := 300000) | lia), (by first | with_reducible assumption | grind | grind (ematch := 40) (gen := 40) (liaSteps := 300000) | lia)⟩
  · skip
    refine qk_if (fun cc2 => ?_) (fun cc2 => ?_)
    · skip
      refine qk_some ?_
      exact ⟨T, (by first | with_reducible assumption | grind | grind (ematch := 40) (gen := 40) (liaSteps := 300000) | lia), (by first | with_reducible assumption | grind | grind (ematch := 40) (gen := 40) (liaSteps := 300000) | lia), (by first | with_reducible assumption | grind | grind (ematch := 40) (gen := 40) (liaSteps := 300000) | lia)⟩
    · skip
      refine qk_if (fun cc3 => ?_) (fun cc3 => ?_)
      · skip
        refine qk_some ?_
        exact ⟨T, (by first | with_reducible assumption | grind | grind (ematch := 40) (gen := 40) (liaSteps := 300000) | lia), (by first | with_reducible assumption | grind | grind (ematch := 40) (gen := 40) (liaSteps := 300000) | lia), (by first | with_reducible assumption | grind | grind (ematch := 40) (gen := 40) (liaSteps := 300000) | lia)⟩
      · skip
        refine qk_if (fun cc4 => ?_) (fun cc4 => ?_)
        · skip
          refine qk_some ?_
          exact ⟨T, (by first | with_reducible assumption | grind | grind (ematch := 40) (gen := 40) (liaSteps := 300000) | lia), (by first | with_reducible assumption | grind | grind (ematch := 40) (gen := 40) (liaSteps := 300000) | lia), (by first | with_reducible assumption | grind | grind (ematch := 40) (gen := 40) (liaSteps := 300000) | lia)⟩
        · skip
          refine qk_if (fun cc5 => ?_) (fun cc5 => ?_)
          · skip
            refine qk_some ?_
            exact ⟨T, (by first | with_reducible assumption | grind | grind (ematch := 40) (gen := 40) (liaSteps := 300000) | lia), (by first | with_reducible assumption | grind | grind (ematch := 40) (gen := 40) (liaSteps := 300000) | lia), (by first | with_reducible assumption | grind | grind (ematch := 40) (gen := 40) (liaSteps := 300000) | lia)⟩
          · skip
            refine r_Pa_0 T kv0 ?_
            intro kx10
            refine r_Cur_o T kx10 ?_
            refine c_Cur_refuse (v0 := (v0 + 1)) (v1 := 0) T kx10 (by first | with_reducible assumption | grind | grind (ematch := 40) (gen := 40) (liaSteps := 300000) | lia) ?_
            intro yr12 hr12 Tr12 gr12_0 gr12_1 gr12_2
            dsimp only
            refine qk_zB (by first | with_reducible assumption | grind | grind (ematch := 40) (gen := 40) (liaSteps := 300000) | lia) ?_
            refine qk_some ?_
            exact ⟨Tr12, (by first | with_reducible assumption | grind | grind (ematch := 40) (gen := 40) (liaSteps := 300000) | lia), (by first | with_reducible assumption | grind | grind (ematch := 40) (gen := 40) (liaSteps := 300000) | lia), (by first | with_reducible assumption | grind | grind (ematch := 40) (gen := 40) (liaSteps := 300000) | lia)⟩
theorem c_Pa_endCommand {L : q_L} {W : Nat → Prop} {h0 : z_H} {π : Nat → Nat → Option Nat} {N : Nat} {pg : Nat} {h : z_H} {v0 : Nat} {β : Type} {f : Int32 × z_H → Option β} {Q : β → Prop} (T : q_U L W h0 π h) (kv0 : qκ L v0 = 7) (kpg : qκ L pg = 10) (ppg : π v0 5 = some pg) (ptx : π (v0 + 1) 0 = some (pg + 1)) (wP : ∀ a, v0 ≤ a → a < v0 + 5 → W a) (wG : ∀ a, pg ≤ a → a < pg + 249 → W a) (H : ∀ y h', q_U L W h0 π h' → (y = 0 ∨ y = 1) → (∀ a k, ¬ ((a = v0 + 1 ∧ k = 2)) → vI h' a k = vI h a k) → (∀ a j, vA h' a j = vA h a j) → qk (f (y, h')) Q) : qk (z_b (f_Pa_endCommand N v0 h) f) Q := by
  refine qk_b (p_Pa_endCommand T kv0 kpg ppg ptx wP wG) ?_
  rintro ⟨y, hz⟩ ⟨Tz, g0, g1, g2⟩
  exact H y hz Tz g0 g1 g2

set_option maxHeartbeats 2000000 in
theorem p_Pa_openBlock {L : q_L} {W : Nat → Prop} {h0 : z_H} {π : Nat → Nat → Option Nat} {N : Nat} {pg : Nat} {h : z_H} {v0 : Nat} (T : q_U L W h0 π h) (kv0 : qκ L v0 = 7) (kpg : qκ L pg = 10) (ppg : π v0 5 = some pg) (ptx : π (v0 + 1) 0 = some (pg + 1)) (wP : ∀ a, v0 ≤ a → a < v0 + 5 → W a) (wG : ∀ a, pg ≤ a → a < pg + 249 → W a) (hat : vI h (v0 + 1) 1 < 240) (s1 : 1 ≤ vI h pg 3) : qk (f_Pa_openBlock N v0 h) (fun r => q_U L W h0 π r.2 ∧ (r.1 = 0 ∨ r.1 = 1) ∧ (∀ a k, ¬ ((a = v0 + 1 ∧ (k = 1 ∨ k = 2)) ∨ (a = v0 ∧ k = 4)) → vI r.2 a k = vI h a k) ∧ (∀ a j, 0 ≤ j → ¬ (a = v0 + 3 ∧ vI h v0 4 ≤ j) → vA r.2 a j = vA h a j) ∧ (r.1 = 1 → vI r.2 v0 4 = vI h v0 4 + 1 ∧ vI h v0 4 < 4 ∧ vA r.2 (v0 + 3) (vI h v0 4) = vI h pg 3 - 1) ∧ (r.1 = 1 → vI h (v0 + 1) 1 ≤ vI r.2 (v0 + 1) 1)) := by
  obtain ⟨kcu, kpr, cpa1, cpa2, cpa3, cpa4, cpa5⟩ := q_CPa T kv0
  obtain ⟨ktx, ctx, kit, cpg1, cpg2, cpg3⟩ := q_CProg T kpg
  unfold f_Pa_openBlock
  refine r_Pa_4 T kv0 ?_
  intro x1 ex1 lx1 ux1
  subst ex1
  refine qk_if (fun cc1 => ?_) (fun cc1 => ?_)
  · skip
    refine r_Pa_0 T kv0 ?_
    intro kx13
    refine r_Cur_o T kx13 ?_
    refine c_Cur_refuse (v0 := (v0 + 1)) (v1 := 0) T kx13 (by first | with_reducible assumption | grind | grind (ematch := 40) (gen := 40) (liaSteps := 300000) | lia) ?_
    intro yr15 hr15 Tr15 gr15_0 gr15_1 gr15_2
    dsimp only
    refine qk_zB (by first | with_reducible assumption | grind | grind (ematch := 40) (gen := 40) (liaSteps := 300000) | lia) ?_
    refine qk_some ?_
    exact ⟨Tr15, (by first | with_reducible assumption | grind | grind (ematch := 40) (gen := 40) (liaSteps := 300000) | lia), (by first | with_reducible assumption | grind | grind (ematch := 40) (gen := 40) (liaSteps := 300000) | lia), (by first | with_reducible assumption | grind | grind (ematch := 40) (gen := 40) (liaSteps := 300000) | lia), (by first | with_reducible assumption | grind | grind (ematch := 40) (gen := 40) (liaSteps := 300000) | lia), (by first | with_reducible assumption | grind | grind (ematch := 40) (gen := 40) (liaSteps := 300000) | lia)⟩
  · skip
    refine r_Pa_2 T kv0 ?_
    refine r_Pa_4 T kv0 ?_
    intro x4 ex4 lx4 ux4
    subst ex4
    refine r_Pa_5 T kv0 ppg ?_
    refine r_Prog_3 T kpg ?_
    intro x6 ex6 lx6 ux6
    subst ex6
    refine w_Pa_e3 T kv0 (by first | with_reducible assumption | grind | grind (ematch := 40) (gen := 40) (liaSteps := 300000) | lia) (by first | with_reducible assumption | grind | grind (ematch := 40) (gen := 40) (liaSteps := 300000) | lia) (by first | with_reducible assumption | grind | grind (ematch := 40) (gen := 40) (liaSteps := 300000) | lia) (by first | with_reducible assumption | grind | grind (ematch := 40) (gen := 40) (liaSteps := 300000) | lia) (by first | with_reducible assumption | grind | grind (ematch := 40) (gen := 40) (liaSteps := 300000) | lia) ?_
    intro h7 Th7 ih7 ah7
    refine r_Pa_4 Th7 kv0 ?_
    intro x8 ex8 lx8 ux8
    subst ex8
    refine w_Pa_4 Th7 kv0 (by first | with_reducible assumption | grind | grind (ematch := 40) (gen := 40) (liaSteps := 300000) | lia) (by first | with_reducible assumption | grind | grind (ematch := 40) (gen := 40) (liaSteps := 300000) | lia) (by first | with_reducible assumption | grind | grind (ematch := 40) (gen := 40) (liaSteps := 300000) | lia) ?_
    intro h9 Th9 ih9 ah9
    refine r_Pa_0 Th9 kv0 ?_
    intro kx10
    refine r_Cur_1 Th9 kx10 ?_
    intro x11 ex11 lx11 ux11
    subst ex11
    refine w_Cur_1 Th9 kx10 (by first | with_reducible assumption | grind | grind (ematch := 40) (gen := 40) (liaSteps := 300000) | lia) (q_inc01 (Th9.2.2.2.1 _ 1) (q_CCur Th9 kx10)) (by first | exact q_inc1 (by first | with_reducible assumption | grind -lia | grind) (q_inc00 (Th9.2.2.2.1 _ 1) (q_CCur Th9 kx10)) | exact q_inc1b (by first | with_reducible assumption | grind -lia | grind) (q_inc00 (Th9.2.2.2.1 _ 1) (q_CCur Th9 kx10))) ?_
    intro h12 Th12 ih12 ah12
    refine qk_some ?_
    exact ⟨Th12, (by first | with_reducible assumption | grind | grind (ematch := 40) (gen := 40) (liaSteps := 300000) | lia), (by first | with_reducible assumption | grind | grind (ematch := 40) (gen := 40) (liaSteps := 300000) | lia), (by first | with_reducible assumption | grind | grind (ematch := 40) (gen := 40) (liaSteps := 300000) | lia), (by first | with_reducible assumption | grind | grind (ematch := 40) (gen := 40) (liaSteps := 300000) | lia), (by first | with_reducible assumption | grind | grind (ematch := 40) (gen := 40) (liaSteps := 300000) | lia)⟩
theorem c_Pa_openBlock {L : q_L} {W : Nat → Prop} {h0 : z_H} {π : Nat → Nat → Option Nat} {N : Nat} {pg : Nat} {h : z_H} {v0 : Nat} {β : Type} {f : Int32 × z_H → Option β} {Q : β → Prop} (T : q_U L W h0 π h) (kv0 : qκ L v0 = 7) (kpg : qκ L pg = 10) (ppg : π v0 5 = some pg) (ptx : π (v0 + 1) 0 = some (pg + 1)) (wP : ∀ a, v0 ≤ a → a < v0 + 5 → W a) (wG : ∀ a, pg ≤ a → a < pg + 249 → W a) (hat : vI h (v0 + 1) 1 < 240) (s1 : 1 ≤ vI h pg 3) (H : ∀ y h', q_U L W h0 π h' → (y = 0 ∨ y = 1) → (∀ a k, ¬ ((a = v0 + 1 ∧ (k = 1 ∨ k = 2)) ∨ (a = v0 ∧ k = 4)) → vI h' a k = vI h a k) → (∀ a j, 0 ≤ j → ¬ (a = v0 + 3 ∧ vI h v0 4 ≤ j) → vA h' a j = vA h a j) → (y = 1 → vI h' v0 4 = vI h v0 4 + 1 ∧ vI h v0 4 < 4 ∧ vA h' (v0 + 3) (vI h v0 4) = vI h pg 3 - 1) → (y = 1 → vI h (v0 + 1) 1 ≤ vI h' (v0 + 1) 1) → qk (f (y, h')) Q) : qk (z_b (f_Pa_openBlock N v0 h) f) Q := by
  refine qk_b (p_Pa_openBlock T kv0 kpg ppg ptx wP wG hat s1) ?_
  rintro ⟨y, hz⟩ ⟨Tz, g0, g1, g2, g3, g4⟩
  exact H y hz Tz g0 g1 g2 g3 g4

set_option maxHeartbeats 2000000 in
theorem p_Pa_closeBlock {L : q_L} {W : Nat → Prop} {h0 : z_H} {π : Nat → Nat → Option Nat} {N : Nat} {pg : Nat} {h : z_H} {v0 : Nat} (T : q_U L W h0 π h) (kv0 : qκ L v0 = 7) (kpg : qκ L pg = 10) (ppg : π v0 5 = some pg) (ptx : π (v0 + 1) 0 = some (pg + 1)) (wP : ∀ a, v0 ≤ a → a < v0 + 5 → W a) (wG : ∀ a, pg ≤ a → a < pg + 249 → W a) (hat : vI h (v0 + 1) 1 < 240) : qk (f_Pa_closeBlock N v0 h) (fun r => q_U L W h0 π r.2 ∧ (r.1 = 0 ∨ r.1 = 1) ∧ (∀ a k, ¬ ((a = v0 + 1 ∧ (k = 1 ∨ k = 2)) ∨ (a = v0 ∧ k = 4) ∨ (pg + 9 ≤ a ∧ a < pg + 249 ∧ k = 7)) → vI r.2 a k = vI h a k) ∧ (∀ a j, vA r.2 a j = vA h a j) ∧ (r.1 = 1 → 1 ≤ vI h v0 4 ∧ vI r.2 v0 4 = vI h v0 4 - 1) ∧ (r.1 = 1 → ∀ a, pg + 9 ≤ a → a < pg + 249 → vI r.2 a 7 = vI h a 7 ∨ 0 ≤ vI r.2 a 7) ∧ (r.1 = 1 → 0 ≤ vI r.2 (pg + (9 + 6 * (vA h (v0 + 3) (vI h v0 4 - 1)).toNatClampNeg)) 7) ∧ (r.1 = 1 → vI h (v0 + 1) 1 ≤ vI r.2 (v0 + 1) 1)) := by
  obtain ⟨kcu, kpr, cpa1, cpa2, cpa3, cpa4, cpa5⟩ := q_CPa T kv0
  obtain ⟨ktx, ctx, kit, cpg1, cpg2, cpg3⟩ := q_CProg T kpg
  unfold f_Pa_closeBlock
  refine r_Pa_4 T kv0 ?_
  intro x1 ex1 lx1 ux1
  subst ex1
  refine qk_if (fun cc1 => ?_) (fun cc1 => ?_)
  · skip
    refine r_Pa_0 T kv0 ?_
    intro kx17
    refine r_Cur_o T kx17 ?_
    refine c_Cur_refuse (v0 := (v0 + 1)) (v1 := 0) T kx17 (by first | with_reducible assumption | grind | grind (ematch := 40) (gen := 40) (liaSteps := 300000) | lia) ?_
    intro yr19 hr19 Tr19 gr19_0 gr19_1 gr19_2
    dsimp only
    refine qk_zB (by first | with_reducible assumption | grind | grind (ematch := 40) (gen := 40) (liaSteps := 300000) | lia) ?_
    refine qk_some ?_
    exact ⟨Tr19, (by first | with_reducible assumption | grind | grind (ematch := 40) (gen := 40) (liaSteps := 300000) | lia), (by first | with_reducible assumption | grind | grind (ematch := 40) (gen := 40) (liaSteps := 300000) | lia), (by first | with_reducible assumption | grind | grind (ematch := 40) (gen := 40) (liaSteps := 300000) | lia), (by first | with_reducible assumption | grind | grind (ematch := 40) (gen := 40) (liaSteps := 300000) | lia), (by first | with_reducible assumption | grind | grind (ematch := 40) (gen := 40) (liaSteps := 300000) | lia), (by first | with_reducible assumption | grind | grind (ematch := 40) (gen := 40) (liaSteps := 300000) | lia), (by first | with_reducible assumption | grind | grind (ematch := 40) (gen := 40) (liaSteps := 300000) | lia)⟩
  · skip
    refine r_Pa_4 T kv0 ?_
    intro x3 ex3 lx3 ux3
    subst ex3
    refine w_Pa_4 T kv0 (by first | with_reducible assumption | grind | grind (ematch := 40) (gen := 40) (liaSteps := 300000) | lia) (by first | with_reducible assumption | grind | grind (ematch := 40) (gen := 40) (liaSteps := 300000) | lia) (by first | with_reducible assumption | grind | grind (ematch := 40) (gen := 40) (liaSteps := 300000) | lia) ?_
    intro h4 Th4 ih4 ah4
    refine r_Pa_5 Th4 kv0 ppg ?_
    refine r_Prog_2 Th4 kpg ?_
    refine r_Pa_2 Th4 kv0 ?_
    refine r_Pa_4 Th4 kv0 ?_
    intro x8 ex8 lx8 ux8
    subst ex8
    refine r_Pa_e3 Th4 kv0 (by first | with_reducible assumption | grind | grind (ematch := 40) (gen := 40) (liaSteps := 300000) | lia) (by first | with_reducible assumption | grind | grind (ematch := 40) (gen := 40) (liaSteps := 300000) | lia) ?_
    intro x9 ex9 lx9 ux9
    subst ex9
    refine r_Prog_e8 Th4 kpg (by first | with_reducible assumption | grind | grind (ematch := 40) (gen := 40) (liaSteps := 300000) | lia) (by first | with_reducible assumption | grind | grind (ematch := 40) (gen := 40) (liaSteps := 300000) | lia) ?_
    intro kx10 bx10
    refine r_Pa_5 Th4 kv0 ppg ?_
    refine r_Prog_3 Th4 kpg ?_
    intro x12 ex12 lx12 ux12
    subst ex12
    refine w_Cmd_7 Th4 kx10 (by first | with_reducible assumption | grind | grind (ematch := 40) (gen := 40) (liaSteps := 300000) | lia) (by first | with_reducible assumption | grind | grind (ematch := 40) (gen := 40) (liaSteps := 300000) | lia) (by first | with_reducible assumption | grind | grind (ematch := 40) (gen := 40) (liaSteps := 300000) | lia) ?_
    intro h13 Th13 ih13 ah13
    refine r_Pa_0 Th13 kv0 ?_
    intro kx14
    refine r_Cur_1 Th13 kx14 ?_
    intro x15 ex15 lx15 ux15
    subst ex15
    refine w_Cur_1 Th13 kx14 (by first | with_reducible assumption | grind | grind (ematch := 40) (gen := 40) (liaSteps := 300000) | lia) (q_inc01 (Th13.2.2.2.1 _ 1) (q_CCur Th13 kx14)) (by first | exact q_inc1 (by first | with_reducible assumption | grind -lia | grind) (q_inc00 (Th13.2.2.2.1 _ 1) (q_CCur Th13 kx14)) | exact q_inc1b (by first | with_reducible assumption | grind -lia | grind) (q_inc00 (Th13.2.2.2.1 _ 1) (q_CCur Th13 kx14))) ?_
    intro h16 Th16 ih16 ah16
    refine qk_some ?_
    exact ⟨Th16, (by first | with_reducible assumption | grind | grind (ematch := 40) (gen := 40) (liaSteps := 300000) | lia), (by first | with_reducible assumption | grind | grind (ematch := 40) (gen := 40) (liaSteps := 300000) | lia), (by first | with_reducible assumption | grind | grind (ematch := 40) (gen := 40) (liaSteps := 300000) | lia), (by first | with_reducible assumption | grind | grind (ematch := 40) (gen := 40) (liaSteps := 300000) | lia), (by first | with_reducible assumption | grind | grind (ematch := 40) (gen := 40) (liaSteps := 300000) | lia), (by first | with_reducible assumption | grind | grind (ematch := 40) (gen := 40) (liaSteps := 300000) | lia), (by first | with_reducible assumption | grind | grind (ematch := 40) (gen := 40) (liaSteps := 300000) | lia)⟩
theorem c_Pa_closeBlock {L : q_L} {W : Nat → Prop} {h0 : z_H} {π : Nat → Nat → Option Nat} {N : Nat} {pg : Nat} {h : z_H} {v0 : Nat} {β : Type} {f : Int32 × z_H → Option β} {Q : β → Prop} (T : q_U L W h0 π h) (kv0 : qκ L v0 = 7) (kpg : qκ L pg = 10) (ppg : π v0 5 = some pg) (ptx : π (v0 + 1) 0 = some (pg + 1)) (wP : ∀ a, v0 ≤ a → a < v0 + 5 → W a) (wG : ∀ a, pg ≤ a → a < pg + 249 → W a) (hat : vI h (v0 + 1) 1 < 240) (H : ∀ y h', q_U L W h0 π h' → (y = 0 ∨ y = 1) → (∀ a k, ¬ ((a = v0 + 1 ∧ (k = 1 ∨ k = 2)) ∨ (a = v0 ∧ k = 4) ∨ (pg + 9 ≤ a ∧ a < pg + 249 ∧ k = 7)) → vI h' a k = vI h a k) → (∀ a j, vA h' a j = vA h a j) → (y = 1 → 1 ≤ vI h v0 4 ∧ vI h' v0 4 = vI h v0 4 - 1) → (y = 1 → ∀ a, pg + 9 ≤ a → a < pg + 249 → vI h' a 7 = vI h a 7 ∨ 0 ≤ vI h' a 7) → (y = 1 → 0 ≤ vI h' (pg + (9 + 6 * (vA h (v0 + 3) (vI h v0 4 - 1)).toNatClampNeg)) 7) → (y = 1 → vI h (v0 + 1) 1 ≤ vI h' (v0 + 1) 1) → qk (f (y, h')) Q) : qk (z_b (f_Pa_closeBlock N v0 h) f) Q := by
  refine qk_b (p_Pa_closeBlock T kv0 kpg ppg ptx wP wG hat) ?_
  rintro ⟨y, hz⟩ ⟨Tz, g0, g1, g2, g3, g4, g5, g6⟩
  exact H y hz Tz g0 g1 g2 g3 g4 g5 g6

set_option maxHeartbeats 2000000 in
theorem p_Pa_placeLabel {L : q_L} {W : Nat → Prop} {h0 : z_H} {π : Nat → Nat → Option Nat} {N : Nat} {pg : Nat} {cm : Nat} {h : z_H} {v0 : Nat} (T : q_U L W h0 π h) (kv0 : qκ L v0 = 7) (kpg : qκ L pg = 10) (ppg : π v0 5 = some pg) (kcm : qκ L cm = 2) (pcm : π v0 6 = some cm) (ptx : π (v0 + 1) 0 = some (pg + 1)) (wP : ∀ a, v0 ≤ a → a < v0 + 5 → W a) (wG : ∀ a, pg ≤ a → a < pg + 249 → W a) (hc1 : pg + 9 ≤ cm) (hc2 : cm + 6 ≤ pg + 249) (hat : vI h (v0 + 1) 1 < 240) : qk (f_Pa_placeLabel N v0 h) (fun r => q_U L W h0 π r.2 ∧ (r.1 = 0 ∨ r.1 = 1) ∧ (∀ a k, ¬ ((a = v0 + 1 ∧ (k = 1 ∨ k = 2))) → vI r.2 a k = vI h a k) ∧ (∀ a j, 0 ≤ j → a ≠ v0 + 4 → vA r.2 a j = vA h a j) ∧ (r.1 = 1 → vI h (v0 + 1) 1 ≤ vI r.2 (v0 + 1) 1)) := by
  obtain ⟨kcu, kpr, cpa1, cpa2, cpa3, cpa4, cpa5⟩ := q_CPa T kv0
  obtain ⟨ktx, ctx, kit, cpg1, cpg2, cpg3⟩ := q_CProg T kpg
  obtain ⟨kc1, kc3, kc5, cc9⟩ := q_CCmd T kcm
  unfold f_Pa_placeLabel
  refine r_Pa_6 T kv0 pcm ?_
  refine r_Cmd_5 T kcm ?_
  intro x2 ex2 lx2 ux2
  subst ex2
  refine qk_if (fun cc1 => ?_) (fun cc1 => ?_)
  · skip
    unfold f_Pa_placeLabel_20
    refine r_Pa_0 T kv0 ?_
    intro kx1i2
    refine r_Cur_o T kx1i2 ?_
    refine c_Cur_refuse (v0 := (v0 + 1)) (v1 := 0) T kx1i2 (by first | with_reducible assumption | grind | grind (ematch := 40) (gen := 40) (liaSteps := 300000) | lia) ?_
    intro yr3i2 hr3i2 Tr3i2 gr3i2_0 gr3i2_1 gr3i2_2
    dsimp only
    refine qk_zB (by first | with_reducible assumption | grind | grind (ematch := 40) (gen := 40) (liaSteps := 300000) | lia) ?_
    refine qk_some ?_
    exact ⟨Tr3i2, (by first | with_reducible assumption | grind | grind (ematch := 40) (gen := 40) (liaSteps := 300000) | lia), (by first | with_reducible assumption | grind | grind (ematch := 40) (gen := 40) (liaSteps := 300000) | lia), (by first | with_reducible assumption | grind | grind (ematch := 40) (gen := 40) (liaSteps := 300000) | lia), (by first | with_reducible assumption | grind | grind (ematch := 40) (gen := 40) (liaSteps := 300000) | lia)⟩
  · skip
    refine r_Pa_6 T kv0 pcm ?_
    refine r_Cmd_6 T kcm ?_
    intro x5 ex5
    subst ex5
    refine qk_if (fun cc3 => ?_) (fun cc3 => ?_)
    · skip
      refine r_Pa_0 T kv0 ?_
      intro kx7
      refine r_Cur_1 T kx7 ?_
      intro x8 ex8 lx8 ux8
      subst ex8
      refine w_Cur_1 T kx7 (by first | with_reducible assumption | grind | grind (ematch := 40) (gen := 40) (liaSteps := 300000) | lia) (q_inc01 (T.2.2.2.1 _ 1) (q_CCur T kx7)) (by first | exact q_inc1 (by first | with_reducible assumption | grind -lia | grind) (q_inc00 (T.2.2.2.1 _ 1) (q_CCur T kx7)) | exact q_inc1b (by first | with_reducible assumption | grind -lia | grind) (q_inc00 (T.2.2.2.1 _ 1) (q_CCur T kx7))) ?_
      intro h9 Th9 ih9 ah9
      refine r_Pa_0 Th9 kv0 ?_
      intro kx10
      refine r_Cur_o Th9 kx10 ?_
      refine c_Cur_look (v0 := (v0 + 1)) (v1 := 0) (tx := (pg + 1)) Th9 kx10 ktx ptx (by first | with_reducible assumption | grind | grind (ematch := 40) (gen := 40) (liaSteps := 300000) | lia) (by first | with_reducible assumption | grind | grind (ematch := 40) (gen := 40) (liaSteps := 300000) | lia) (by first | with_reducible assumption | grind | grind (ematch := 40) (gen := 40) (liaSteps := 300000) | lia) ?_
      intro yr12 gr12_0 gr12_1 gr12_2 gr12_3 gr12_4
      simp only [Int32.add_zero] at gr12_2 gr12_3 gr12_4
      dsimp only
      refine qk_bs ?_
      refine c_Pa_isLetter (v0 := (yr12)) Th9 ?_
      intro yr14 gr14_0 gr14_1
      dsimp only
      refine qk_if (fun cc4 => ?_) (fun cc4 => ?_)
      · skip
        unfold f_Pa_placeLabel_71
        refine r_Pa_0 Th9 kv0 ?_
        intro kx1i5
        refine r_Cur_o Th9 kx1i5 ?_
        refine c_Cur_refuse (v0 := (v0 + 1)) (v1 := 0) Th9 kx1i5 (by first | with_reducible assumption | grind | grind (ematch := 40) (gen := 40) (liaSteps := 300000) | lia) ?_
        intro yr3i5 hr3i5 Tr3i5 gr3i5_0 gr3i5_1 gr3i5_2
        dsimp only
        refine qk_zB (by first | with_reducible assumption | grind | grind (ematch := 40) (gen := 40) (liaSteps := 300000) | lia) ?_
        refine qk_some ?_
        exact ⟨Tr3i5, (by first | with_reducible assumption | grind | grind (ematch := 40) (gen := 40) (liaSteps := 300000) | lia), (by first | with_reducible assumption | grind | grind (ematch := 40) (gen := 40) (liaSteps := 300000) | lia), (by first | with_reducible assumption | grind | grind (ematch := 40) (gen := 40) (liaSteps := 300000) | lia), (by first | with_reducible assumption | grind | grind (ematch := 40) (gen := 40) (liaSteps := 300000) | lia)⟩
      · skip
        refine r_Pa_3 Th9 kv0 ?_
        refine r_Pa_e4 Th9 kv0 (by first | with_reducible assumption | grind | grind (ematch := 40) (gen := 40) (liaSteps := 300000) | lia) (by first | with_reducible assumption | grind | grind (ematch := 40) (gen := 40) (liaSteps := 300000) | lia) ?_
        intro x17 ex17 lx17 ux17
        subst ex17
        refine qk_if (fun cc6 => ?_) (fun cc6 => ?_)
        · skip
          refine r_Pa_3 Th9 kv0 ?_
          refine r_Pa_5 Th9 kv0 ppg ?_
          refine r_Prog_3 Th9 kpg ?_
          intro x21 ex21 lx21 ux21
          subst ex21
          refine w_Pa_e4 Th9 kv0 (by first | with_reducible assumption | grind | grind (ematch := 40) (gen := 40) (liaSteps := 300000) | lia) (by first | with_reducible assumption | grind | grind (ematch := 40) (gen := 40) (liaSteps := 300000) | lia) (by first | with_reducible assumption | grind | grind (ematch := 40) (gen := 40) (liaSteps := 300000) | lia) (by first | with_reducible assumption | grind | grind (ematch := 40) (gen := 40) (liaSteps := 300000) | lia) (by first | with_reducible assumption | grind | grind (ematch := 40) (gen := 40) (liaSteps := 300000) | lia) ?_
          intro h22 Th22 ih22 ah22
          refine r_Pa_0 Th22 kv0 ?_
          intro kx23
          refine r_Cur_1 Th22 kx23 ?_
          intro x24 ex24 lx24 ux24
          subst ex24
          refine w_Cur_1 Th22 kx23 (by first | with_reducible assumption | grind | grind (ematch := 40) (gen := 40) (liaSteps := 300000) | lia) (q_inc01 (Th22.2.2.2.1 _ 1) (q_CCur Th22 kx23)) (by first | exact q_inc1 (by first | with_reducible assumption | grind -lia | grind) (q_inc00 (Th22.2.2.2.1 _ 1) (q_CCur Th22 kx23)) | exact q_inc1b (by first | with_reducible assumption | grind -lia | grind) (q_inc00 (Th22.2.2.2.1 _ 1) (q_CCur Th22 kx23))) ?_
          intro h25 Th25 ih25 ah25
          refine qk_some ?_
          exact ⟨Th25, (by first | with_reducible assumption | grind | grind (ematch := 40) (gen := 40) (liaSteps := 300000) | lia), (by first | with_reducible assumption | grind | grind (ematch := 40) (gen := 40) (liaSteps := 300000) | lia), (by first | with_reducible assumption | grind | grind (ematch := 40) (gen := 40) (liaSteps := 300000) | lia), (by first | with_reducible assumption | grind | grind (ematch := 40) (gen := 40) (liaSteps := 300000) | lia)⟩
        · skip
          unfold f_Pa_placeLabel_71
          refine r_Pa_0 Th9 kv0 ?_
          intro kx1i7
          refine r_Cur_o Th9 kx1i7 ?_
          refine c_Cur_refuse (v0 := (v0 + 1)) (v1 := 0) Th9 kx1i7 (by first | with_reducible assumption | grind | grind (ematch := 40) (gen := 40) (liaSteps := 300000) | lia) ?_
          intro yr3i7 hr3i7 Tr3i7 gr3i7_0 gr3i7_1 gr3i7_2
          dsimp only
          refine qk_zB (by first | with_reducible assumption | grind | grind (ematch := 40) (gen := 40) (liaSteps := 300000) | lia) ?_
          refine qk_some ?_
          exact ⟨Tr3i7, (by first | with_reducible assumption | grind | grind (ematch := 40) (gen := 40) (liaSteps := 300000) | lia), (by first | with_reducible assumption | grind | grind (ematch := 40) (gen := 40) (liaSteps := 300000) | lia), (by first | with_reducible assumption | grind | grind (ematch := 40) (gen := 40) (liaSteps := 300000) | lia), (by first | with_reducible assumption | grind | grind (ematch := 40) (gen := 40) (liaSteps := 300000) | lia)⟩
    · skip
      unfold f_Pa_placeLabel_20
      refine r_Pa_0 T kv0 ?_
      intro kx1i8
      refine r_Cur_o T kx1i8 ?_
      refine c_Cur_refuse (v0 := (v0 + 1)) (v1 := 0) T kx1i8 (by first | with_reducible assumption | grind | grind (ematch := 40) (gen := 40) (liaSteps := 300000) | lia) ?_
      intro yr3i8 hr3i8 Tr3i8 gr3i8_0 gr3i8_1 gr3i8_2
      dsimp only
      refine qk_zB (by first | with_reducible assumption | grind | grind (ematch := 40) (gen := 40) (liaSteps := 300000) | lia) ?_
      refine qk_some ?_
      exact ⟨Tr3i8, (by first | with_reducible assumption | grind | grind (ematch := 40) (gen := 40) (liaSteps := 300000) | lia), (by first | with_reducible assumption | grind | grind (ematch := 40) (gen := 40) (liaSteps := 300000) | lia), (by first | with_reducible assumption | grind | grind (ematch := 40) (gen := 40) (liaSteps := 300000) | lia), (by first | with_reducible assumption | grind | grind (ematch := 40) (gen := 40) (liaSteps := 300000) | lia)⟩
theorem c_Pa_placeLabel {L : q_L} {W : Nat → Prop} {h0 : z_H} {π : Nat → Nat → Option Nat} {N : Nat} {pg : Nat} {cm : Nat} {h : z_H} {v0 : Nat} {β : Type} {f : Int32 × z_H → Option β} {Q : β → Prop} (T : q_U L W h0 π h) (kv0 : qκ L v0 = 7) (kpg : qκ L pg = 10) (ppg : π v0 5 = some pg) (kcm : qκ L cm = 2) (pcm : π v0 6 = some cm) (ptx : π (v0 + 1) 0 = some (pg + 1)) (wP : ∀ a, v0 ≤ a → a < v0 + 5 → W a) (wG : ∀ a, pg ≤ a → a < pg + 249 → W a) (hc1 : pg + 9 ≤ cm) (hc2 : cm + 6 ≤ pg + 249) (hat : vI h (v0 + 1) 1 < 240) (H : ∀ y h', q_U L W h0 π h' → (y = 0 ∨ y = 1) → (∀ a k, ¬ ((a = v0 + 1 ∧ (k = 1 ∨ k = 2))) → vI h' a k = vI h a k) → (∀ a j, 0 ≤ j → a ≠ v0 + 4 → vA h' a j = vA h a j) → (y = 1 → vI h (v0 + 1) 1 ≤ vI h' (v0 + 1) 1) → qk (f (y, h')) Q) : qk (z_b (f_Pa_placeLabel N v0 h) f) Q := by
  refine qk_b (p_Pa_placeLabel T kv0 kpg ppg kcm pcm ptx wP wG hc1 hc2 hat) ?_
  rintro ⟨y, hz⟩ ⟨Tz, g0, g1, g2, g3⟩
  exact H y hz Tz g0 g1 g2 g3

set_option maxHeartbeats 2000000 in
theorem p_Pa_readBranch {L : q_L} {W : Nat → Prop} {h0 : z_H} {π : Nat → Nat → Option Nat} {N : Nat} {pg : Nat} {cm : Nat} {h : z_H} {v0 : Nat} (T : q_U L W h0 π h) (kv0 : qκ L v0 = 7) (kpg : qκ L pg = 10) (ppg : π v0 5 = some pg) (kcm : qκ L cm = 2) (pcm : π v0 6 = some cm) (ptx : π (v0 + 1) 0 = some (pg + 1)) (wP : ∀ a, v0 ≤ a → a < v0 + 5 → W a) (wG : ∀ a, pg ≤ a → a < pg + 249 → W a) (hc1 : pg + 9 ≤ cm) (hc2 : cm + 6 ≤ pg + 249) (hat : vI h (v0 + 1) 1 < 240) : qk (f_Pa_readBranch N v0 h) (fun r => q_U L W h0 π r.2 ∧ (r.1 = 1) ∧ (∀ a k, ¬ ((a = v0 + 1 ∧ k = 1) ∨ (a = cm ∧ k = 8)) → vI r.2 a k = vI h a k) ∧ (∀ a j, vA r.2 a j = vA h a j) ∧ (r.1 = 1 → vI h (v0 + 1) 1 ≤ vI r.2 (v0 + 1) 1)) := by
  obtain ⟨kcu, kpr, cpa1, cpa2, cpa3, cpa4, cpa5⟩ := q_CPa T kv0
  obtain ⟨ktx, ctx, kit, cpg1, cpg2, cpg3⟩ := q_CProg T kpg
  obtain ⟨kc1, kc3, kc5, cc9⟩ := q_CCmd T kcm
  unfold f_Pa_readBranch
  refine r_Pa_0 T kv0 ?_
  intro kx1
  refine r_Cur_1 T kx1 ?_
  intro x2 ex2 lx2 ux2
  subst ex2
  refine w_Cur_1 T kx1 (by first | with_reducible assumption | grind | grind (ematch := 40) (gen := 40) (liaSteps := 300000) | lia) (q_inc01 (T.2.2.2.1 _ 1) (q_CCur T kx1)) (by first | exact q_inc1 (by first | with_reducible assumption | grind -lia | grind) (q_inc00 (T.2.2.2.1 _ 1) (q_CCur T kx1)) | exact q_inc1b (by first | with_reducible assumption | grind -lia | grind) (q_inc00 (T.2.2.2.1 _ 1) (q_CCur T kx1))) ?_
  intro h3 Th3 ih3 ah3
  refine r_Pa_0 Th3 kv0 ?_
  intro kx4
  refine r_Cur_o Th3 kx4 ?_
  refine c_Cur_look (v0 := (v0 + 1)) (v1 := 0) (tx := (pg + 1)) Th3 kx4 ktx ptx (by first | with_reducible assumption | grind | grind (ematch := 40) (gen := 40) (liaSteps := 300000) | lia) (by first | with_reducible assumption | grind | grind (ematch := 40) (gen := 40) (liaSteps := 300000) | lia) (by first | with_reducible assumption | grind | grind (ematch := 40) (gen := 40) (liaSteps := 300000) | lia) ?_
  intro yr6 gr6_0 gr6_1 gr6_2 gr6_3 gr6_4
  simp only [Int32.add_zero] at gr6_2 gr6_3 gr6_4
  dsimp only
  refine qk_bs ?_
  refine c_Pa_isLetter (v0 := (yr6)) Th3 ?_
  intro yr8 gr8_0 gr8_1
  dsimp only
  refine qk_if (fun cc1 => ?_) (fun cc1 => ?_)
  · skip
    refine qk_some ?_
    exact ⟨Th3, (by first | with_reducible assumption | grind | grind (ematch := 40) (gen := 40) (liaSteps := 300000) | lia), (by first | with_reducible assumption | grind | grind (ematch := 40) (gen := 40) (liaSteps := 300000) | lia), (by first | with_reducible assumption | grind | grind (ematch := 40) (gen := 40) (liaSteps := 300000) | lia), (by first | with_reducible assumption | grind | grind (ematch := 40) (gen := 40) (liaSteps := 300000) | lia)⟩
  · skip
    refine r_Pa_6 Th3 kv0 pcm ?_
    refine w_Cmd_8 Th3 kcm (by first | with_reducible assumption | grind | grind (ematch := 40) (gen := 40) (liaSteps := 300000) | lia) (by first | with_reducible assumption | grind | grind (ematch := 40) (gen := 40) (liaSteps := 300000) | lia) (by first | with_reducible assumption | grind | grind (ematch := 40) (gen := 40) (liaSteps := 300000) | lia) ?_
    intro h11 Th11 ih11 ah11
    refine r_Pa_0 Th11 kv0 ?_
    intro kx12
    refine r_Cur_1 Th11 kx12 ?_
    intro x13 ex13 lx13 ux13
    subst ex13
    refine w_Cur_1 Th11 kx12 (by first | with_reducible assumption | grind | grind (ematch := 40) (gen := 40) (liaSteps := 300000) | lia) (q_inc01 (Th11.2.2.2.1 _ 1) (q_CCur Th11 kx12)) (by first | exact q_inc1 (by first | with_reducible assumption | grind -lia | grind) (q_inc00 (Th11.2.2.2.1 _ 1) (q_CCur Th11 kx12)) | exact q_inc1b (by first | with_reducible assumption | grind -lia | grind) (q_inc00 (Th11.2.2.2.1 _ 1) (q_CCur Th11 kx12))) ?_
    intro h14 Th14 ih14 ah14
    refine qk_some ?_
    exact ⟨Th14, (by first | with_reducible assumption | grind | grind (ematch := 40) (gen := 40) (liaSteps := 300000) | lia), (by first | with_reducible assumption | grind | grind (ematch := 40) (gen := 40) (liaSteps := 300000) | lia), (by first | with_reducible assumption | grind | grind (ematch := 40) (gen := 40) (liaSteps := 300000) | lia), (by first | with_reducible assumption | grind | grind (ematch := 40) (gen := 40) (liaSteps := 300000) | lia)⟩
theorem c_Pa_readBranch {L : q_L} {W : Nat → Prop} {h0 : z_H} {π : Nat → Nat → Option Nat} {N : Nat} {pg : Nat} {cm : Nat} {h : z_H} {v0 : Nat} {β : Type} {f : Int32 × z_H → Option β} {Q : β → Prop} (T : q_U L W h0 π h) (kv0 : qκ L v0 = 7) (kpg : qκ L pg = 10) (ppg : π v0 5 = some pg) (kcm : qκ L cm = 2) (pcm : π v0 6 = some cm) (ptx : π (v0 + 1) 0 = some (pg + 1)) (wP : ∀ a, v0 ≤ a → a < v0 + 5 → W a) (wG : ∀ a, pg ≤ a → a < pg + 249 → W a) (hc1 : pg + 9 ≤ cm) (hc2 : cm + 6 ≤ pg + 249) (hat : vI h (v0 + 1) 1 < 240) (H : ∀ y h', q_U L W h0 π h' → (y = 1) → (∀ a k, ¬ ((a = v0 + 1 ∧ k = 1) ∨ (a = cm ∧ k = 8)) → vI h' a k = vI h a k) → (∀ a j, vA h' a j = vA h a j) → (y = 1 → vI h (v0 + 1) 1 ≤ vI h' (v0 + 1) 1) → qk (f (y, h')) Q) : qk (z_b (f_Pa_readBranch N v0 h) f) Q := by
  refine qk_b (p_Pa_readBranch T kv0 kpg ppg kcm pcm ptx wP wG hc1 hc2 hat) ?_
  rintro ⟨y, hz⟩ ⟨Tz, g0, g1, g2, g3⟩
  exact H y hz Tz g0 g1 g2 g3

set_option maxHeartbeats 2000000 in
theorem p_Pa_readText {L : q_L} {W : Nat → Prop} {h0 : z_H} {π : Nat → Nat → Option Nat} {N : Nat} {pg : Nat} {cm : Nat} {h : z_H} {v0 : Nat} (T : q_U L W h0 π h) (kv0 : qκ L v0 = 7) (kpg : qκ L pg = 10) (ppg : π v0 5 = some pg) (kcm : qκ L cm = 2) (pcm : π v0 6 = some cm) (ptx : π (v0 + 1) 0 = some (pg + 1)) (wP : ∀ a, v0 ≤ a → a < v0 + 5 → W a) (wG : ∀ a, pg ≤ a → a < pg + 249 → W a) (hc1 : pg + 9 ≤ cm) (hc2 : cm + 6 ≤ pg + 249) (hat : vI h (v0 + 1) 1 < 240) (hN : 100000 ≤ N) : qk (f_Pa_readText N v0 h) (fun r => q_U L W h0 π r.2 ∧ (r.1 = 0 ∨ r.1 = 1) ∧ (∀ a k, ¬ ((a = v0 + 1 ∧ (k = 1 ∨ k = 2)) ∨ (a = cm ∧ (k = 9 ∨ k = 10))) → vI r.2 a k = vI h a k) ∧ (∀ a j, vA r.2 a j = vA h a j) ∧ (r.1 = 1 → vI h (v0 + 1) 1 ≤ vI r.2 (v0 + 1) 1)) := by
  obtain ⟨kcu, kpr, cpa1, cpa2, cpa3, cpa4, cpa5⟩ := q_CPa T kv0
  obtain ⟨ktx, ctx, kit, cpg1, cpg2, cpg3⟩ := q_CProg T kpg
  obtain ⟨kc1, kc3, kc5, cc9⟩ := q_CCmd T kcm
  unfold f_Pa_readText
  refine r_Pa_0 T kv0 ?_
  intro kx1
  refine r_Cur_1 T kx1 ?_
  intro x2 ex2 lx2 ux2
  subst ex2
  refine w_Cur_1 T kx1 (by first | with_reducible assumption | grind | grind (ematch := 40) (gen := 40) (liaSteps := 300000) | lia) (q_inc01 (T.2.2.2.1 _ 1) (q_CCur T kx1)) (by first | exact q_inc1 (by first | with_reducible assumption | grind -lia | grind) (q_inc00 (T.2.2.2.1 _ 1) (q_CCur T kx1)) | exact q_inc1b (by first | with_reducible assumption | grind -lia | grind) (q_inc00 (T.2.2.2.1 _ 1) (q_CCur T kx1))) ?_
  intro h3 Th3 ih3 ah3
  refine r_Pa_0 Th3 kv0 ?_
  intro kx4
  refine r_Cur_o Th3 kx4 ?_
  refine c_Cur_pass (v0 := (v0 + 1)) (v1 := 32) (tx := (pg + 1)) Th3 kx4 ktx ptx (by first | with_reducible assumption | grind | grind (ematch := 40) (gen := 40) (liaSteps := 300000) | lia) (by first | with_reducible assumption | grind | grind (ematch := 40) (gen := 40) (liaSteps := 300000) | lia) (by first | with_reducible assumption | grind | grind (ematch := 40) (gen := 40) (liaSteps := 300000) | lia) ?_
  intro yr6 hr6 Tr6 gr6_0 gr6_1 gr6_2 gr6_3 gr6_4 gr6_5 gr6_6
  dsimp only
  refine qk_if (fun cc1 => ?_) (fun cc1 => ?_)
  · skip
    refine qk_some ?_
    exact ⟨Tr6, (by first | with_reducible assumption | grind | grind (ematch := 40) (gen := 40) (liaSteps := 300000) | lia), (by first | with_reducible assumption | grind | grind (ematch := 40) (gen := 40) (liaSteps := 300000) | lia), (by first | with_reducible assumption | grind | grind (ematch := 40) (gen := 40) (liaSteps := 300000) | lia), (by first | with_reducible assumption | grind | grind (ematch := 40) (gen := 40) (liaSteps := 300000) | lia)⟩
  · skip
    refine r_Pa_6 Tr6 kv0 pcm ?_
    refine r_Pa_0 Tr6 kv0 ?_
    intro kx9
    refine r_Cur_1 Tr6 kx9 ?_
    intro x10 ex10 lx10 ux10
    subst ex10
    refine w_Cmd_9 Tr6 kcm (by first | with_reducible assumption | grind | grind (ematch := 40) (gen := 40) (liaSteps := 300000) | lia) (by first | with_reducible assumption | grind | grind (ematch := 40) (gen := 40) (liaSteps := 300000) | lia) (by first | with_reducible assumption | grind | grind (ematch := 40) (gen := 40) (liaSteps := 300000) | lia) ?_
    intro h11 Th11 ih11 ah11
    refine r_Pa_6 Th11 kv0 pcm ?_
    refine r_Pa_5 Th11 kv0 ppg ?_
    refine r_Prog_0 Th11 kpg ?_
    intro kx14 px14
    refine r_Pa_0 Th11 kv0 ?_
    intro kx15
    refine r_Cur_1 Th11 kx15 ?_
    intro x16 ex16 lx16 ux16
    subst ex16
    refine r_Row_o Th11 kx14 ?_
    refine c_Row_newlineFrom (v0 := (pg + 1)) (v1 := (vI h11 (v0 + 1) 1)) Th11 kx14 (by first | with_reducible assumption | grind | grind (ematch := 40) (gen := 40) (liaSteps := 300000) | lia) (by first | with_reducible assumption | grind | grind (ematch := 40) (gen := 40) (liaSteps := 300000) | lia) (by first | with_reducible assumption | grind | grind (ematch := 40) (gen := 40) (liaSteps := 300000) | lia) ?_
    intro yr18 gr18_0 gr18_1
    dsimp only
    refine w_Cmd_10 Th11 kcm (by first | with_reducible assumption | grind | grind (ematch := 40) (gen := 40) (liaSteps := 300000) | lia) (q_nl gr18_0 gr18_1 (q_rowhi Th11 ktx) ctx lx16 ux16).1 (q_nl gr18_0 gr18_1 (q_rowhi Th11 ktx) ctx lx16 ux16).2 ?_
    intro h19 Th19 ih19 ah19
    refine r_Pa_0 Th19 kv0 ?_
    intro kx20
    refine r_Pa_6 Th19 kv0 pcm ?_
    refine r_Cmd_10 Th19 kcm ?_
    intro x22 ex22 lx22 ux22
    subst ex22
    refine w_Cur_1 Th19 kx20 (by first | with_reducible assumption | grind | grind (ematch := 40) (gen := 40) (liaSteps := 300000) | lia) (by first | with_reducible assumption | grind | grind (ematch := 40) (gen := 40) (liaSteps := 300000) | lia) (by first | with_reducible assumption | grind | grind (ematch := 40) (gen := 40) (liaSteps := 300000) | lia) ?_
    intro h23 Th23 ih23 ah23
    refine qk_some ?_
    exact ⟨Th23, (by first | with_reducible assumption | grind | grind (ematch := 40) (gen := 40) (liaSteps := 300000) | lia), (by first | with_reducible assumption | grind | grind (ematch := 40) (gen := 40) (liaSteps := 300000) | lia), (by first | with_reducible assumption | grind | grind (ematch := 40) (gen := 40) (liaSteps := 300000) | lia), (by first | with_reducible assumption | grind | grind (ematch := 40) (gen := 40) (liaSteps := 300000) | lia)⟩
theorem c_Pa_readText {L : q_L} {W : Nat → Prop} {h0 : z_H} {π : Nat → Nat → Option Nat} {N : Nat} {pg : Nat} {cm : Nat} {h : z_H} {v0 : Nat} {β : Type} {f : Int32 × z_H → Option β} {Q : β → Prop} (T : q_U L W h0 π h) (kv0 : qκ L v0 = 7) (kpg : qκ L pg = 10) (ppg : π v0 5 = some pg) (kcm : qκ L cm = 2) (pcm : π v0 6 = some cm) (ptx : π (v0 + 1) 0 = some (pg + 1)) (wP : ∀ a, v0 ≤ a → a < v0 + 5 → W a) (wG : ∀ a, pg ≤ a → a < pg + 249 → W a) (hc1 : pg + 9 ≤ cm) (hc2 : cm + 6 ≤ pg + 249) (hat : vI h (v0 + 1) 1 < 240) (hN : 100000 ≤ N) (H : ∀ y h', q_U L W h0 π h' → (y = 0 ∨ y = 1) → (∀ a k, ¬ ((a = v0 + 1 ∧ (k = 1 ∨ k = 2)) ∨ (a = cm ∧ (k = 9 ∨ k = 10))) → vI h' a k = vI h a k) → (∀ a j, vA h' a j = vA h a j) → (y = 1 → vI h (v0 + 1) 1 ≤ vI h' (v0 + 1) 1) → qk (f (y, h')) Q) : qk (z_b (f_Pa_readText N v0 h) f) Q := by
  refine qk_b (p_Pa_readText T kv0 kpg ppg kcm pcm ptx wP wG hc1 hc2 hat hN) ?_
  rintro ⟨y, hz⟩ ⟨Tz, g0, g1, g2, g3⟩
  exact H y hz Tz g0 g1 g2 g3

set_option maxHeartbeats 2000000 in
theorem p_Pa_readReplacement_16_n {L : q_L} {W : Nat → Prop} {h0 : z_H} {π : Nat → Nat → Option Nat} {N : Nat} {pg : Nat} {cm : Nat} {lo : Nat → Int32} (hqn : q_Q lo 242) : ∀ (n : Nat) (v0 : Nat) (v1 : Int32) (h : z_H), q_U L W h0 π h → qκ L v0 = 7 → (qκ L pg = 10) → (π v0 5 = some pg) → (qκ L cm = 2) → (π v0 6 = some cm) → (π (v0 + 1) 0 = some (pg + 1)) → (∀ a, v0 ≤ a → a < v0 + 5 → W a) → (∀ a, pg ≤ a → a < pg + 249 → W a) → (pg + 9 ≤ cm) → (cm + 6 ≤ pg + 249) → (0 ≤ v1) → (v1 ≤ 241) → (lo n ≤ v1) → qk (f_Pa_readReplacement_16 N  n v0 v1 h) (fun r => q_U L W h0 π r.2 ∧ (r.1 = 0 ∨ r.1 = 1) ∧ (∀ a k, ¬ ((a = v0 + 1 ∧ (k = 1 ∨ k = 2)) ∨ (a = cm ∧ (k = 9 ∨ k = 10))) → vI r.2 a k = vI h a k) ∧ (∀ a j, vA r.2 a j = vA h a j) ∧ (r.1 = 1 → vI h (v0 + 1) 1 ≤ vI r.2 (v0 + 1) 1)) := by
  intro n
  induction n with
  | zero => intro v0 v1 h T kv0 kpg ppg kcm pcm ptx wP wG hc1 hc2 b0 b1 hms; have hz := hqn.1; exact absurd hms (by grind)
  | succ n ih =>
    intro v0 v1 h T kv0 kpg ppg kcm pcm ptx wP wG hc1 hc2 b0 b1 hms
    obtain ⟨hq1, hq2, hq3⟩ := hqn.2 n
    rw [f_Pa_readReplacement_16]
    obtain ⟨kcu, kpr, cpa1, cpa2, cpa3, cpa4, cpa5⟩ := q_CPa T kv0
    obtain ⟨ktx, ctx, kit, cpg1, cpg2, cpg3⟩ := q_CProg T kpg
    obtain ⟨kc1, kc3, kc5, cc9⟩ := q_CCmd T kcm
    refine qk_if (fun cc1 => ?_) (fun cc1 => ?_)
    · skip
      unfold f_Pa_readReplacement_148
      refine r_Pa_6 T kv0 pcm ?_
      refine r_Pa_0 T kv0 ?_
      intro kx2i2
      refine r_Cur_1 T kx2i2 ?_
      intro x3i2 ex3i2 lx3i2 ux3i2
      subst ex3i2
      refine w_Cmd_10 T kcm (by clear ih; first | with_reducible assumption | grind | grind (ematch := 40) (gen := 40) (liaSteps := 300000) | lia) (by clear ih; first | with_reducible assumption | grind | grind (ematch := 40) (gen := 40) (liaSteps := 300000) | lia) (by clear ih; first | with_reducible assumption | grind | grind (ematch := 40) (gen := 40) (liaSteps := 300000) | lia) ?_
      intro h4i2 Th4i2 ih4i2 ah4i2
      refine r_Pa_0 Th4i2 kv0 ?_
      intro kx5i2
      refine r_Cur_o Th4i2 kx5i2 ?_
      refine c_Cur_pass (v0 := (v0 + 1)) (v1 := 47) (tx := (pg + 1)) Th4i2 kx5i2 ktx ptx (by clear ih; first | with_reducible assumption | grind | grind (ematch := 40) (gen := 40) (liaSteps := 300000) | lia) (by clear ih; first | with_reducible assumption | grind | grind (ematch := 40) (gen := 40) (liaSteps := 300000) | lia) (by clear ih; first | with_reducible assumption | grind | grind (ematch := 40) (gen := 40) (liaSteps := 300000) | lia) ?_
      intro yr7i2 hr7i2 Tr7i2 gr7i2_0 gr7i2_1 gr7i2_2 gr7i2_3 gr7i2_4 gr7i2_5 gr7i2_6
      dsimp only
      refine qk_zB (by clear ih; first | with_reducible assumption | grind | grind (ematch := 40) (gen := 40) (liaSteps := 300000) | lia) ?_
      refine qk_some ?_
      exact ⟨Tr7i2, (by clear ih; first | with_reducible assumption | grind | grind (ematch := 40) (gen := 40) (liaSteps := 300000) | lia), (by clear ih; first | with_reducible assumption | grind | grind (ematch := 40) (gen := 40) (liaSteps := 300000) | lia), (by clear ih; first | with_reducible assumption | grind | grind (ematch := 40) (gen := 40) (liaSteps := 300000) | lia), (by clear ih; first | with_reducible assumption | grind | grind (ematch := 40) (gen := 40) (liaSteps := 300000) | lia)⟩
    · skip
      refine r_Pa_0 T kv0 ?_
      intro kx2
      refine r_Cur_o T kx2 ?_
      refine c_Cur_look (v0 := (v0 + 1)) (v1 := 0) (tx := (pg + 1)) T kx2 ktx ptx (by clear ih; first | with_reducible assumption | grind | grind (ematch := 40) (gen := 40) (liaSteps := 300000) | lia) (by clear ih; first | with_reducible assumption | grind | grind (ematch := 40) (gen := 40) (liaSteps := 300000) | lia) (by clear ih; first | with_reducible assumption | grind | grind (ematch := 40) (gen := 40) (liaSteps := 300000) | lia) ?_
      intro yr4 gr4_0 gr4_1 gr4_2 gr4_3 gr4_4
      simp only [Int32.add_zero] at gr4_2 gr4_3 gr4_4
      dsimp only
      refine qk_if (fun cc3 => ?_) (fun cc3 => ?_)
      · skip
        unfold f_Pa_readReplacement_148
        refine r_Pa_6 T kv0 pcm ?_
        refine r_Pa_0 T kv0 ?_
        intro kx2i4
        refine r_Cur_1 T kx2i4 ?_
        intro x3i4 ex3i4 lx3i4 ux3i4
        subst ex3i4
        refine w_Cmd_10 T kcm (by clear ih; first | with_reducible assumption | grind | grind (ematch := 40) (gen := 40) (liaSteps := 300000) | lia) (by clear ih; first | with_reducible assumption | grind | grind (ematch := 40) (gen := 40) (liaSteps := 300000) | lia) (by clear ih; first | with_reducible assumption | grind | grind (ematch := 40) (gen := 40) (liaSteps := 300000) | lia) ?_
        intro h4i4 Th4i4 ih4i4 ah4i4
        refine r_Pa_0 Th4i4 kv0 ?_
        intro kx5i4
        refine r_Cur_o Th4i4 kx5i4 ?_
        refine c_Cur_pass (v0 := (v0 + 1)) (v1 := 47) (tx := (pg + 1)) Th4i4 kx5i4 ktx ptx (by clear ih; first | with_reducible assumption | grind | grind (ematch := 40) (gen := 40) (liaSteps := 300000) | lia) (by clear ih; first | with_reducible assumption | grind | grind (ematch := 40) (gen := 40) (liaSteps := 300000) | lia) (by clear ih; first | with_reducible assumption | grind | grind (ematch := 40) (gen := 40) (liaSteps := 300000) | lia) ?_
        intro yr7i4 hr7i4 Tr7i4 gr7i4_0 gr7i4_1 gr7i4_2 gr7i4_3 gr7i4_4 gr7i4_5 gr7i4_6
        dsimp only
        refine qk_zB (by clear ih; first | with_reducible assumption | grind | grind (ematch := 40) (gen := 40) (liaSteps := 300000) | lia) ?_
        refine qk_some ?_
        exact ⟨Tr7i4, (by clear ih; first | with_reducible assumption | grind | grind (ematch := 40) (gen := 40) (liaSteps := 300000) | lia), (by clear ih; first | with_reducible assumption | grind | grind (ematch := 40) (gen := 40) (liaSteps := 300000) | lia), (by clear ih; first | with_reducible assumption | grind | grind (ematch := 40) (gen := 40) (liaSteps := 300000) | lia), (by clear ih; first | with_reducible assumption | grind | grind (ematch := 40) (gen := 40) (liaSteps := 300000) | lia)⟩
      · skip
        refine r_Pa_0 T kv0 ?_
        intro kx6
        refine r_Cur_o T kx6 ?_
        refine c_Cur_look (v0 := (v0 + 1)) (v1 := 0) (tx := (pg + 1)) T kx6 ktx ptx (by clear ih; first | with_reducible assumption | grind | grind (ematch := 40) (gen := 40) (liaSteps := 300000) | lia) (by clear ih; first | with_reducible assumption | grind | grind (ematch := 40) (gen := 40) (liaSteps := 300000) | lia) (by clear ih; first | with_reducible assumption | grind | grind (ematch := 40) (gen := 40) (liaSteps := 300000) | lia) ?_
        intro yr8 gr8_0 gr8_1 gr8_2 gr8_3 gr8_4
        simp only [Int32.add_zero] at gr8_2 gr8_3 gr8_4
        dsimp only
        refine qk_bs ?_
        refine qk_if (fun cc5 => ?_) (fun cc5 => ?_)
        · skip
          unfold f_Pa_readReplacement_56
          refine r_Pa_0 T kv0 ?_
          intro kx1i6
          refine r_Cur_o T kx1i6 ?_
          refine c_Cur_refuse (v0 := (v0 + 1)) (v1 := 0) T kx1i6 (by clear ih; first | with_reducible assumption | grind | grind (ematch := 40) (gen := 40) (liaSteps := 300000) | lia) ?_
          intro yr3i6 hr3i6 Tr3i6 gr3i6_0 gr3i6_1 gr3i6_2
          dsimp only
          refine qk_zB (by clear ih; first | with_reducible assumption | grind | grind (ematch := 40) (gen := 40) (liaSteps := 300000) | lia) ?_
          refine qk_some ?_
          exact ⟨Tr3i6, (by clear ih; first | with_reducible assumption | grind | grind (ematch := 40) (gen := 40) (liaSteps := 300000) | lia), (by clear ih; first | with_reducible assumption | grind | grind (ematch := 40) (gen := 40) (liaSteps := 300000) | lia), (by clear ih; first | with_reducible assumption | grind | grind (ematch := 40) (gen := 40) (liaSteps := 300000) | lia), (by clear ih; first | with_reducible assumption | grind | grind (ematch := 40) (gen := 40) (liaSteps := 300000) | lia)⟩
        · skip
          refine qk_if (fun cc7 => ?_) (fun cc7 => ?_)
          · skip
            unfold f_Pa_readReplacement_56
            refine r_Pa_0 T kv0 ?_
            intro kx1i8
            refine r_Cur_o T kx1i8 ?_
            refine c_Cur_refuse (v0 := (v0 + 1)) (v1 := 0) T kx1i8 (by clear ih; first | with_reducible assumption | grind | grind (ematch := 40) (gen := 40) (liaSteps := 300000) | lia) ?_
            intro yr3i8 hr3i8 Tr3i8 gr3i8_0 gr3i8_1 gr3i8_2
            dsimp only
            refine qk_zB (by clear ih; first | with_reducible assumption | grind | grind (ematch := 40) (gen := 40) (liaSteps := 300000) | lia) ?_
            refine qk_some ?_
            exact ⟨Tr3i8, (by clear ih; first | with_reducible assumption | grind | grind (ematch := 40) (gen := 40) (liaSteps := 300000) | lia), (by clear ih; first | with_reducible assumption | grind | grind (ematch := 40) (gen := 40) (liaSteps := 300000) | lia), (by clear ih; first | with_reducible assumption | grind | grind (ematch := 40) (gen := 40) (liaSteps := 300000) | lia), (by clear ih; first | with_reducible assumption | grind | grind (ematch := 40) (gen := 40) (liaSteps := 300000) | lia)⟩
          · skip
            refine qk_if (fun cc9 => ?_) (fun cc9 => ?_)
            · skip
              refine r_Pa_0 T kv0 ?_
              intro kx13
              refine r_Cur_o T kx13 ?_
              refine c_Cur_look (v0 := (v0 + 1)) (v1 := 1) (tx := (pg + 1)) T kx13 ktx ptx (by clear ih; first | with_reducible assumption | grind | grind (ematch := 40) (gen := 40) (liaSteps := 300000) | lia) (by clear ih; first | with_reducible assumption | grind | grind (ematch := 40) (gen := 40) (liaSteps := 300000) | lia) (by clear ih; first | with_reducible assumption | grind | grind (ematch := 40) (gen := 40) (liaSteps := 300000) | lia) ?_
              intro yr15 gr15_0 gr15_1 gr15_2 gr15_3 gr15_4
              dsimp only
              refine qk_if (fun cc10 => ?_) (fun cc10 => ?_)
              · skip
                refine r_Pa_0 T kv0 ?_
                intro kx30
                refine r_Cur_o T kx30 ?_
                refine c_Cur_refuse (v0 := (v0 + 1)) (v1 := 1) T kx30 (by clear ih; first | with_reducible assumption | grind | grind (ematch := 40) (gen := 40) (liaSteps := 300000) | lia) ?_
                intro yr32 hr32 Tr32 gr32_0 gr32_1 gr32_2
                dsimp only
                refine qk_zB (by clear ih; first | with_reducible assumption | grind | grind (ematch := 40) (gen := 40) (liaSteps := 300000) | lia) ?_
                refine qk_some ?_
                exact ⟨Tr32, (by clear ih; first | with_reducible assumption | grind | grind (ematch := 40) (gen := 40) (liaSteps := 300000) | lia), (by clear ih; first | with_reducible assumption | grind | grind (ematch := 40) (gen := 40) (liaSteps := 300000) | lia), (by clear ih; first | with_reducible assumption | grind | grind (ematch := 40) (gen := 40) (liaSteps := 300000) | lia), (by clear ih; first | with_reducible assumption | grind | grind (ematch := 40) (gen := 40) (liaSteps := 300000) | lia)⟩
              · skip
                refine r_Pa_0 T kv0 ?_
                intro kx17
                refine r_Cur_o T kx17 ?_
                refine c_Cur_look (v0 := (v0 + 1)) (v1 := 1) (tx := (pg + 1)) T kx17 ktx ptx (by clear ih; first | with_reducible assumption | grind | grind (ematch := 40) (gen := 40) (liaSteps := 300000) | lia) (by clear ih; first | with_reducible assumption | grind | grind (ematch := 40) (gen := 40) (liaSteps := 300000) | lia) (by clear ih; first | with_reducible assumption | grind | grind (ematch := 40) (gen := 40) (liaSteps := 300000) | lia) ?_
                intro yr19 gr19_0 gr19_1 gr19_2 gr19_3 gr19_4
                dsimp only
                refine r_Pa_o T kv0 ?_
                refine c_Pa_mayFollowBackslash (v0 := v0) (v1 := (yr19)) (cm := cm) T kv0 kcm pcm ?_
                intro yr21 gr21_0
                dsimp only
                refine qk_if (fun cc11 => ?_) (fun cc11 => ?_)
                · skip
                  refine r_Pa_0 T kv0 ?_
                  intro kx26
                  refine r_Cur_o T kx26 ?_
                  refine c_Cur_refuse (v0 := (v0 + 1)) (v1 := 0) T kx26 (by clear ih; first | with_reducible assumption | grind | grind (ematch := 40) (gen := 40) (liaSteps := 300000) | lia) ?_
                  intro yr28 hr28 Tr28 gr28_0 gr28_1 gr28_2
                  dsimp only
                  refine qk_zB (by clear ih; first | with_reducible assumption | grind | grind (ematch := 40) (gen := 40) (liaSteps := 300000) | lia) ?_
                  refine qk_some ?_
                  exact ⟨Tr28, (by clear ih; first | with_reducible assumption | grind | grind (ematch := 40) (gen := 40) (liaSteps := 300000) | lia), (by clear ih; first | with_reducible assumption | grind | grind (ematch := 40) (gen := 40) (liaSteps := 300000) | lia), (by clear ih; first | with_reducible assumption | grind | grind (ematch := 40) (gen := 40) (liaSteps := 300000) | lia), (by clear ih; first | with_reducible assumption | grind | grind (ematch := 40) (gen := 40) (liaSteps := 300000) | lia)⟩
                · skip
                  refine r_Pa_0 T kv0 ?_
                  intro kx23
                  refine r_Cur_1 T kx23 ?_
                  intro x24 ex24 lx24 ux24
                  subst ex24
                  refine w_Cur_1 T kx23 (by clear ih; first | with_reducible assumption | grind | grind (ematch := 40) (gen := 40) (liaSteps := 300000) | lia) (q_inc01 (T.2.2.2.1 _ 1) (q_CCur T kx23)) (by first | exact q_inc1 (by clear ih; first | with_reducible assumption | grind -lia | grind) (q_inc00 (T.2.2.2.1 _ 1) (q_CCur T kx23)) | exact q_inc1b (by clear ih; first | with_reducible assumption | grind -lia | grind) (q_inc00 (T.2.2.2.1 _ 1) (q_CCur T kx23))) ?_
                  intro h25 Th25 ih25 ah25
                  unfold f_Pa_readReplacement_129
                  refine r_Pa_0 Th25 kv0 ?_
                  intro kx1i12
                  refine r_Cur_1 Th25 kx1i12 ?_
                  intro x2i12 ex2i12 lx2i12 ux2i12
                  subst ex2i12
                  refine w_Cur_1 Th25 kx1i12 (by clear ih; first | with_reducible assumption | grind | grind (ematch := 40) (gen := 40) (liaSteps := 300000) | lia) (q_inc01 (Th25.2.2.2.1 _ 1) (q_CCur Th25 kx1i12)) (by first | exact q_inc1 (by clear ih; first | with_reducible assumption | grind -lia | grind) (q_inc00 (Th25.2.2.2.1 _ 1) (q_CCur Th25 kx1i12)) | exact q_inc1b (by clear ih; first | with_reducible assumption | grind -lia | grind) (q_inc00 (Th25.2.2.2.1 _ 1) (q_CCur Th25 kx1i12))) ?_
                  intro h3i12 Th3i12 ih3i12 ah3i12
                  refine qk_bs ?_
                  refine qk_mono (ih (v0) ((v1 + 1)) h3i12 Th3i12 kv0 kpg ppg kcm pcm ptx (by clear ih; first | with_reducible assumption | grind | grind (ematch := 40) (gen := 40) (liaSteps := 300000) | lia) (by clear ih; first | with_reducible assumption | grind | grind (ematch := 40) (gen := 40) (liaSteps := 300000) | lia) (by clear ih; first | with_reducible assumption | grind | grind (ematch := 40) (gen := 40) (liaSteps := 300000) | lia) (by clear ih; first | with_reducible assumption | grind | grind (ematch := 40) (gen := 40) (liaSteps := 300000) | lia) (by clear ih; first | with_reducible assumption | grind | grind (ematch := 40) (gen := 40) (liaSteps := 300000) | lia) (by clear ih; first | with_reducible assumption | grind | grind (ematch := 40) (gen := 40) (liaSteps := 300000) | lia) (by clear ih; first | with_reducible assumption | grind | grind (ematch := 40) (gen := 40) (liaSteps := 300000) | lia)) ?_
                  rintro ⟨y, hz⟩ ⟨Tz, g0, g1, g2, g3⟩
                  try dsimp only at *
                  exact ⟨Tz, (by clear ih; first | with_reducible assumption | grind | grind (ematch := 40) (gen := 40) (liaSteps := 300000) | lia), (by clear ih; first | with_reducible assumption | grind | grind (ematch := 40) (gen := 40) (liaSteps := 300000) | lia), (by clear ih; first | with_reducible assumption | grind | grind (ematch := 40) (gen := 40) (liaSteps := 300000) | lia), (by clear ih; intro yy; exact q_mono1 (by grind -lia) (by grind -lia) (by grind -lia) (g3 yy))⟩
            · skip
              unfold f_Pa_readReplacement_129
              refine r_Pa_0 T kv0 ?_
              intro kx1i14
              refine r_Cur_1 T kx1i14 ?_
              intro x2i14 ex2i14 lx2i14 ux2i14
              subst ex2i14
              refine w_Cur_1 T kx1i14 (by clear ih; first | with_reducible assumption | grind | grind (ematch := 40) (gen := 40) (liaSteps := 300000) | lia) (q_inc01 (T.2.2.2.1 _ 1) (q_CCur T kx1i14)) (by first | exact q_inc1 (by clear ih; first | with_reducible assumption | grind -lia | grind) (q_inc00 (T.2.2.2.1 _ 1) (q_CCur T kx1i14)) | exact q_inc1b (by clear ih; first | with_reducible assumption | grind -lia | grind) (q_inc00 (T.2.2.2.1 _ 1) (q_CCur T kx1i14))) ?_
              intro h3i14 Th3i14 ih3i14 ah3i14
              refine qk_bs ?_
              refine qk_mono (ih (v0) ((v1 + 1)) h3i14 Th3i14 kv0 kpg ppg kcm pcm ptx (by clear ih; first | with_reducible assumption | grind | grind (ematch := 40) (gen := 40) (liaSteps := 300000) | lia) (by clear ih; first | with_reducible assumption | grind | grind (ematch := 40) (gen := 40) (liaSteps := 300000) | lia) (by clear ih; first | with_reducible assumption | grind | grind (ematch := 40) (gen := 40) (liaSteps := 300000) | lia) (by clear ih; first | with_reducible assumption | grind | grind (ematch := 40) (gen := 40) (liaSteps := 300000) | lia) (by clear ih; first | with_reducible assumption | grind | grind (ematch := 40) (gen := 40) (liaSteps := 300000) | lia) (by clear ih; first | with_reducible assumption | grind | grind (ematch := 40) (gen := 40) (liaSteps := 300000) | lia) (by clear ih; first | with_reducible assumption | grind | grind (ematch := 40) (gen := 40) (liaSteps := 300000) | lia)) ?_
              rintro ⟨y, hz⟩ ⟨Tz, g0, g1, g2, g3⟩
              try dsimp only at *
              exact ⟨Tz, (by clear ih; first | with_reducible assumption | grind | grind (ematch := 40) (gen := 40) (liaSteps := 300000) | lia), (by clear ih; first | with_reducible assumption | grind | grind (ematch := 40) (gen := 40) (liaSteps := 300000) | lia), (by clear ih; first | with_reducible assumption | grind | grind (ematch := 40) (gen := 40) (liaSteps := 300000) | lia), (by clear ih; intro yy; exact q_mono1 (by grind -lia) (by grind -lia) (by grind -lia) (g3 yy))⟩
theorem p_Pa_readReplacement_16 {L : q_L} {W : Nat → Prop} {h0 : z_H} {π : Nat → Nat → Option Nat} {N : Nat} {pg : Nat} {cm : Nat} {h : z_H} {v0 : Nat} {v1 : Int32} (T : q_U L W h0 π h) (kv0 : qκ L v0 = 7) (kpg : qκ L pg = 10) (ppg : π v0 5 = some pg) (kcm : qκ L cm = 2) (pcm : π v0 6 = some cm) (ptx : π (v0 + 1) 0 = some (pg + 1)) (wP : ∀ a, v0 ≤ a → a < v0 + 5 → W a) (wG : ∀ a, pg ≤ a → a < pg + 249 → W a) (hc1 : pg + 9 ≤ cm) (hc2 : cm + 6 ≤ pg + 249) (b0 : 0 ≤ v1) (b1 : v1 ≤ 241) (hN : 100000 ≤ N) : qk (f_Pa_readReplacement_16 N  N v0 v1 h) (fun r => q_U L W h0 π r.2 ∧ (r.1 = 0 ∨ r.1 = 1) ∧ (∀ a k, ¬ ((a = v0 + 1 ∧ (k = 1 ∨ k = 2)) ∨ (a = cm ∧ (k = 9 ∨ k = 10))) → vI r.2 a k = vI h a k) ∧ (∀ a j, vA r.2 a j = vA h a j) ∧ (r.1 = 1 → vI h (v0 + 1) 1 ≤ vI r.2 (v0 + 1) 1)) := by
  have hq := q_qnN hN
  refine p_Pa_readReplacement_16_n (q_lo (M := 242) (by decide) (by decide)) N v0 v1 h T kv0 kpg ppg kcm pcm ptx wP wG hc1 hc2 b0 b1 ?_ 
  show 242 - q_n N ≤ _
  rw [hq]
  lia

set_option maxHeartbeats 2000000 in
theorem p_Pa_readReplacement {L : q_L} {W : Nat → Prop} {h0 : z_H} {π : Nat → Nat → Option Nat} {N : Nat} {pg : Nat} {cm : Nat} {h : z_H} {v0 : Nat} (T : q_U L W h0 π h) (kv0 : qκ L v0 = 7) (kpg : qκ L pg = 10) (ppg : π v0 5 = some pg) (kcm : qκ L cm = 2) (pcm : π v0 6 = some cm) (ptx : π (v0 + 1) 0 = some (pg + 1)) (wP : ∀ a, v0 ≤ a → a < v0 + 5 → W a) (wG : ∀ a, pg ≤ a → a < pg + 249 → W a) (hc1 : pg + 9 ≤ cm) (hc2 : cm + 6 ≤ pg + 249) (hN : 100000 ≤ N) : qk (f_Pa_readReplacement N v0 h) (fun r => q_U L W h0 π r.2 ∧ (r.1 = 0 ∨ r.1 = 1) ∧ (∀ a k, ¬ ((a = v0 + 1 ∧ (k = 1 ∨ k = 2)) ∨ (a = cm ∧ (k = 9 ∨ k = 10))) → vI r.2 a k = vI h a k) ∧ (∀ a j, vA r.2 a j = vA h a j) ∧ (r.1 = 1 → vI h (v0 + 1) 1 ≤ vI r.2 (v0 + 1) 1)) := by
  obtain ⟨kcu, kpr, cpa1, cpa2, cpa3, cpa4, cpa5⟩ := q_CPa T kv0
  obtain ⟨ktx, ctx, kit, cpg1, cpg2, cpg3⟩ := q_CProg T kpg
  obtain ⟨kc1, kc3, kc5, cc9⟩ := q_CCmd T kcm
  unfold f_Pa_readReplacement
  refine r_Pa_6 T kv0 pcm ?_
  refine r_Pa_0 T kv0 ?_
  intro kx2
  refine r_Cur_1 T kx2 ?_
  intro x3 ex3 lx3 ux3
  subst ex3
  refine w_Cmd_9 T kcm (by first | with_reducible assumption | grind | grind (ematch := 40) (gen := 40) (liaSteps := 300000) | lia) (by first | with_reducible assumption | grind | grind (ematch := 40) (gen := 40) (liaSteps := 300000) | lia) (by first | with_reducible assumption | grind | grind (ematch := 40) (gen := 40) (liaSteps := 300000) | lia) ?_
  intro h4 Th4 ih4 ah4
  refine qk_mono (p_Pa_readReplacement_16 (v0 := v0) (v1 := 0) (pg := pg) (cm := cm) Th4 kv0 kpg ppg kcm pcm ptx (by first | with_reducible assumption | grind | grind (ematch := 40) (gen := 40) (liaSteps := 300000) | lia) (by first | with_reducible assumption | grind | grind (ematch := 40) (gen := 40) (liaSteps := 300000) | lia) (by first | with_reducible assumption | grind | grind (ematch := 40) (gen := 40) (liaSteps := 300000) | lia) (by first | with_reducible assumption | grind | grind (ematch := 40) (gen := 40) (liaSteps := 300000) | lia) (by first | with_reducible assumption | grind | grind (ematch := 40) (gen := 40) (liaSteps := 300000) | lia) (by first | with_reducible assumption | grind | grind (ematch := 40) (gen := 40) (liaSteps := 300000) | lia) (by first | with_reducible assumption | grind | grind (ematch := 40) (gen := 40) (liaSteps := 300000) | lia)) ?_
  rintro ⟨y, hz⟩ ⟨Tz, g0, g1, g2, g3⟩
  try dsimp only at *
  exact ⟨Tz, (by first | with_reducible assumption | grind | grind (ematch := 40) (gen := 40) (liaSteps := 300000) | lia), (by first | with_reducible assumption | grind | grind (ematch := 40) (gen := 40) (liaSteps := 300000) | lia), (by first | with_reducible assumption | grind | grind (ematch := 40) (gen := 40) (liaSteps := 300000) | lia), (by first | with_reducible assumption | grind | grind (ematch := 40) (gen := 40) (liaSteps := 300000) | lia)⟩
theorem c_Pa_readReplacement {L : q_L} {W : Nat → Prop} {h0 : z_H} {π : Nat → Nat → Option Nat} {N : Nat} {pg : Nat} {cm : Nat} {h : z_H} {v0 : Nat} {β : Type} {f : Int32 × z_H → Option β} {Q : β → Prop} (T : q_U L W h0 π h) (kv0 : qκ L v0 = 7) (kpg : qκ L pg = 10) (ppg : π v0 5 = some pg) (kcm : qκ L cm = 2) (pcm : π v0 6 = some cm) (ptx : π (v0 + 1) 0 = some (pg + 1)) (wP : ∀ a, v0 ≤ a → a < v0 + 5 → W a) (wG : ∀ a, pg ≤ a → a < pg + 249 → W a) (hc1 : pg + 9 ≤ cm) (hc2 : cm + 6 ≤ pg + 249) (hN : 100000 ≤ N) (H : ∀ y h', q_U L W h0 π h' → (y = 0 ∨ y = 1) → (∀ a k, ¬ ((a = v0 + 1 ∧ (k = 1 ∨ k = 2)) ∨ (a = cm ∧ (k = 9 ∨ k = 10))) → vI h' a k = vI h a k) → (∀ a j, vA h' a j = vA h a j) → (y = 1 → vI h (v0 + 1) 1 ≤ vI h' (v0 + 1) 1) → qk (f (y, h')) Q) : qk (z_b (f_Pa_readReplacement N v0 h) f) Q := by
  refine qk_b (p_Pa_readReplacement T kv0 kpg ppg kcm pcm ptx wP wG hc1 hc2 hN) ?_
  rintro ⟨y, hz⟩ ⟨Tz, g0, g1, g2, g3⟩
  exact H y hz Tz g0 g1 g2 g3

set_option maxHeartbeats 2000000 in
theorem p_Pa_readFlags_2_n {L : q_L} {W : Nat → Prop} {h0 : z_H} {π : Nat → Nat → Option Nat} {N : Nat} {pg : Nat} {cm : Nat} {lo : Nat → Int32} (hqn : q_Q lo 4) : ∀ (n : Nat) (v0 : Nat) (v1 : Int32) (h : z_H), q_U L W h0 π h → qκ L v0 = 7 → (qκ L pg = 10) → (π v0 5 = some pg) → (qκ L cm = 2) → (π v0 6 = some cm) → (π (v0 + 1) 0 = some (pg + 1)) → (∀ a, v0 ≤ a → a < v0 + 5 → W a) → (∀ a, pg ≤ a → a < pg + 249 → W a) → (pg + 9 ≤ cm) → (cm + 6 ≤ pg + 249) → (0 ≤ v1) → (v1 ≤ 3) → (lo n ≤ v1) → qk (f_Pa_readFlags_2 N  n v0 v1 h) (fun r => q_U L W h0 π r.2 ∧ (r.1 = 1) ∧ (∀ a k, ¬ ((a = v0 + 1 ∧ k = 1) ∨ (a = cm ∧ (k = 12 ∨ k = 13 ∨ k = 14))) → vI r.2 a k = vI h a k) ∧ (∀ a j, vA r.2 a j = vA h a j) ∧ (r.1 = 1 → vI h (v0 + 1) 1 ≤ vI r.2 (v0 + 1) 1)) := by
  intro n
  induction n with
  | zero => intro v0 v1 h T kv0 kpg ppg kcm pcm ptx wP wG hc1 hc2 b0 b1 hms; have hz := hqn.1; exact absurd hms (by grind)
  | succ n ih =>
    intro v0 v1 h T kv0 kpg ppg kcm pcm ptx wP wG hc1 hc2 b0 b1 hms
    obtain ⟨hq1, hq2, hq3⟩ := hqn.2 n
    rw [f_Pa_readFlags_2]
    obtain ⟨kcu, kpr, cpa1, cpa2, cpa3, cpa4, cpa5⟩ := q_CPa T kv0
    obtain ⟨ktx, ctx, kit, cpg1, cpg2, cpg3⟩ := q_CProg T kpg
    obtain ⟨kc1, kc3, kc5, cc9⟩ := q_CCmd T kcm
    refine qk_if (fun cc1 => ?_) (fun cc1 => ?_)
    · skip
      refine qk_some ?_
      exact ⟨T, (by clear ih; first | with_reducible assumption | grind | grind (ematch := 40) (gen := 40) (liaSteps := 300000) | lia), (by clear ih; first | with_reducible assumption | grind | grind (ematch := 40) (gen := 40) (liaSteps := 300000) | lia), (by clear ih; first | with_reducible assumption | grind | grind (ematch := 40) (gen := 40) (liaSteps := 300000) | lia), (by clear ih; first | with_reducible assumption | grind | grind (ematch := 40) (gen := 40) (liaSteps := 300000) | lia)⟩
    · skip
      refine r_Pa_0 T kv0 ?_
      intro kx2
      refine r_Cur_o T kx2 ?_
      refine c_Cur_look (v0 := (v0 + 1)) (v1 := 0) (tx := (pg + 1)) T kx2 ktx ptx (by clear ih; first | with_reducible assumption | grind | grind (ematch := 40) (gen := 40) (liaSteps := 300000) | lia) (by clear ih; first | with_reducible assumption | grind | grind (ematch := 40) (gen := 40) (liaSteps := 300000) | lia) (by clear ih; first | with_reducible assumption | grind | grind (ematch := 40) (gen := 40) (liaSteps := 300000) | lia) ?_
      intro yr4 gr4_0 gr4_1 gr4_2 gr4_3 gr4_4
      simp only [Int32.add_zero] at gr4_2 gr4_3 gr4_4
      dsimp only
      refine qk_bs ?_
      refine qk_if (fun cc2 => ?_) (fun cc2 => ?_)
      · skip
        refine r_Pa_6 T kv0 pcm ?_
        refine r_Cmd_12 T kcm ?_
        intro x8 ex8
        subst ex8
        refine qk_if (fun cc3 => ?_) (fun cc3 => ?_)
        · skip
          refine r_Pa_6 T kv0 pcm ?_
          refine w_Cmd_12 T kcm (by clear ih; first | with_reducible assumption | grind | grind (ematch := 40) (gen := 40) (liaSteps := 300000) | lia) ?_
          intro h11 Th11 ih11 ah11
          unfold f_Pa_readFlags_108
          refine r_Pa_0 Th11 kv0 ?_
          intro kx1i4
          refine r_Cur_1 Th11 kx1i4 ?_
          intro x2i4 ex2i4 lx2i4 ux2i4
          subst ex2i4
          refine w_Cur_1 Th11 kx1i4 (by clear ih; first | with_reducible assumption | grind | grind (ematch := 40) (gen := 40) (liaSteps := 300000) | lia) (q_inc01 (Th11.2.2.2.1 _ 1) (q_CCur Th11 kx1i4)) (by first | exact q_inc1 (by clear ih; first | with_reducible assumption | grind -lia | grind) (q_inc00 (Th11.2.2.2.1 _ 1) (q_CCur Th11 kx1i4)) | exact q_inc1b (by clear ih; first | with_reducible assumption | grind -lia | grind) (q_inc00 (Th11.2.2.2.1 _ 1) (q_CCur Th11 kx1i4))) ?_
          intro h3i4 Th3i4 ih3i4 ah3i4
          refine qk_bs ?_
          refine qk_mono (ih (v0) ((v1 + 1)) h3i4 Th3i4 kv0 kpg ppg kcm pcm ptx (by clear ih; first | with_reducible assumption | grind | grind (ematch := 40) (gen := 40) (liaSteps := 300000) | lia) (by clear ih; first | with_reducible assumption | grind | grind (ematch := 40) (gen := 40) (liaSteps := 300000) | lia) (by clear ih; first | with_reducible assumption | grind | grind (ematch := 40) (gen := 40) (liaSteps := 300000) | lia) (by clear ih; first | with_reducible assumption | grind | grind (ematch := 40) (gen := 40) (liaSteps := 300000) | lia) (by clear ih; first | with_reducible assumption | grind | grind (ematch := 40) (gen := 40) (liaSteps := 300000) | lia) (by clear ih; first | with_reducible assumption | grind | grind (ematch := 40) (gen := 40) (liaSteps := 300000) | lia) (by clear ih; first | with_reducible assumption | grind | grind (ematch := 40) (gen := 40) (liaSteps := 300000) | lia)) ?_
          rintro ⟨y, hz⟩ ⟨Tz, g0, g1, g2, g3⟩
          try dsimp only at *
          exact ⟨Tz, (by clear ih; first | with_reducible assumption | grind | grind (ematch := 40) (gen := 40) (liaSteps := 300000) | lia), (by clear ih; first | with_reducible assumption | grind | grind (ematch := 40) (gen := 40) (liaSteps := 300000) | lia), (by clear ih; first | with_reducible assumption | grind | grind (ematch := 40) (gen := 40) (liaSteps := 300000) | lia), (by clear ih; first | with_reducible assumption | grind | grind (ematch := 40) (gen := 40) (liaSteps := 300000) | lia)⟩
        · skip
          unfold f_Pa_readFlags_43
          refine qk_if (fun cc7 => ?_) (fun cc7 => ?_)
          · skip
            refine r_Pa_6 T kv0 pcm ?_
            refine r_Cmd_13 T kcm ?_
            intro x3i6 ex3i6
            subst ex3i6
            refine qk_if (fun cc8 => ?_) (fun cc8 => ?_)
            · skip
              refine r_Pa_6 T kv0 pcm ?_
              refine w_Cmd_13 T kcm (by clear ih; first | with_reducible assumption | grind | grind (ematch := 40) (gen := 40) (liaSteps := 300000) | lia) ?_
              intro h6i6 Th6i6 ih6i6 ah6i6
              unfold f_Pa_readFlags_108
              refine r_Pa_0 Th6i6 kv0 ?_
              intro kx1i9
              refine r_Cur_1 Th6i6 kx1i9 ?_
              intro x2i9 ex2i9 lx2i9 ux2i9
              subst ex2i9
              refine w_Cur_1 Th6i6 kx1i9 (by clear ih; first | with_reducible assumption | grind | grind (ematch := 40) (gen := 40) (liaSteps := 300000) | lia) (q_inc01 (Th6i6.2.2.2.1 _ 1) (q_CCur Th6i6 kx1i9)) (by first | exact q_inc1 (by clear ih; first | with_reducible assumption | grind -lia | grind) (q_inc00 (Th6i6.2.2.2.1 _ 1) (q_CCur Th6i6 kx1i9)) | exact q_inc1b (by clear ih; first | with_reducible assumption | grind -lia | grind) (q_inc00 (Th6i6.2.2.2.1 _ 1) (q_CCur Th6i6 kx1i9))) ?_
              intro h3i9 Th3i9 ih3i9 ah3i9
              refine qk_bs ?_
              refine qk_mono (ih (v0) ((v1 + 1)) h3i9 Th3i9 kv0 kpg ppg kcm pcm ptx (by clear ih; first | with_reducible assumption | grind | grind (ematch := 40) (gen := 40) (liaSteps := 300000) | lia) (by clear ih; first | with_reducible assumption | grind | grind (ematch := 40) (gen := 40) (liaSteps := 300000) | lia) (by clear ih; first | with_reducible assumption | grind | grind (ematch := 40) (gen := 40) (liaSteps := 300000) | lia) (by clear ih; first | with_reducible assumption | grind | grind (ematch := 40) (gen := 40) (liaSteps := 300000) | lia) (by clear ih; first | with_reducible assumption | grind | grind (ematch := 40) (gen := 40) (liaSteps := 300000) | lia) (by clear ih; first | with_reducible assumption | grind | grind (ematch := 40) (gen := 40) (liaSteps := 300000) | lia) (by clear ih; first | with_reducible assumption | grind | grind (ematch := 40) (gen := 40) (liaSteps := 300000) | lia)) ?_
              rintro ⟨y, hz⟩ ⟨Tz, g0, g1, g2, g3⟩
              try dsimp only at *
              exact ⟨Tz, (by clear ih; first | with_reducible assumption | grind | grind (ematch := 40) (gen := 40) (liaSteps := 300000) | lia), (by clear ih; first | with_reducible assumption | grind | grind (ematch := 40) (gen := 40) (liaSteps := 300000) | lia), (by clear ih; first | with_reducible assumption | grind | grind (ematch := 40) (gen := 40) (liaSteps := 300000) | lia), (by clear ih; first | with_reducible assumption | grind | grind (ematch := 40) (gen := 40) (liaSteps := 300000) | lia)⟩
            · skip
              unfold f_Pa_readFlags_70
              refine qk_if (fun cc12 => ?_) (fun cc12 => ?_)
              · skip
                refine qk_some ?_
                exact ⟨T, (by clear ih; first | with_reducible assumption | grind | grind (ematch := 40) (gen := 40) (liaSteps := 300000) | lia), (by clear ih; first | with_reducible assumption | grind | grind (ematch := 40) (gen := 40) (liaSteps := 300000) | lia), (by clear ih; first | with_reducible assumption | grind | grind (ematch := 40) (gen := 40) (liaSteps := 300000) | lia), (by clear ih; first | with_reducible assumption | grind | grind (ematch := 40) (gen := 40) (liaSteps := 300000) | lia)⟩
              · skip
                refine qk_if (fun cc13 => ?_) (fun cc13 => ?_)
                · skip
                  refine qk_some ?_
                  exact ⟨T, (by clear ih; first | with_reducible assumption | grind | grind (ematch := 40) (gen := 40) (liaSteps := 300000) | lia), (by clear ih; first | with_reducible assumption | grind | grind (ematch := 40) (gen := 40) (liaSteps := 300000) | lia), (by clear ih; first | with_reducible assumption | grind | grind (ematch := 40) (gen := 40) (liaSteps := 300000) | lia), (by clear ih; first | with_reducible assumption | grind | grind (ematch := 40) (gen := 40) (liaSteps := 300000) | lia)⟩
                · skip
                  refine r_Pa_6 T kv0 pcm ?_
                  refine r_Cmd_14 T kcm ?_
                  intro x4i11 ex4i11
                  subst ex4i11
                  refine qk_if (fun cc14 => ?_) (fun cc14 => ?_)
                  · skip
                    refine r_Pa_6 T kv0 pcm ?_
                    refine w_Cmd_14 T kcm (by clear ih; first | with_reducible assumption | grind | grind (ematch := 40) (gen := 40) (liaSteps := 300000) | lia) ?_
                    intro h7i11 Th7i11 ih7i11 ah7i11
                    unfold f_Pa_readFlags_108
                    refine r_Pa_0 Th7i11 kv0 ?_
                    intro kx1i15
                    refine r_Cur_1 Th7i11 kx1i15 ?_
                    intro x2i15 ex2i15 lx2i15 ux2i15
                    subst ex2i15
                    refine w_Cur_1 Th7i11 kx1i15 (by clear ih; first | with_reducible assumption | grind | grind (ematch := 40) (gen := 40) (liaSteps := 300000) | lia) (q_inc01 (Th7i11.2.2.2.1 _ 1) (q_CCur Th7i11 kx1i15)) (by first | exact q_inc1 (by clear ih; first | with_reducible assumption | grind -lia | grind) (q_inc00 (Th7i11.2.2.2.1 _ 1) (q_CCur Th7i11 kx1i15)) | exact q_inc1b (by clear ih; first | with_reducible assumption | grind -lia | grind) (q_inc00 (Th7i11.2.2.2.1 _ 1) (q_CCur Th7i11 kx1i15))) ?_
                    intro h3i15 Th3i15 ih3i15 ah3i15
                    refine qk_bs ?_
                    refine qk_mono (ih (v0) ((v1 + 1)) h3i15 Th3i15 kv0 kpg ppg kcm pcm ptx (by clear ih; first | with_reducible assumption | grind | grind (ematch := 40) (gen := 40) (liaSteps := 300000) | lia) (by clear ih; first | with_reducible assumption | grind | grind (ematch := 40) (gen := 40) (liaSteps := 300000) | lia) (by clear ih; first | with_reducible assumption | grind | grind (ematch := 40) (gen := 40) (liaSteps := 300000) | lia) (by clear ih; first | with_reducible assumption | grind | grind (ematch := 40) (gen := 40) (liaSteps := 300000) | lia) (by clear ih; first | with_reducible assumption | grind | grind (ematch := 40) (gen := 40) (liaSteps := 300000) | lia) (by clear ih; first | with_reducible assumption | grind | grind (ematch := 40) (gen := 40) (liaSteps := 300000) | lia) (by clear ih; first | with_reducible assumption | grind | grind (ematch := 40) (gen := 40) (liaSteps := 300000) | lia)) ?_
                    rintro ⟨y, hz⟩ ⟨Tz, g0, g1, g2, g3⟩
                    try dsimp only at *
                    exact ⟨Tz, (by clear ih; first | with_reducible assumption | grind | grind (ematch := 40) (gen := 40) (liaSteps := 300000) | lia), (by clear ih; first | with_reducible assumption | grind | grind (ematch := 40) (gen := 40) (liaSteps := 300000) | lia), (by clear ih; first | with_reducible assumption | grind | grind (ematch := 40) (gen := 40) (liaSteps := 300000) | lia), (by clear ih; first | with_reducible assumption | grind | grind (ematch := 40) (gen := 40) (liaSteps := 300000) | lia)⟩
                  · skip
                    refine qk_some ?_
                    exact ⟨T, (by clear ih; first | with_reducible assumption | grind | grind (ematch := 40) (gen := 40) (liaSteps := 300000) | lia), (by clear ih; first | with_reducible assumption | grind | grind (ematch := 40) (gen := 40) (liaSteps := 300000) | lia), (by clear ih; first | with_reducible assumption | grind | grind (ematch := 40) (gen := 40) (liaSteps := 300000) | lia), (by clear ih; first | with_reducible assumption | grind | grind (ematch := 40) (gen := 40) (liaSteps := 300000) | lia)⟩
          · skip
            unfold f_Pa_readFlags_70
            refine qk_if (fun cc18 => ?_) (fun cc18 => ?_)
            · skip
              refine qk_some ?_
              exact ⟨T, (by clear ih; first | with_reducible assumption | grind | grind (ematch := 40) (gen := 40) (liaSteps := 300000) | lia), (by clear ih; first | with_reducible assumption | grind | grind (ematch := 40) (gen := 40) (liaSteps := 300000) | lia), (by clear ih; first | with_reducible assumption | grind | grind (ematch := 40) (gen := 40) (liaSteps := 300000) | lia), (by clear ih; first | with_reducible assumption | grind | grind (ematch := 40) (gen := 40) (liaSteps := 300000) | lia)⟩
            · skip
              refine qk_if (fun cc19 => ?_) (fun cc19 => ?_)
              · skip
                refine qk_some ?_
                exact ⟨T, (by clear ih; first | with_reducible assumption | grind | grind (ematch := 40) (gen := 40) (liaSteps := 300000) | lia), (by clear ih; first | with_reducible assumption | grind | grind (ematch := 40) (gen := 40) (liaSteps := 300000) | lia), (by clear ih; first | with_reducible assumption | grind | grind (ematch := 40) (gen := 40) (liaSteps := 300000) | lia), (by clear ih; first | with_reducible assumption | grind | grind (ematch := 40) (gen := 40) (liaSteps := 300000) | lia)⟩
              · skip
                refine r_Pa_6 T kv0 pcm ?_
                refine r_Cmd_14 T kcm ?_
                intro x4i17 ex4i17
                subst ex4i17
                refine qk_if (fun cc20 => ?_) (fun cc20 => ?_)
                · skip
                  refine r_Pa_6 T kv0 pcm ?_
                  refine w_Cmd_14 T kcm (by clear ih; first | with_reducible assumption | grind | grind (ematch := 40) (gen := 40) (liaSteps := 300000) | lia) ?_
                  intro h7i17 Th7i17 ih7i17 ah7i17
                  unfold f_Pa_readFlags_108
                  refine r_Pa_0 Th7i17 kv0 ?_
                  intro kx1i21
                  refine r_Cur_1 Th7i17 kx1i21 ?_
                  intro x2i21 ex2i21 lx2i21 ux2i21
                  subst ex2i21
                  refine w_Cur_1 Th7i17 kx1i21 (by clear ih; first | with_reducible assumption | grind | grind (ematch := 40) (gen := 40) (liaSteps := 300000) | lia) (q_inc01 (Th7i17.2.2.2.1 _ 1) (q_CCur Th7i17 kx1i21)) (by first | exact q_inc1 (by clear ih; first | with_reducible assumption | grind -lia | grind) (q_inc00 (Th7i17.2.2.2.1 _ 1) (q_CCur Th7i17 kx1i21)) | exact q_inc1b (by clear ih; first | with_reducible assumption | grind -lia | grind) (q_inc00 (Th7i17.2.2.2.1 _ 1) (q_CCur Th7i17 kx1i21))) ?_
                  intro h3i21 Th3i21 ih3i21 ah3i21
                  refine qk_bs ?_
                  refine qk_mono (ih (v0) ((v1 + 1)) h3i21 Th3i21 kv0 kpg ppg kcm pcm ptx (by clear ih; first | with_reducible assumption | grind | grind (ematch := 40) (gen := 40) (liaSteps := 300000) | lia) (by clear ih; first | with_reducible assumption | grind | grind (ematch := 40) (gen := 40) (liaSteps := 300000) | lia) (by clear ih; first | with_reducible assumption | grind | grind (ematch := 40) (gen := 40) (liaSteps := 300000) | lia) (by clear ih; first | with_reducible assumption | grind | grind (ematch := 40) (gen := 40) (liaSteps := 300000) | lia) (by clear ih; first | with_reducible assumption | grind | grind (ematch := 40) (gen := 40) (liaSteps := 300000) | lia) (by clear ih; first | with_reducible assumption | grind | grind (ematch := 40) (gen := 40) (liaSteps := 300000) | lia) (by clear ih; first | with_reducible assumption | grind | grind (ematch := 40) (gen := 40) (liaSteps := 300000) | lia)) ?_
                  rintro ⟨y, hz⟩ ⟨Tz, g0, g1, g2, g3⟩
                  try dsimp only at *
                  exact ⟨Tz, (by clear ih; first | with_reducible assumption | grind | grind (ematch := 40) (gen := 40) (liaSteps := 300000) | lia), (by clear ih; first | with_reducible assumption | grind | grind (ematch := 40) (gen := 40) (liaSteps := 300000) | lia), (by clear ih; first | with_reducible assumption | grind | grind (ematch := 40) (gen := 40) (liaSteps := 300000) | lia), (by clear ih; first | with_reducible assumption | grind | grind (ematch := 40) (gen := 40) (liaSteps := 300000) | lia)⟩
                · skip
                  refine qk_some ?_
                  exact ⟨T, (by clear ih; first | with_reducible assumption | grind | grind (ematch := 40) (gen := 40) (liaSteps := 300000) | lia), (by clear ih; first | with_reducible assumption | grind | grind (ematch := 40) (gen := 40) (liaSteps := 300000) | lia), (by clear ih; first | with_reducible assumption | grind | grind (ematch := 40) (gen := 40) (liaSteps := 300000) | lia), (by clear ih; first | with_reducible assumption | grind | grind (ematch := 40) (gen := 40) (liaSteps := 300000) | lia)⟩
      · skip
        unfold f_Pa_readFlags_43
        refine qk_if (fun cc24 => ?_) (fun cc24 => ?_)
        · skip
          refine r_Pa_6 T kv0 pcm ?_
          refine r_Cmd_13 T kcm ?_
          intro x3i23 ex3i23
          subst ex3i23
          refine qk_if (fun cc25 => ?_) (fun cc25 => ?_)
          · skip
            refine r_Pa_6 T kv0 pcm ?_
            refine w_Cmd_13 T kcm (by clear ih; first | with_reducible assumption | grind | grind (ematch := 40) (gen := 40) (liaSteps := 300000) | lia) ?_
            intro h6i23 Th6i23 ih6i23 ah6i23
            unfold f_Pa_readFlags_108
            refine r_Pa_0 Th6i23 kv0 ?_
            intro kx1i26
            refine r_Cur_1 Th6i23 kx1i26 ?_
            intro x2i26 ex2i26 lx2i26 ux2i26
            subst ex2i26
            refine w_Cur_1 Th6i23 kx1i26 (by clear ih; first | with_reducible assumption | grind | grind (ematch := 40) (gen := 40) (liaSteps := 300000) | lia) (q_inc01 (Th6i23.2.2.2.1 _ 1) (q_CCur Th6i23 kx1i26)) (by first | exact q_inc1 (by clear ih; first | with_reducible assumption | grind -lia | grind) (q_inc00 (Th6i23.2.2.2.1 _ 1) (q_CCur Th6i23 kx1i26)) | exact q_inc1b (by clear ih; first | with_reducible assumption | grind -lia | grind) (q_inc00 (Th6i23.2.2.2.1 _ 1) (q_CCur Th6i23 kx1i26))) ?_
            intro h3i26 Th3i26 ih3i26 ah3i26
            refine qk_bs ?_
            refine qk_mono (ih (v0) ((v1 + 1)) h3i26 Th3i26 kv0 kpg ppg kcm pcm ptx (by clear ih; first | with_reducible assumption | grind | grind (ematch := 40) (gen := 40) (liaSteps := 300000) | lia) (by clear ih; first | with_reducible assumption | grind | grind (ematch := 40) (gen := 40) (liaSteps := 300000) | lia) (by clear ih; first | with_reducible assumption | grind | grind (ematch := 40) (gen := 40) (liaSteps := 300000) | lia) (by clear ih; first | with_reducible assumption | grind | grind (ematch := 40) (gen := 40) (liaSteps := 300000) | lia) (by clear ih; first | with_reducible assumption | grind | grind (ematch := 40) (gen := 40) (liaSteps := 300000) | lia) (by clear ih; first | with_reducible assumption | grind | grind (ematch := 40) (gen := 40) (liaSteps := 300000) | lia) (by clear ih; first | with_reducible assumption | grind | grind (ematch := 40) (gen := 40) (liaSteps := 300000) | lia)) ?_
            rintro ⟨y, hz⟩ ⟨Tz, g0, g1, g2, g3⟩
            try dsimp only at *
            exact ⟨Tz, (by clear ih; first | with_reducible assumption | grind | grind (ematch := 40) (gen := 40) (liaSteps := 300000) | lia), (by clear ih; first | with_reducible assumption | grind | grind (ematch := 40) (gen := 40) (liaSteps := 300000) | lia), (by clear ih; first | with_reducible assumption | grind | grind (ematch := 40) (gen := 40) (liaSteps := 300000) | lia), (by clear ih; first | with_reducible assumption | grind | grind (ematch := 40) (gen := 40) (liaSteps := 300000) | lia)⟩
          · skip
            unfold f_Pa_readFlags_70
            refine qk_if (fun cc29 => ?_) (fun cc29 => ?_)
            · skip
              refine qk_some ?_
              exact ⟨T, (by clear ih; first | with_reducible assumption | grind | grind (ematch := 40) (gen := 40) (liaSteps := 300000) | lia), (by clear ih; first | with_reducible assumption | grind | grind (ematch := 40) (gen := 40) (liaSteps := 300000) | lia), (by clear ih; first | with_reducible assumption | grind | grind (ematch := 40) (gen := 40) (liaSteps := 300000) | lia), (by clear ih; first | with_reducible assumption | grind | grind (ematch := 40) (gen := 40) (liaSteps := 300000) | lia)⟩
            · skip
              refine qk_if (fun cc30 => ?_) (fun cc30 => ?_)
              · skip
                refine qk_some ?_
                exact ⟨T, (by clear ih; first | with_reducible assumption | grind | grind (ematch := 40) (gen := 40) (liaSteps := 300000) | lia), (by clear ih; first | with_reducible assumption | grind | grind (ematch := 40) (gen := 40) (liaSteps := 300000) | lia), (by clear ih; first | with_reducible assumption | grind | grind (ematch := 40) (gen := 40) (liaSteps := 300000) | lia), (by clear ih; first | with_reducible assumption | grind | grind (ematch := 40) (gen := 40) (liaSteps := 300000) | lia)⟩
              · skip
                refine r_Pa_6 T kv0 pcm ?_
                refine r_Cmd_14 T kcm ?_
                intro x4i28 ex4i28
                subst ex4i28
                refine qk_if (fun cc31 => ?_) (fun cc31 => ?_)
                · skip
                  refine r_Pa_6 T kv0 pcm ?_
                  refine w_Cmd_14 T kcm (by clear ih; first | with_reducible assumption | grind | grind (ematch := 40) (gen := 40) (liaSteps := 300000) | lia) ?_
                  intro h7i28 Th7i28 ih7i28 ah7i28
                  unfold f_Pa_readFlags_108
                  refine r_Pa_0 Th7i28 kv0 ?_
                  intro kx1i32
                  refine r_Cur_1 Th7i28 kx1i32 ?_
                  intro x2i32 ex2i32 lx2i32 ux2i32
                  subst ex2i32
                  refine w_Cur_1 Th7i28 kx1i32 (by clear ih; first | with_reducible assumption | grind | grind (ematch := 40) (gen := 40) (liaSteps := 300000) | lia) (q_inc01 (Th7i28.2.2.2.1 _ 1) (q_CCur Th7i28 kx1i32)) (by first | exact q_inc1 (by clear ih; first | with_reducible assumption | grind -lia | grind) (q_inc00 (Th7i28.2.2.2.1 _ 1) (q_CCur Th7i28 kx1i32)) | exact q_inc1b (by clear ih; first | with_reducible assumption | grind -lia | grind) (q_inc00 (Th7i28.2.2.2.1 _ 1) (q_CCur Th7i28 kx1i32))) ?_
                  intro h3i32 Th3i32 ih3i32 ah3i32
                  refine qk_bs ?_
                  refine qk_mono (ih (v0) ((v1 + 1)) h3i32 Th3i32 kv0 kpg ppg kcm pcm ptx (by clear ih; first | with_reducible assumption | grind | grind (ematch := 40) (gen := 40) (liaSteps := 300000) | lia) (by clear ih; first | with_reducible assumption | grind | grind (ematch := 40) (gen := 40) (liaSteps := 300000) | lia) (by clear ih; first | with_reducible assumption | grind | grind (ematch := 40) (gen := 40) (liaSteps := 300000) | lia) (by clear ih; first | with_reducible assumption | grind | grind (ematch := 40) (gen := 40) (liaSteps := 300000) | lia) (by clear ih; first | with_reducible assumption | grind | grind (ematch := 40) (gen := 40) (liaSteps := 300000) | lia) (by clear ih; first | with_reducible assumption | grind | grind (ematch := 40) (gen := 40) (liaSteps := 300000) | lia) (by clear ih; first | with_reducible assumption | grind | grind (ematch := 40) (gen := 40) (liaSteps := 300000) | lia)) ?_
                  rintro ⟨y, hz⟩ ⟨Tz, g0, g1, g2, g3⟩
                  try dsimp only at *
                  exact ⟨Tz, (by clear ih; first | with_reducible assumption | grind | grind (ematch := 40) (gen := 40) (liaSteps := 300000) | lia), (by clear ih; first | with_reducible assumption | grind | grind (ematch := 40) (gen := 40) (liaSteps := 300000) | lia), (by clear ih; first | with_reducible assumption | grind | grind (ematch := 40) (gen := 40) (liaSteps := 300000) | lia), (by clear ih; first | with_reducible assumption | grind | grind (ematch := 40) (gen := 40) (liaSteps := 300000) | lia)⟩
                · skip
                  refine qk_some ?_
                  exact ⟨T, (by clear ih; first | with_reducible assumption | grind | grind (ematch := 40) (gen := 40) (liaSteps := 300000) | lia), (by clear ih; first | with_reducible assumption | grind | grind (ematch := 40) (gen := 40) (liaSteps := 300000) | lia), (by clear ih; first | with_reducible assumption | grind | grind (ematch := 40) (gen := 40) (liaSteps := 300000) | lia), (by clear ih; first | with_reducible assumption | grind | grind (ematch := 40) (gen := 40) (liaSteps := 300000) | lia)⟩
        · skip
          unfold f_Pa_readFlags_70
          refine qk_if (fun cc35 => ?_) (fun cc35 => ?_)
          · skip
            refine qk_some ?_
            exact ⟨T, (by clear ih; first | with_reducible assumption | grind | grind (ematch := 40) (gen := 40) (liaSteps := 300000) | lia), (by clear ih; first | with_reducible assumption | grind | grind (ematch := 40) (gen := 40) (liaSteps := 300000) | lia), (by clear ih; first | with_reducible assumption | grind | grind (ematch := 40) (gen := 40) (liaSteps := 300000) | lia), (by clear ih; first | with_reducible assumption | grind | grind (ematch := 40) (gen := 40) (liaSteps := 300000) | lia)⟩
          · skip
            refine qk_if (fun cc36 => ?_) (fun cc36 => ?_)
            · skip
              refine qk_some ?_
              exact ⟨T, (by clear ih; first | with_reducible assumption | grind | grind (ematch := 40) (gen := 40) (liaSteps := 300000) | lia), (by clear ih; first | with_reducible assumption | grind | grind (ematch := 40) (gen := 40) (liaSteps := 300000) | lia), (by clear ih; first | with_reducible assumption | grind | grind (ematch := 40) (gen := 40) (liaSteps := 300000) | lia), (by clear ih; first | with_reducible assumption | grind | grind (ematch := 40) (gen := 40) (liaSteps := 300000) | lia)⟩
            · skip
              refine r_Pa_6 T kv0 pcm ?_
              refine r_Cmd_14 T kcm ?_
              intro x4i34 ex4i34
              subst ex4i34
              refine qk_if (fun cc37 => ?_) (fun cc37 => ?_)
              · skip
                refine r_Pa_6 T kv0 pcm ?_
                refine w_Cmd_14 T kcm (by clear ih; first | with_reducible assumption | grind | grind (ematch := 40) (gen := 40) (liaSteps := 300000) | lia) ?_
                intro h7i34 Th7i34 ih7i34 ah7i34
                unfold f_Pa_readFlags_108
                refine r_Pa_0 Th7i34 kv0 ?_
                intro kx1i38
                refine r_Cur_1 Th7i34 kx1i38 ?_
                intro x2i38 ex2i38 lx2i38 ux2i38
                subst ex2i38
                refine w_Cur_1 Th7i34 kx1i38 (by clear ih; first | with_reducible assumption | grind | grind (ematch := 40) (gen := 40) (liaSteps := 300000) | lia) (q_inc01 (Th7i34.2.2.2.1 _ 1) (q_CCur Th7i34 kx1i38)) (by first | exact q_inc1 (by clear ih; first | with_reducible assumption | grind -lia | grind) (q_inc00 (Th7i34.2.2.2.1 _ 1) (q_CCur Th7i34 kx1i38)) | exact q_inc1b (by clear ih; first | with_reducible assumption | grind -lia | grind) (q_inc00 (Th7i34.2.2.2.1 _ 1) (q_CCur Th7i34 kx1i38))) ?_
                intro h3i38 Th3i38 ih3i38 ah3i38
                refine qk_bs ?_
                refine qk_mono (ih (v0) ((v1 + 1)) h3i38 Th3i38 kv0 kpg ppg kcm pcm ptx (by clear ih; first | with_reducible assumption | grind | grind (ematch := 40) (gen := 40) (liaSteps := 300000) | lia) (by clear ih; first | with_reducible assumption | grind | grind (ematch := 40) (gen := 40) (liaSteps := 300000) | lia) (by clear ih; first | with_reducible assumption | grind | grind (ematch := 40) (gen := 40) (liaSteps := 300000) | lia) (by clear ih; first | with_reducible assumption | grind | grind (ematch := 40) (gen := 40) (liaSteps := 300000) | lia) (by clear ih; first | with_reducible assumption | grind | grind (ematch := 40) (gen := 40) (liaSteps := 300000) | lia) (by clear ih; first | with_reducible assumption | grind | grind (ematch := 40) (gen := 40) (liaSteps := 300000) | lia) (by clear ih; first | with_reducible assumption | grind | grind (ematch := 40) (gen := 40) (liaSteps := 300000) | lia)) ?_
                rintro ⟨y, hz⟩ ⟨Tz, g0, g1, g2, g3⟩
                try dsimp only at *
                exact ⟨Tz, (by clear ih; first | with_reducible assumption | grind | grind (ematch := 40) (gen := 40) (liaSteps := 300000) | lia), (by clear ih; first | with_reducible assumption | grind | grind (ematch := 40) (gen := 40) (liaSteps := 300000) | lia), (by clear ih; first | with_reducible assumption | grind | grind (ematch := 40) (gen := 40) (liaSteps := 300000) | lia), (by clear ih; first | with_reducible assumption | grind | grind (ematch := 40) (gen := 40) (liaSteps := 300000) | lia)⟩
              · skip
                refine qk_some ?_
                exact ⟨T, (by clear ih; first | with_reducible assumption | grind | grind (ematch := 40) (gen := 40) (liaSteps := 300000) | lia), (by clear ih; first | with_reducible assumption | grind | grind (ematch := 40) (gen := 40) (liaSteps := 300000) | lia), (by clear ih; first | with_reducible assumption | grind | grind (ematch := 40) (gen := 40) (liaSteps := 300000) | lia), (by clear ih; first | with_reducible assumption | grind | grind (ematch := 40) (gen := 40) (liaSteps := 300000) | lia)⟩
theorem p_Pa_readFlags_2 {L : q_L} {W : Nat → Prop} {h0 : z_H} {π : Nat → Nat → Option Nat} {N : Nat} {pg : Nat} {cm : Nat} {h : z_H} {v0 : Nat} {v1 : Int32} (T : q_U L W h0 π h) (kv0 : qκ L v0 = 7) (kpg : qκ L pg = 10) (ppg : π v0 5 = some pg) (kcm : qκ L cm = 2) (pcm : π v0 6 = some cm) (ptx : π (v0 + 1) 0 = some (pg + 1)) (wP : ∀ a, v0 ≤ a → a < v0 + 5 → W a) (wG : ∀ a, pg ≤ a → a < pg + 249 → W a) (hc1 : pg + 9 ≤ cm) (hc2 : cm + 6 ≤ pg + 249) (b0 : 0 ≤ v1) (b1 : v1 ≤ 3) (hN : 100000 ≤ N) : qk (f_Pa_readFlags_2 N  N v0 v1 h) (fun r => q_U L W h0 π r.2 ∧ (r.1 = 1) ∧ (∀ a k, ¬ ((a = v0 + 1 ∧ k = 1) ∨ (a = cm ∧ (k = 12 ∨ k = 13 ∨ k = 14))) → vI r.2 a k = vI h a k) ∧ (∀ a j, vA r.2 a j = vA h a j) ∧ (r.1 = 1 → vI h (v0 + 1) 1 ≤ vI r.2 (v0 + 1) 1)) := by
  have hq := q_qnN hN
  refine p_Pa_readFlags_2_n (q_lo (M := 4) (by decide) (by decide)) N v0 v1 h T kv0 kpg ppg kcm pcm ptx wP wG hc1 hc2 b0 b1 ?_ 
  show 4 - q_n N ≤ _
  rw [hq]
  lia

set_option maxHeartbeats 2000000 in
theorem p_Pa_readFlags {L : q_L} {W : Nat → Prop} {h0 : z_H} {π : Nat → Nat → Option Nat} {N : Nat} {pg : Nat} {cm : Nat} {h : z_H} {v0 : Nat} (T : q_U L W h0 π h) (kv0 : qκ L v0 = 7) (kpg : qκ L pg = 10) (ppg : π v0 5 = some pg) (kcm : qκ L cm = 2) (pcm : π v0 6 = some cm) (ptx : π (v0 + 1) 0 = some (pg + 1)) (wP : ∀ a, v0 ≤ a → a < v0 + 5 → W a) (wG : ∀ a, pg ≤ a → a < pg + 249 → W a) (hc1 : pg + 9 ≤ cm) (hc2 : cm + 6 ≤ pg + 249) (hN : 100000 ≤ N) : qk (f_Pa_readFlags N v0 h) (fun r => q_U L W h0 π r.2 ∧ (r.1 = 1) ∧ (∀ a k, ¬ ((a = v0 + 1 ∧ k = 1) ∨ (a = cm ∧ (k = 12 ∨ k = 13 ∨ k = 14))) → vI r.2 a k = vI h a k) ∧ (∀ a j, vA r.2 a j = vA h a j) ∧ (r.1 = 1 → vI h (v0 + 1) 1 ≤ vI r.2 (v0 + 1) 1)) := by
  unfold f_Pa_readFlags
  refine qk_mono (p_Pa_readFlags_2 (v0 := v0) (v1 := 0) (pg := pg) (cm := cm) T kv0 kpg ppg kcm pcm ptx (by first | with_reducible assumption | grind | grind (ematch := 40) (gen := 40) (liaSteps := 300000) | lia) (by first | with_reducible assumption | grind | grind (ematch := 40) (gen := 40) (liaSteps := 300000) | lia) (by first | with_reducible assumption | grind | grind (ematch := 40) (gen := 40) (liaSteps := 300000) | lia) (by first | with_reducible assumption | grind | grind (ematch := 40) (gen := 40) (liaSteps := 300000) | lia) (by first | with_reducible assumption | grind | grind (ematch := 40) (gen := 40) (liaSteps := 300000) | lia) (by first | with_reducible assumption | grind | grind (ematch := 40) (gen := 40) (liaSteps := 300000) | lia) (by first | with_reducible assumption | grind | grind (ematch := 40) (gen := 40) (liaSteps := 300000) | lia)) ?_
  rintro ⟨y, hz⟩ ⟨Tz, g0, g1, g2, g3⟩
  try dsimp only at *
  exact ⟨Tz, (by first | with_reducible assumption | grind | grind (ematch := 40) (gen := 40) (liaSteps := 300000) | lia), (by first | with_reducible assumption | grind | grind (ematch := 40) (gen := 40) (liaSteps := 300000) | lia), (by first | with_reducible assumption | grind | grind (ematch := 40) (gen := 40) (liaSteps := 300000) | lia), (by first | with_reducible assumption | grind | grind (ematch := 40) (gen := 40) (liaSteps := 300000) | lia)⟩
theorem c_Pa_readFlags {L : q_L} {W : Nat → Prop} {h0 : z_H} {π : Nat → Nat → Option Nat} {N : Nat} {pg : Nat} {cm : Nat} {h : z_H} {v0 : Nat} {β : Type} {f : Int32 × z_H → Option β} {Q : β → Prop} (T : q_U L W h0 π h) (kv0 : qκ L v0 = 7) (kpg : qκ L pg = 10) (ppg : π v0 5 = some pg) (kcm : qκ L cm = 2) (pcm : π v0 6 = some cm) (ptx : π (v0 + 1) 0 = some (pg + 1)) (wP : ∀ a, v0 ≤ a → a < v0 + 5 → W a) (wG : ∀ a, pg ≤ a → a < pg + 249 → W a) (hc1 : pg + 9 ≤ cm) (hc2 : cm + 6 ≤ pg + 249) (hN : 100000 ≤ N) (H : ∀ y h', q_U L W h0 π h' → (y = 1) → (∀ a k, ¬ ((a = v0 + 1 ∧ k = 1) ∨ (a = cm ∧ (k = 12 ∨ k = 13 ∨ k = 14))) → vI h' a k = vI h a k) → (∀ a j, vA h' a j = vA h a j) → (y = 1 → vI h (v0 + 1) 1 ≤ vI h' (v0 + 1) 1) → qk (f (y, h')) Q) : qk (z_b (f_Pa_readFlags N v0 h) f) Q := by
  refine qk_b (p_Pa_readFlags T kv0 kpg ppg kcm pcm ptx wP wG hc1 hc2 hN) ?_
  rintro ⟨y, hz⟩ ⟨Tz, g0, g1, g2, g3⟩
  exact H y hz Tz g0 g1 g2 g3

set_option maxHeartbeats 1000000 in
theorem p_Pa_wasExchanged_8_n {L : q_L} {W : Nat → Prop} {h0 : z_H} {π : Nat → Nat → Option Nat} {N : Nat} {pg : Nat} {lo : Nat → Int32} (hqn : q_Q lo 243) : ∀ (n : Nat) (v0 : Nat) (v1 : Int32) (v2 : Int32) (h : z_H), q_U L W h0 π h → qκ L v0 = 7 → (qκ L pg = 10) → (π v0 5 = some pg) → (0 ≤ v2) → (v2 ≤ 242) → (lo n ≤ v2) → qk (f_Pa_wasExchanged_8 N  n v0 v1 v2 h) (fun r => r.2 = h ∧ (r.1 = 0 ∨ r.1 = 1)) := by
  intro n
  induction n with
  | zero => intro v0 v1 v2 h T kv0 kpg ppg b0 b1 hms; have hz := hqn.1; exact absurd hms (by grind)
  | succ n ih =>
    intro v0 v1 v2 h T kv0 kpg ppg b0 b1 hms
    obtain ⟨hq1, hq2, hq3⟩ := hqn.2 n
    rw [f_Pa_wasExchanged_8]
    obtain ⟨kcu, kpr, cpa1, cpa2, cpa3, cpa4, cpa5⟩ := q_CPa T kv0
    refine r_Pa_0 T kv0 ?_
    intro kx1
    refine r_Cur_1 T kx1 ?_
    intro x2 ex2 lx2 ux2
    subst ex2
    refine qk_if (fun cc1 => ?_) (fun cc1 => ?_)
    · skip
      refine qk_some ?_
      exact ⟨rfl, (by clear ih; first | with_reducible assumption | grind | grind (ematch := 40) (gen := 40) (liaSteps := 300000) | lia)⟩
    · skip
      refine r_Pa_5 T kv0 ppg ?_
      refine r_Prog_0 T kpg ?_
      intro kx5 px5
      refine r_Row_o T kx5 ?_
      refine c_Row_at (v0 := (pg + 1)) (v1 := v2) T kx5 ?_
      intro yr7 gr7_0
      dsimp only
      refine qk_if (fun cc2 => ?_) (fun cc2 => ?_)
      · skip
        refine qk_some ?_
        exact ⟨rfl, (by clear ih; first | with_reducible assumption | grind | grind (ematch := 40) (gen := 40) (liaSteps := 300000) | lia)⟩
      · skip
        refine qk_bs ?_
        refine qk_mono (ih (v0) (v1) ((v2 + 1)) h T kv0 kpg ppg (by clear ih; first | with_reducible assumption | grind | grind (ematch := 40) (gen := 40) (liaSteps := 300000) | lia) (by clear ih; first | with_reducible assumption | grind | grind (ematch := 40) (gen := 40) (liaSteps := 300000) | lia) (by clear ih; first | with_reducible assumption | grind | grind (ematch := 40) (gen := 40) (liaSteps := 300000) | lia)) ?_
        rintro ⟨y, hz⟩ ⟨rfl, g0⟩
        try dsimp only at *
        exact ⟨rfl, (by clear ih; first | with_reducible assumption | grind | grind (ematch := 40) (gen := 40) (liaSteps := 300000) | lia)⟩
theorem p_Pa_wasExchanged_8 {L : q_L} {W : Nat → Prop} {h0 : z_H} {π : Nat → Nat → Option Nat} {N : Nat} {pg : Nat} {h : z_H} {v0 : Nat} {v1 : Int32} {v2 : Int32} (T : q_U L W h0 π h) (kv0 : qκ L v0 = 7) (kpg : qκ L pg = 10) (ppg : π v0 5 = some pg) (b0 : 0 ≤ v2) (b1 : v2 ≤ 242) (hN : 100000 ≤ N) : qk (f_Pa_wasExchanged_8 N  N v0 v1 v2 h) (fun r => r.2 = h ∧ (r.1 = 0 ∨ r.1 = 1)) := by
  have hq := q_qnN hN
  refine p_Pa_wasExchanged_8_n (q_lo (M := 243) (by decide) (by decide)) N v0 v1 v2 h T kv0 kpg ppg b0 b1 ?_ 
  show 243 - q_n N ≤ _
  rw [hq]
  lia

set_option maxHeartbeats 1000000 in
theorem p_Pa_wasExchanged {L : q_L} {W : Nat → Prop} {h0 : z_H} {π : Nat → Nat → Option Nat} {N : Nat} {pg : Nat} {cm : Nat} {h : z_H} {v0 : Nat} {v1 : Int32} (T : q_U L W h0 π h) (kv0 : qκ L v0 = 7) (kpg : qκ L pg = 10) (ppg : π v0 5 = some pg) (kcm : qκ L cm = 2) (pcm : π v0 6 = some cm) (hN : 100000 ≤ N) : qk (f_Pa_wasExchanged N v0 v1 h) (fun r => r.2 = h ∧ (r.1 = 0 ∨ r.1 = 1)) := by
  unfold f_Pa_wasExchanged
  refine r_Pa_6 T kv0 pcm ?_
  refine r_Cmd_9 T kcm ?_
  intro x2 ex2 lx2 ux2
  subst ex2
  refine qk_mono (p_Pa_wasExchanged_8 (v0 := v0) (v1 := v1) (v2 := (vI h cm 9)) (pg := pg) T kv0 kpg ppg (by first | with_reducible assumption | grind | grind (ematch := 40) (gen := 40) (liaSteps := 300000) | lia) (by first | with_reducible assumption | grind | grind (ematch := 40) (gen := 40) (liaSteps := 300000) | lia) (by first | with_reducible assumption | grind | grind (ematch := 40) (gen := 40) (liaSteps := 300000) | lia)) ?_
  rintro ⟨y, hz⟩ ⟨rfl, g0⟩
  try dsimp only at *
  exact ⟨rfl, (by first | with_reducible assumption | grind | grind (ematch := 40) (gen := 40) (liaSteps := 300000) | lia)⟩
theorem c_Pa_wasExchanged {L : q_L} {W : Nat → Prop} {h0 : z_H} {π : Nat → Nat → Option Nat} {N : Nat} {pg : Nat} {cm : Nat} {h : z_H} {v0 : Nat} {v1 : Int32} {β : Type} {f : Int32 × z_H → Option β} {Q : β → Prop} (T : q_U L W h0 π h) (kv0 : qκ L v0 = 7) (kpg : qκ L pg = 10) (ppg : π v0 5 = some pg) (kcm : qκ L cm = 2) (pcm : π v0 6 = some cm) (hN : 100000 ≤ N) (H : ∀ y, (y = 0 ∨ y = 1) → qk (f (y, h)) Q) : qk (z_b (f_Pa_wasExchanged N v0 v1 h) f) Q := by
  refine qk_b (p_Pa_wasExchanged T kv0 kpg ppg kcm pcm hN) ?_
  rintro ⟨y, hz⟩ ⟨hy, g0⟩
  try dsimp only at *
  subst hy
  exact H y g0

set_option maxHeartbeats 2000000 in
theorem p_Pa_readExchange_169_n {L : q_L} {W : Nat → Prop} {h0 : z_H} {π : Nat → Nat → Option Nat} {N : Nat} {pg : Nat} {cm : Nat} {lo : Nat → Int32} (hqn : q_Q lo 244) : ∀ (n : Nat) (v0 : Nat) (v1 : Int32) (h : z_H), q_U L W h0 π h → qκ L v0 = 7 → (qκ L pg = 10) → (π v0 5 = some pg) → (qκ L cm = 2) → (π v0 6 = some cm) → (π (v0 + 1) 0 = some (pg + 1)) → (∀ a, v0 ≤ a → a < v0 + 5 → W a) → (∀ a, pg ≤ a → a < pg + 249 → W a) → (pg + 9 ≤ cm) → (cm + 6 ≤ pg + 249) → (0 ≤ v1) → (v1 ≤ 243) → (lo n ≤ v1) → qk (f_Pa_readExchange_169 N  n v0 v1 h) (fun r => q_U L W h0 π r.2 ∧ (r.1 = 0 ∨ r.1 = 1) ∧ (∀ a k, ¬ ((a = v0 + 1 ∧ (k = 1 ∨ k = 2)) ∨ (a = cm ∧ (k = 9 ∨ k = 10 ∨ k = 11))) → vI r.2 a k = vI h a k) ∧ (∀ a j, vA r.2 a j = vA h a j) ∧ (r.1 = 1 → vI h (v0 + 1) 1 ≤ vI r.2 (v0 + 1) 1)) := by
  intro n
  induction n with
  | zero => intro v0 v1 h T kv0 kpg ppg kcm pcm ptx wP wG hc1 hc2 b0 b1 hms; have hz := hqn.1; exact absurd hms (by grind)
  | succ n ih =>
    intro v0 v1 h T kv0 kpg ppg kcm pcm ptx wP wG hc1 hc2 b0 b1 hms
    obtain ⟨hq1, hq2, hq3⟩ := hqn.2 n
    rw [f_Pa_readExchange_169]
    obtain ⟨kcu, kpr, cpa1, cpa2, cpa3, cpa4, cpa5⟩ := q_CPa T kv0
    obtain ⟨ktx, ctx, kit, cpg1, cpg2, cpg3⟩ := q_CProg T kpg
    obtain ⟨kc1, kc3, kc5, cc9⟩ := q_CCmd T kcm
    refine r_Pa_6 T kv0 pcm ?_
    refine r_Cmd_10 T kcm ?_
    intro x2 ex2 lx2 ux2
    subst ex2
    refine qk_if (fun cc1 => ?_) (fun cc1 => ?_)
    · skip
      refine r_Pa_0 T kv0 ?_
      intro kx4
      refine r_Cur_o T kx4 ?_
      refine c_Cur_pass (v0 := (v0 + 1)) (v1 := 47) (tx := (pg + 1)) T kx4 ktx ptx (by clear ih; first | with_reducible assumption | grind | grind (ematch := 40) (gen := 40) (liaSteps := 300000) | lia) (by clear ih; first | with_reducible assumption | grind | grind (ematch := 40) (gen := 40) (liaSteps := 300000) | lia) (by clear ih; first | with_reducible assumption | grind | grind (ematch := 40) (gen := 40) (liaSteps := 300000) | lia) ?_
      intro yr6 hr6 Tr6 gr6_0 gr6_1 gr6_2 gr6_3 gr6_4 gr6_5 gr6_6
      dsimp only
      refine qk_zB (by clear ih; first | with_reducible assumption | grind | grind (ematch := 40) (gen := 40) (liaSteps := 300000) | lia) ?_
      refine qk_some ?_
      exact ⟨Tr6, (by clear ih; first | with_reducible assumption | grind | grind (ematch := 40) (gen := 40) (liaSteps := 300000) | lia), (by clear ih; first | with_reducible assumption | grind | grind (ematch := 40) (gen := 40) (liaSteps := 300000) | lia), (by clear ih; first | with_reducible assumption | grind | grind (ematch := 40) (gen := 40) (liaSteps := 300000) | lia), (by clear ih; first | with_reducible assumption | grind | grind (ematch := 40) (gen := 40) (liaSteps := 300000) | lia)⟩
    · skip
      refine r_Pa_0 T kv0 ?_
      intro kx8
      refine r_Cur_o T kx8 ?_
      refine c_Cur_look (v0 := (v0 + 1)) (v1 := 0) (tx := (pg + 1)) T kx8 ktx ptx (by clear ih; first | with_reducible assumption | grind | grind (ematch := 40) (gen := 40) (liaSteps := 300000) | lia) (by clear ih; first | with_reducible assumption | grind | grind (ematch := 40) (gen := 40) (liaSteps := 300000) | lia) (by clear ih; first | with_reducible assumption | grind | grind (ematch := 40) (gen := 40) (liaSteps := 300000) | lia) ?_
      intro yr10 gr10_0 gr10_1 gr10_2 gr10_3 gr10_4
      simp only [Int32.add_zero] at gr10_2 gr10_3 gr10_4
      dsimp only
      refine qk_if (fun cc2 => ?_) (fun cc2 => ?_)
      · skip
        unfold f_Pa_readExchange_207
        refine r_Pa_0 T kv0 ?_
        intro kx1i3
        refine r_Cur_o T kx1i3 ?_
        refine c_Cur_refuse (v0 := (v0 + 1)) (v1 := 0) T kx1i3 (by clear ih; first | with_reducible assumption | grind | grind (ematch := 40) (gen := 40) (liaSteps := 300000) | lia) ?_
        intro yr3i3 hr3i3 Tr3i3 gr3i3_0 gr3i3_1 gr3i3_2
        dsimp only
        refine qk_zB (by clear ih; first | with_reducible assumption | grind | grind (ematch := 40) (gen := 40) (liaSteps := 300000) | lia) ?_
        refine qk_some ?_
        exact ⟨Tr3i3, (by clear ih; first | with_reducible assumption | grind | grind (ematch := 40) (gen := 40) (liaSteps := 300000) | lia), (by clear ih; first | with_reducible assumption | grind | grind (ematch := 40) (gen := 40) (liaSteps := 300000) | lia), (by clear ih; first | with_reducible assumption | grind | grind (ematch := 40) (gen := 40) (liaSteps := 300000) | lia), (by clear ih; first | with_reducible assumption | grind | grind (ematch := 40) (gen := 40) (liaSteps := 300000) | lia)⟩
      · skip
        refine r_Pa_0 T kv0 ?_
        intro kx12
        refine r_Cur_o T kx12 ?_
        refine c_Cur_look (v0 := (v0 + 1)) (v1 := 0) (tx := (pg + 1)) T kx12 ktx ptx (by clear ih; first | with_reducible assumption | grind | grind (ematch := 40) (gen := 40) (liaSteps := 300000) | lia) (by clear ih; first | with_reducible assumption | grind | grind (ematch := 40) (gen := 40) (liaSteps := 300000) | lia) (by clear ih; first | with_reducible assumption | grind | grind (ematch := 40) (gen := 40) (liaSteps := 300000) | lia) ?_
        intro yr14 gr14_0 gr14_1 gr14_2 gr14_3 gr14_4
        simp only [Int32.add_zero] at gr14_2 gr14_3 gr14_4
        dsimp only
        refine c_Pa_isExchangeable (v0 := (yr14)) T ?_
        intro yr15 gr15_0 gr15_1
        dsimp only
        refine qk_if (fun cc4 => ?_) (fun cc4 => ?_)
        · skip
          unfold f_Pa_readExchange_207
          refine r_Pa_0 T kv0 ?_
          intro kx1i5
          refine r_Cur_o T kx1i5 ?_
          refine c_Cur_refuse (v0 := (v0 + 1)) (v1 := 0) T kx1i5 (by clear ih; first | with_reducible assumption | grind | grind (ematch := 40) (gen := 40) (liaSteps := 300000) | lia) ?_
          intro yr3i5 hr3i5 Tr3i5 gr3i5_0 gr3i5_1 gr3i5_2
          dsimp only
          refine qk_zB (by clear ih; first | with_reducible assumption | grind | grind (ematch := 40) (gen := 40) (liaSteps := 300000) | lia) ?_
          refine qk_some ?_
          exact ⟨Tr3i5, (by clear ih; first | with_reducible assumption | grind | grind (ematch := 40) (gen := 40) (liaSteps := 300000) | lia), (by clear ih; first | with_reducible assumption | grind | grind (ematch := 40) (gen := 40) (liaSteps := 300000) | lia), (by clear ih; first | with_reducible assumption | grind | grind (ematch := 40) (gen := 40) (liaSteps := 300000) | lia), (by clear ih; first | with_reducible assumption | grind | grind (ematch := 40) (gen := 40) (liaSteps := 300000) | lia)⟩
        · skip
          refine r_Pa_0 T kv0 ?_
          intro kx17
          refine r_Cur_1 T kx17 ?_
          intro x18 ex18 lx18 ux18
          subst ex18
          refine w_Cur_1 T kx17 (by clear ih; first | with_reducible assumption | grind | grind (ematch := 40) (gen := 40) (liaSteps := 300000) | lia) (q_inc01 (T.2.2.2.1 _ 1) (q_CCur T kx17)) (by first | exact q_inc1 (by clear ih; first | with_reducible assumption | grind -lia | grind) (q_inc00 (T.2.2.2.1 _ 1) (q_CCur T kx17)) | exact q_inc1b (by clear ih; first | with_reducible assumption | grind -lia | grind) (q_inc00 (T.2.2.2.1 _ 1) (q_CCur T kx17))) ?_
          intro h19 Th19 ih19 ah19
          refine qk_bs ?_
          refine qk_mono (ih (v0) ((v1 + 1)) h19 Th19 kv0 kpg ppg kcm pcm ptx (by clear ih; first | with_reducible assumption | grind | grind (ematch := 40) (gen := 40) (liaSteps := 300000) | lia) (by clear ih; first | with_reducible assumption | grind | grind (ematch := 40) (gen := 40) (liaSteps := 300000) | lia) (by clear ih; first | with_reducible assumption | grind | grind (ematch := 40) (gen := 40) (liaSteps := 300000) | lia) (by clear ih; first | with_reducible assumption | grind | grind (ematch := 40) (gen := 40) (liaSteps := 300000) | lia) (by clear ih; first | with_reducible assumption | grind | grind (ematch := 40) (gen := 40) (liaSteps := 300000) | lia) (by clear ih; first | with_reducible assumption | grind | grind (ematch := 40) (gen := 40) (liaSteps := 300000) | lia) (by clear ih; first | with_reducible assumption | grind | grind (ematch := 40) (gen := 40) (liaSteps := 300000) | lia)) ?_
          rintro ⟨y, hz⟩ ⟨Tz, g0, g1, g2, g3⟩
          try dsimp only at *
          exact ⟨Tz, (by clear ih; first | with_reducible assumption | grind | grind (ematch := 40) (gen := 40) (liaSteps := 300000) | lia), (by clear ih; first | with_reducible assumption | grind | grind (ematch := 40) (gen := 40) (liaSteps := 300000) | lia), (by clear ih; first | with_reducible assumption | grind | grind (ematch := 40) (gen := 40) (liaSteps := 300000) | lia), (by clear ih; first | with_reducible assumption | grind | grind (ematch := 40) (gen := 40) (liaSteps := 300000) | lia)⟩
theorem p_Pa_readExchange_169 {L : q_L} {W : Nat → Prop} {h0 : z_H} {π : Nat → Nat → Option Nat} {N : Nat} {pg : Nat} {cm : Nat} {h : z_H} {v0 : Nat} {v1 : Int32} (T : q_U L W h0 π h) (kv0 : qκ L v0 = 7) (kpg : qκ L pg = 10) (ppg : π v0 5 = some pg) (kcm : qκ L cm = 2) (pcm : π v0 6 = some cm) (ptx : π (v0 + 1) 0 = some (pg + 1)) (wP : ∀ a, v0 ≤ a → a < v0 + 5 → W a) (wG : ∀ a, pg ≤ a → a < pg + 249 → W a) (hc1 : pg + 9 ≤ cm) (hc2 : cm + 6 ≤ pg + 249) (b0 : 0 ≤ v1) (b1 : v1 ≤ 243) (hN : 100000 ≤ N) : qk (f_Pa_readExchange_169 N  N v0 v1 h) (fun r => q_U L W h0 π r.2 ∧ (r.1 = 0 ∨ r.1 = 1) ∧ (∀ a k, ¬ ((a = v0 + 1 ∧ (k = 1 ∨ k = 2)) ∨ (a = cm ∧ (k = 9 ∨ k = 10 ∨ k = 11))) → vI r.2 a k = vI h a k) ∧ (∀ a j, vA r.2 a j = vA h a j) ∧ (r.1 = 1 → vI h (v0 + 1) 1 ≤ vI r.2 (v0 + 1) 1)) := by
  have hq := q_qnN hN
  refine p_Pa_readExchange_169_n (q_lo (M := 244) (by decide) (by decide)) N v0 v1 h T kv0 kpg ppg kcm pcm ptx wP wG hc1 hc2 b0 b1 ?_ 
  show 244 - q_n N ≤ _
  rw [hq]
  lia

set_option maxHeartbeats 2000000 in
theorem p_Pa_readExchange_43_n {L : q_L} {W : Nat → Prop} {h0 : z_H} {π : Nat → Nat → Option Nat} {N : Nat} {pg : Nat} {cm : Nat} {lo : Nat → Int32} (hqn : q_Q lo 242) : ∀ (n : Nat) (v0 : Nat) (v1 : Int32) (h : z_H), q_U L W h0 π h → qκ L v0 = 7 → (qκ L pg = 10) → (π v0 5 = some pg) → (qκ L cm = 2) → (π v0 6 = some cm) → (π (v0 + 1) 0 = some (pg + 1)) → (∀ a, v0 ≤ a → a < v0 + 5 → W a) → (∀ a, pg ≤ a → a < pg + 249 → W a) → (pg + 9 ≤ cm) → (cm + 6 ≤ pg + 249) → (0 ≤ v1) → (v1 ≤ 241) → (vI h (v0 + 1) 1 ≤ 240) → (100000 ≤ N) → (lo n ≤ v1) → qk (f_Pa_readExchange_43 N  n v0 v1 h) (fun r => q_U L W h0 π r.2 ∧ (r.1 = 0 ∨ r.1 = 1) ∧ (∀ a k, ¬ ((a = v0 + 1 ∧ (k = 1 ∨ k = 2)) ∨ (a = cm ∧ (k = 9 ∨ k = 10 ∨ k = 11))) → vI r.2 a k = vI h a k) ∧ (∀ a j, vA r.2 a j = vA h a j) ∧ (r.1 = 1 → vI h (v0 + 1) 1 ≤ vI r.2 (v0 + 1) 1)) := by
  intro n
  induction n with
  | zero => intro v0 v1 h T kv0 kpg ppg kcm pcm ptx wP wG hc1 hc2 b0 b1 b2 hN hms; have hz := hqn.1; exact absurd hms (by grind)
  | succ n ih =>
    intro v0 v1 h T kv0 kpg ppg kcm pcm ptx wP wG hc1 hc2 b0 b1 b2 hN hms
    obtain ⟨hq1, hq2, hq3⟩ := hqn.2 n
    rw [f_Pa_readExchange_43]
    obtain ⟨kcu, kpr, cpa1, cpa2, cpa3, cpa4, cpa5⟩ := q_CPa T kv0
    obtain ⟨ktx, ctx, kit, cpg1, cpg2, cpg3⟩ := q_CProg T kpg
    obtain ⟨kc1, kc3, kc5, cc9⟩ := q_CCmd T kcm
    refine qk_if (fun cc1 => ?_) (fun cc1 => ?_)
    · skip
      unfold f_Pa_readExchange_120
      refine r_Pa_6 T kv0 pcm ?_
      refine r_Pa_0 T kv0 ?_
      intro kx2i2
      refine r_Cur_1 T kx2i2 ?_
      intro x3i2 ex3i2 lx3i2 ux3i2
      subst ex3i2
      refine w_Cmd_10 T kcm (by clear ih; first | with_reducible assumption | grind | grind (ematch := 40) (gen := 40) (liaSteps := 300000) | lia) (by clear ih; first | with_reducible assumption | grind | grind (ematch := 40) (gen := 40) (liaSteps := 300000) | lia) (by clear ih; first | with_reducible assumption | grind | grind (ematch := 40) (gen := 40) (liaSteps := 300000) | lia) ?_
      intro h4i2 Th4i2 ih4i2 ah4i2
      refine r_Pa_0 Th4i2 kv0 ?_
      intro kx5i2
      refine r_Cur_1 Th4i2 kx5i2 ?_
      intro x6i2 ex6i2 lx6i2 ux6i2
      subst ex6i2
      refine w_Cur_1 Th4i2 kx5i2 (by clear ih; first | with_reducible assumption | grind | grind (ematch := 40) (gen := 40) (liaSteps := 300000) | lia) (q_inc01 (Th4i2.2.2.2.1 _ 1) (q_CCur Th4i2 kx5i2)) (by first | exact q_inc1 (by clear ih; first | with_reducible assumption | grind -lia | grind) (q_inc00 (Th4i2.2.2.2.1 _ 1) (q_CCur Th4i2 kx5i2)) | exact q_inc1b (by clear ih; first | with_reducible assumption | grind -lia | grind) (q_inc00 (Th4i2.2.2.2.1 _ 1) (q_CCur Th4i2 kx5i2))) ?_
      intro h7i2 Th7i2 ih7i2 ah7i2
      refine r_Pa_6 Th7i2 kv0 pcm ?_
      refine r_Pa_0 Th7i2 kv0 ?_
      intro kx9i2
      refine r_Cur_1 Th7i2 kx9i2 ?_
      intro x10i2 ex10i2 lx10i2 ux10i2
      subst ex10i2
      refine w_Cmd_11 Th7i2 kcm (by clear ih; first | with_reducible assumption | grind | grind (ematch := 40) (gen := 40) (liaSteps := 300000) | lia) (by clear ih; first | with_reducible assumption | grind | grind (ematch := 40) (gen := 40) (liaSteps := 300000) | lia) (by clear ih; first | with_reducible assumption | grind | grind (ematch := 40) (gen := 40) (liaSteps := 300000) | lia) ?_
      intro h11i2 Th11i2 ih11i2 ah11i2
      refine r_Pa_6 Th11i2 kv0 pcm ?_
      refine r_Cmd_9 Th11i2 kcm ?_
      intro x13i2 ex13i2 lx13i2 ux13i2
      subst ex13i2
      refine qk_mono (p_Pa_readExchange_169 (v0 := v0) (v1 := (vI h11i2 cm 9)) (pg := pg) (cm := cm) Th11i2 kv0 kpg ppg kcm pcm ptx (by clear ih; first | with_reducible assumption | grind | grind (ematch := 40) (gen := 40) (liaSteps := 300000) | lia) (by clear ih; first | with_reducible assumption | grind | grind (ematch := 40) (gen := 40) (liaSteps := 300000) | lia) (by clear ih; first | with_reducible assumption | grind | grind (ematch := 40) (gen := 40) (liaSteps := 300000) | lia) (by clear ih; first | with_reducible assumption | grind | grind (ematch := 40) (gen := 40) (liaSteps := 300000) | lia) (by clear ih; first | with_reducible assumption | grind | grind (ematch := 40) (gen := 40) (liaSteps := 300000) | lia) (by clear ih; first | with_reducible assumption | grind | grind (ematch := 40) (gen := 40) (liaSteps := 300000) | lia) (by clear ih; first | with_reducible assumption | grind | grind (ematch := 40) (gen := 40) (liaSteps := 300000) | lia)) ?_
      rintro ⟨y, hz⟩ ⟨Tz, g0, g1, g2, g3⟩
      try dsimp only at *
      exact ⟨Tz, (by clear ih; first | with_reducible assumption | grind | grind (ematch := 40) (gen := 40) (liaSteps := 300000) | lia), (by clear ih; first | with_reducible assumption | grind | grind (ematch := 40) (gen := 40) (liaSteps := 300000) | lia), (by clear ih; first | with_reducible assumption | grind | grind (ematch := 40) (gen := 40) (liaSteps := 300000) | lia), (by clear ih; first | with_reducible assumption | grind | grind (ematch := 40) (gen := 40) (liaSteps := 300000) | lia)⟩
    · skip
      refine r_Pa_0 T kv0 ?_
      intro kx2
      refine r_Cur_o T kx2 ?_
      refine c_Cur_look (v0 := (v0 + 1)) (v1 := 0) (tx := (pg + 1)) T kx2 ktx ptx (by clear ih; first | with_reducible assumption | grind | grind (ematch := 40) (gen := 40) (liaSteps := 300000) | lia) (by clear ih; first | with_reducible assumption | grind | grind (ematch := 40) (gen := 40) (liaSteps := 300000) | lia) (by clear ih; first | with_reducible assumption | grind | grind (ematch := 40) (gen := 40) (liaSteps := 300000) | lia) ?_
      intro yr4 gr4_0 gr4_1 gr4_2 gr4_3 gr4_4
      simp only [Int32.add_zero] at gr4_2 gr4_3 gr4_4
      dsimp only
      refine qk_if (fun cc4 => ?_) (fun cc4 => ?_)
      · skip
        unfold f_Pa_readExchange_120
        refine r_Pa_6 T kv0 pcm ?_
        refine r_Pa_0 T kv0 ?_
        intro kx2i5
        refine r_Cur_1 T kx2i5 ?_
        intro x3i5 ex3i5 lx3i5 ux3i5
        subst ex3i5
        refine w_Cmd_10 T kcm (by clear ih; first | with_reducible assumption | grind | grind (ematch := 40) (gen := 40) (liaSteps := 300000) | lia) (by clear ih; first | with_reducible assumption | grind | grind (ematch := 40) (gen := 40) (liaSteps := 300000) | lia) (by clear ih; first | with_reducible assumption | grind | grind (ematch := 40) (gen := 40) (liaSteps := 300000) | lia) ?_
        intro h4i5 Th4i5 ih4i5 ah4i5
        refine r_Pa_0 Th4i5 kv0 ?_
        intro kx5i5
        refine r_Cur_1 Th4i5 kx5i5 ?_
        intro x6i5 ex6i5 lx6i5 ux6i5
        subst ex6i5
        refine w_Cur_1 Th4i5 kx5i5 (by clear ih; first | with_reducible assumption | grind | grind (ematch := 40) (gen := 40) (liaSteps := 300000) | lia) (q_inc01 (Th4i5.2.2.2.1 _ 1) (q_CCur Th4i5 kx5i5)) (by first | exact q_inc1 (by clear ih; first | with_reducible assumption | grind -lia | grind) (q_inc00 (Th4i5.2.2.2.1 _ 1) (q_CCur Th4i5 kx5i5)) | exact q_inc1b (by clear ih; first | with_reducible assumption | grind -lia | grind) (q_inc00 (Th4i5.2.2.2.1 _ 1) (q_CCur Th4i5 kx5i5))) ?_
        intro h7i5 Th7i5 ih7i5 ah7i5
        refine r_Pa_6 Th7i5 kv0 pcm ?_
        refine r_Pa_0 Th7i5 kv0 ?_
        intro kx9i5
        refine r_Cur_1 Th7i5 kx9i5 ?_
        intro x10i5 ex10i5 lx10i5 ux10i5
        subst ex10i5
        refine w_Cmd_11 Th7i5 kcm (by clear ih; first | with_reducible assumption | grind | grind (ematch := 40) (gen := 40) (liaSteps := 300000) | lia) (by clear ih; first | with_reducible assumption | grind | grind (ematch := 40) (gen := 40) (liaSteps := 300000) | lia) (by clear ih; first | with_reducible assumption | grind | grind (ematch := 40) (gen := 40) (liaSteps := 300000) | lia) ?_
        intro h11i5 Th11i5 ih11i5 ah11i5
        refine r_Pa_6 Th11i5 kv0 pcm ?_
        refine r_Cmd_9 Th11i5 kcm ?_
        intro x13i5 ex13i5 lx13i5 ux13i5
        subst ex13i5
        refine qk_mono (p_Pa_readExchange_169 (v0 := v0) (v1 := (vI h11i5 cm 9)) (pg := pg) (cm := cm) Th11i5 kv0 kpg ppg kcm pcm ptx (by clear ih; first | with_reducible assumption | grind | grind (ematch := 40) (gen := 40) (liaSteps := 300000) | lia) (by clear ih; first | with_reducible assumption | grind | grind (ematch := 40) (gen := 40) (liaSteps := 300000) | lia) (by clear ih; first | with_reducible assumption | grind | grind (ematch := 40) (gen := 40) (liaSteps := 300000) | lia) (by clear ih; first | with_reducible assumption | grind | grind (ematch := 40) (gen := 40) (liaSteps := 300000) | lia) (by clear ih; first | with_reducible assumption | grind | grind (ematch := 40) (gen := 40) (liaSteps := 300000) | lia) (by clear ih; first | with_reducible assumption | grind | grind (ematch := 40) (gen := 40) (liaSteps := 300000) | lia) (by clear ih; first | with_reducible assumption | grind | grind (ematch := 40) (gen := 40) (liaSteps := 300000) | lia)) ?_
        rintro ⟨y, hz⟩ ⟨Tz, g0, g1, g2, g3⟩
        try dsimp only at *
        exact ⟨Tz, (by clear ih; first | with_reducible assumption | grind | grind (ematch := 40) (gen := 40) (liaSteps := 300000) | lia), (by clear ih; first | with_reducible assumption | grind | grind (ematch := 40) (gen := 40) (liaSteps := 300000) | lia), (by clear ih; first | with_reducible assumption | grind | grind (ematch := 40) (gen := 40) (liaSteps := 300000) | lia), (by clear ih; first | with_reducible assumption | grind | grind (ematch := 40) (gen := 40) (liaSteps := 300000) | lia)⟩
      · skip
        refine r_Pa_0 T kv0 ?_
        intro kx6
        refine r_Cur_o T kx6 ?_
        refine c_Cur_look (v0 := (v0 + 1)) (v1 := 0) (tx := (pg + 1)) T kx6 ktx ptx (by clear ih; first | with_reducible assumption | grind | grind (ematch := 40) (gen := 40) (liaSteps := 300000) | lia) (by clear ih; first | with_reducible assumption | grind | grind (ematch := 40) (gen := 40) (liaSteps := 300000) | lia) (by clear ih; first | with_reducible assumption | grind | grind (ematch := 40) (gen := 40) (liaSteps := 300000) | lia) ?_
        intro yr8 gr8_0 gr8_1 gr8_2 gr8_3 gr8_4
        simp only [Int32.add_zero] at gr8_2 gr8_3 gr8_4
        dsimp only
        refine c_Pa_isExchangeable (v0 := (yr8)) T ?_
        intro yr9 gr9_0 gr9_1
        dsimp only
        refine qk_if (fun cc7 => ?_) (fun cc7 => ?_)
        · skip
          unfold f_Pa_readExchange_92
          refine r_Pa_0 T kv0 ?_
          intro kx1i8
          refine r_Cur_o T kx1i8 ?_
          refine c_Cur_refuse (v0 := (v0 + 1)) (v1 := 0) T kx1i8 (by clear ih; first | with_reducible assumption | grind | grind (ematch := 40) (gen := 40) (liaSteps := 300000) | lia) ?_
          intro yr3i8 hr3i8 Tr3i8 gr3i8_0 gr3i8_1 gr3i8_2
          dsimp only
          refine qk_zB (by clear ih; first | with_reducible assumption | grind | grind (ematch := 40) (gen := 40) (liaSteps := 300000) | lia) ?_
          refine qk_some ?_
          exact ⟨Tr3i8, (by clear ih; first | with_reducible assumption | grind | grind (ematch := 40) (gen := 40) (liaSteps := 300000) | lia), (by clear ih; first | with_reducible assumption | grind | grind (ematch := 40) (gen := 40) (liaSteps := 300000) | lia), (by clear ih; first | with_reducible assumption | grind | grind (ematch := 40) (gen := 40) (liaSteps := 300000) | lia), (by clear ih; first | with_reducible assumption | grind | grind (ematch := 40) (gen := 40) (liaSteps := 300000) | lia)⟩
        · skip
          refine r_Pa_0 T kv0 ?_
          intro kx11
          refine r_Cur_o T kx11 ?_
          refine c_Cur_look (v0 := (v0 + 1)) (v1 := 0) (tx := (pg + 1)) T kx11 ktx ptx (by clear ih; first | with_reducible assumption | grind | grind (ematch := 40) (gen := 40) (liaSteps := 300000) | lia) (by clear ih; first | with_reducible assumption | grind | grind (ematch := 40) (gen := 40) (liaSteps := 300000) | lia) (by clear ih; first | with_reducible assumption | grind | grind (ematch := 40) (gen := 40) (liaSteps := 300000) | lia) ?_
          intro yr13 gr13_0 gr13_1 gr13_2 gr13_3 gr13_4
          simp only [Int32.add_zero] at gr13_2 gr13_3 gr13_4
          dsimp only
          refine r_Pa_o T kv0 ?_
          refine c_Pa_wasExchanged (v0 := v0) (v1 := (yr13)) (pg := pg) (cm := cm) T kv0 kpg ppg kcm pcm (by clear ih; first | with_reducible assumption | grind | grind (ematch := 40) (gen := 40) (liaSteps := 300000) | lia) ?_
          intro yr15 gr15_0
          dsimp only
          refine qk_if (fun cc9 => ?_) (fun cc9 => ?_)
          · skip
            refine r_Pa_0 T kv0 ?_
            intro kx17
            refine r_Cur_1 T kx17 ?_
            intro x18 ex18 lx18 ux18
            subst ex18
            refine w_Cur_1 T kx17 (by clear ih; first | with_reducible assumption | grind | grind (ematch := 40) (gen := 40) (liaSteps := 300000) | lia) (q_inc01 (T.2.2.2.1 _ 1) (q_CCur T kx17)) (by first | exact q_inc1 (by clear ih; first | with_reducible assumption | grind -lia | grind) (q_inc00 (T.2.2.2.1 _ 1) (q_CCur T kx17)) | exact q_inc1b (by clear ih; first | with_reducible assumption | grind -lia | grind) (q_inc00 (T.2.2.2.1 _ 1) (q_CCur T kx17))) ?_
            intro h19 Th19 ih19 ah19
            refine qk_bs ?_
            refine qk_mono (ih (v0) ((v1 + 1)) h19 Th19 kv0 kpg ppg kcm pcm ptx (by clear ih; first | with_reducible assumption | grind | grind (ematch := 40) (gen := 40) (liaSteps := 300000) | lia) (by clear ih; first | with_reducible assumption | grind | grind (ematch := 40) (gen := 40) (liaSteps := 300000) | lia) (by clear ih; first | with_reducible assumption | grind | grind (ematch := 40) (gen := 40) (liaSteps := 300000) | lia) (by clear ih; first | with_reducible assumption | grind | grind (ematch := 40) (gen := 40) (liaSteps := 300000) | lia) (by clear ih; first | with_reducible assumption | grind | grind (ematch := 40) (gen := 40) (liaSteps := 300000) | lia) (by clear ih; first | with_reducible assumption | grind | grind (ematch := 40) (gen := 40) (liaSteps := 300000) | lia) (by clear ih; first | with_reducible assumption | grind | grind (ematch := 40) (gen := 40) (liaSteps := 300000) | lia) (by clear ih; first | with_reducible assumption | grind | grind (ematch := 40) (gen := 40) (liaSteps := 300000) | lia) (by clear ih; first | with_reducible assumption | grind | grind (ematch := 40) (gen := 40) (liaSteps := 300000) | lia)) ?_
            rintro ⟨y, hz⟩ ⟨Tz, g0, g1, g2, g3⟩
            try dsimp only at *
            exact ⟨Tz, (by clear ih; first | with_reducible assumption | grind | grind (ematch := 40) (gen := 40) (liaSteps := 300000) | lia), (by clear ih; first | with_reducible assumption | grind | grind (ematch := 40) (gen := 40) (liaSteps := 300000) | lia), (by clear ih; first | with_reducible assumption | grind | grind (ematch := 40) (gen := 40) (liaSteps := 300000) | lia), (by clear ih; first | with_reducible assumption | grind | grind (ematch := 40) (gen := 40) (liaSteps := 300000) | lia)⟩
          · skip
            unfold f_Pa_readExchange_92
            refine r_Pa_0 T kv0 ?_
            intro kx1i11
            refine r_Cur_o T kx1i11 ?_
            refine c_Cur_refuse (v0 := (v0 + 1)) (v1 := 0) T kx1i11 (by clear ih; first | with_reducible assumption | grind | grind (ematch := 40) (gen := 40) (liaSteps := 300000) | lia) ?_
            intro yr3i11 hr3i11 Tr3i11 gr3i11_0 gr3i11_1 gr3i11_2
            dsimp only
            refine qk_zB (by clear ih; first | with_reducible assumption | grind | grind (ematch := 40) (gen := 40) (liaSteps := 300000) | lia) ?_
            refine qk_some ?_
            exact ⟨Tr3i11, (by clear ih; first | with_reducible assumption | grind | grind (ematch := 40) (gen := 40) (liaSteps := 300000) | lia), (by clear ih; first | with_reducible assumption | grind | grind (ematch := 40) (gen := 40) (liaSteps := 300000) | lia), (by clear ih; first | with_reducible assumption | grind | grind (ematch := 40) (gen := 40) (liaSteps := 300000) | lia), (by clear ih; first | with_reducible assumption | grind | grind (ematch := 40) (gen := 40) (liaSteps := 300000) | lia)⟩
theorem p_Pa_readExchange_43 {L : q_L} {W : Nat → Prop} {h0 : z_H} {π : Nat → Nat → Option Nat} {N : Nat} {pg : Nat} {cm : Nat} {h : z_H} {v0 : Nat} {v1 : Int32} (T : q_U L W h0 π h) (kv0 : qκ L v0 = 7) (kpg : qκ L pg = 10) (ppg : π v0 5 = some pg) (kcm : qκ L cm = 2) (pcm : π v0 6 = some cm) (ptx : π (v0 + 1) 0 = some (pg + 1)) (wP : ∀ a, v0 ≤ a → a < v0 + 5 → W a) (wG : ∀ a, pg ≤ a → a < pg + 249 → W a) (hc1 : pg + 9 ≤ cm) (hc2 : cm + 6 ≤ pg + 249) (b0 : 0 ≤ v1) (b1 : v1 ≤ 241) (b2 : vI h (v0 + 1) 1 ≤ 240) (hN : 100000 ≤ N) : qk (f_Pa_readExchange_43 N  N v0 v1 h) (fun r => q_U L W h0 π r.2 ∧ (r.1 = 0 ∨ r.1 = 1) ∧ (∀ a k, ¬ ((a = v0 + 1 ∧ (k = 1 ∨ k = 2)) ∨ (a = cm ∧ (k = 9 ∨ k = 10 ∨ k = 11))) → vI r.2 a k = vI h a k) ∧ (∀ a j, vA r.2 a j = vA h a j) ∧ (r.1 = 1 → vI h (v0 + 1) 1 ≤ vI r.2 (v0 + 1) 1)) := by
  have hq := q_qnN hN
  refine p_Pa_readExchange_43_n (q_lo (M := 242) (by decide) (by decide)) N v0 v1 h T kv0 kpg ppg kcm pcm ptx wP wG hc1 hc2 b0 b1 b2 hN ?_ 
  show 242 - q_n N ≤ _
  rw [hq]
  lia

set_option maxHeartbeats 2000000 in
theorem p_Pa_readExchange {L : q_L} {W : Nat → Prop} {h0 : z_H} {π : Nat → Nat → Option Nat} {N : Nat} {pg : Nat} {cm : Nat} {h : z_H} {v0 : Nat} (T : q_U L W h0 π h) (kv0 : qκ L v0 = 7) (kpg : qκ L pg = 10) (ppg : π v0 5 = some pg) (kcm : qκ L cm = 2) (pcm : π v0 6 = some cm) (ptx : π (v0 + 1) 0 = some (pg + 1)) (wP : ∀ a, v0 ≤ a → a < v0 + 5 → W a) (wG : ∀ a, pg ≤ a → a < pg + 249 → W a) (hc1 : pg + 9 ≤ cm) (hc2 : cm + 6 ≤ pg + 249) (hat : vI h (v0 + 1) 1 < 240) (hN : 100000 ≤ N) : qk (f_Pa_readExchange N v0 h) (fun r => q_U L W h0 π r.2 ∧ (r.1 = 0 ∨ r.1 = 1) ∧ (∀ a k, ¬ ((a = v0 + 1 ∧ (k = 1 ∨ k = 2)) ∨ (a = cm ∧ (k = 9 ∨ k = 10 ∨ k = 11))) → vI r.2 a k = vI h a k) ∧ (∀ a j, vA r.2 a j = vA h a j) ∧ (r.1 = 1 → vI h (v0 + 1) 1 ≤ vI r.2 (v0 + 1) 1)) := by
  obtain ⟨kcu, kpr, cpa1, cpa2, cpa3, cpa4, cpa5⟩ := q_CPa T kv0
  obtain ⟨ktx, ctx, kit, cpg1, cpg2, cpg3⟩ := q_CProg T kpg
  obtain ⟨kc1, kc3, kc5, cc9⟩ := q_CCmd T kcm
  unfold f_Pa_readExchange
  refine r_Pa_0 T kv0 ?_
  intro kx1
  refine r_Cur_1 T kx1 ?_
  intro x2 ex2 lx2 ux2
  subst ex2
  refine w_Cur_1 T kx1 (by first | with_reducible assumption | grind | grind (ematch := 40) (gen := 40) (liaSteps := 300000) | lia) (q_inc01 (T.2.2.2.1 _ 1) (q_CCur T kx1)) (by first | exact q_inc1 (by first | with_reducible assumption | grind -lia | grind) (q_inc00 (T.2.2.2.1 _ 1) (q_CCur T kx1)) | exact q_inc1b (by first | with_reducible assumption | grind -lia | grind) (q_inc00 (T.2.2.2.1 _ 1) (q_CCur T kx1))) ?_
  intro h3 Th3 ih3 ah3
  refine r_Pa_0 Th3 kv0 ?_
  intro kx4
  refine r_Cur_o Th3 kx4 ?_
  refine c_Cur_pass (v0 := (v0 + 1)) (v1 := 47) (tx := (pg + 1)) Th3 kx4 ktx ptx (by first | with_reducible assumption | grind | grind (ematch := 40) (gen := 40) (liaSteps := 300000) | lia) (by first | with_reducible assumption | grind | grind (ematch := 40) (gen := 40) (liaSteps := 300000) | lia) (by first | with_reducible assumption | grind | grind (ematch := 40) (gen := 40) (liaSteps := 300000) | lia) ?_
  intro yr6 hr6 Tr6 gr6_0 gr6_1 gr6_2 gr6_3 gr6_4 gr6_5 gr6_6
  dsimp only
  refine qk_if (fun cc1 => ?_) (fun cc1 => ?_)
  · skip
    refine qk_some ?_
    exact ⟨Tr6, (by first | with_reducible assumption | grind | grind (ematch := 40) (gen := 40) (liaSteps := 300000) | lia), (by first | with_reducible assumption | grind | grind (ematch := 40) (gen := 40) (liaSteps := 300000) | lia), (by first | with_reducible assumption | grind | grind (ematch := 40) (gen := 40) (liaSteps := 300000) | lia), (by first | with_reducible assumption | grind | grind (ematch := 40) (gen := 40) (liaSteps := 300000) | lia)⟩
  · skip
    refine r_Pa_6 Tr6 kv0 pcm ?_
    refine r_Pa_0 Tr6 kv0 ?_
    intro kx9
    refine r_Cur_1 Tr6 kx9 ?_
    intro x10 ex10 lx10 ux10
    subst ex10
    refine w_Cmd_9 Tr6 kcm (by first | with_reducible assumption | grind | grind (ematch := 40) (gen := 40) (liaSteps := 300000) | lia) (by first | with_reducible assumption | grind | grind (ematch := 40) (gen := 40) (liaSteps := 300000) | lia) (by first | with_reducible assumption | grind | grind (ematch := 40) (gen := 40) (liaSteps := 300000) | lia) ?_
    intro h11 Th11 ih11 ah11
    refine qk_mono (p_Pa_readExchange_43 (v0 := v0) (v1 := 0) (pg := pg) (cm := cm) Th11 kv0 kpg ppg kcm pcm ptx (by first | with_reducible assumption | grind | grind (ematch := 40) (gen := 40) (liaSteps := 300000) | lia) (by first | with_reducible assumption | grind | grind (ematch := 40) (gen := 40) (liaSteps := 300000) | lia) (by first | with_reducible assumption | grind | grind (ematch := 40) (gen := 40) (liaSteps := 300000) | lia) (by first | with_reducible assumption | grind | grind (ematch := 40) (gen := 40) (liaSteps := 300000) | lia) (by first | with_reducible assumption | grind | grind (ematch := 40) (gen := 40) (liaSteps := 300000) | lia) (by first | with_reducible assumption | grind | grind (ematch := 40) (gen := 40) (liaSteps := 300000) | lia) (by first | with_reducible assumption | grind | grind (ematch := 40) (gen := 40) (liaSteps := 300000) | lia) (by first | with_reducible assumption | grind | grind (ematch := 40) (gen := 40) (liaSteps := 300000) | lia)) ?_
    rintro ⟨y, hz⟩ ⟨Tz, g0, g1, g2, g3⟩
    try dsimp only at *
    exact ⟨Tz, (by first | with_reducible assumption | grind | grind (ematch := 40) (gen := 40) (liaSteps := 300000) | lia), (by first | with_reducible assumption | grind | grind (ematch := 40) (gen := 40) (liaSteps := 300000) | lia), (by first | with_reducible assumption | grind | grind (ematch := 40) (gen := 40) (liaSteps := 300000) | lia), (by first | with_reducible assumption | grind | grind (ematch := 40) (gen := 40) (liaSteps := 300000) | lia)⟩
theorem c_Pa_readExchange {L : q_L} {W : Nat → Prop} {h0 : z_H} {π : Nat → Nat → Option Nat} {N : Nat} {pg : Nat} {cm : Nat} {h : z_H} {v0 : Nat} {β : Type} {f : Int32 × z_H → Option β} {Q : β → Prop} (T : q_U L W h0 π h) (kv0 : qκ L v0 = 7) (kpg : qκ L pg = 10) (ppg : π v0 5 = some pg) (kcm : qκ L cm = 2) (pcm : π v0 6 = some cm) (ptx : π (v0 + 1) 0 = some (pg + 1)) (wP : ∀ a, v0 ≤ a → a < v0 + 5 → W a) (wG : ∀ a, pg ≤ a → a < pg + 249 → W a) (hc1 : pg + 9 ≤ cm) (hc2 : cm + 6 ≤ pg + 249) (hat : vI h (v0 + 1) 1 < 240) (hN : 100000 ≤ N) (H : ∀ y h', q_U L W h0 π h' → (y = 0 ∨ y = 1) → (∀ a k, ¬ ((a = v0 + 1 ∧ (k = 1 ∨ k = 2)) ∨ (a = cm ∧ (k = 9 ∨ k = 10 ∨ k = 11))) → vI h' a k = vI h a k) → (∀ a j, vA h' a j = vA h a j) → (y = 1 → vI h (v0 + 1) 1 ≤ vI h' (v0 + 1) 1) → qk (f (y, h')) Q) : qk (z_b (f_Pa_readExchange N v0 h) f) Q := by
  refine qk_b (p_Pa_readExchange T kv0 kpg ppg kcm pcm ptx wP wG hc1 hc2 hat hN) ?_
  rintro ⟨y, hz⟩ ⟨Tz, g0, g1, g2, g3⟩
  exact H y hz Tz g0 g1 g2 g3
