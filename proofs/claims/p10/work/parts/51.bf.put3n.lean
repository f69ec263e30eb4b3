set_option maxHeartbeats 1000000 in
theorem p_Mod_put_3_n {L : q_L} {W : Nat → Prop} {h0 : z_H} {π : Nat → Nat → Option Nat} {N : Nat} {lo : Nat → Int32} (hqn : q_Q lo 128) : ∀ (n : Nat) (v0 : Nat) (v1 : Int32) (v3 : Int32) (v4 : Int32) (h : z_H), q_U L W h0 π h → q_M L π v0 → (∀ a, v0 ≤ a → a < v0 + 46 → W a) → (0 ≤ v1) → (v1 < 520) → (v3 ≤ 126) → (0 ≤ v4) → (v4 ≤ 127) → (lo n ≤ v4) → qk (f_Mod_put_3 N  n v0 v1 v3 v4 h) (fun r => q_U L W h0 π r ∧ (∀ a k, vI r a k = vI h a k) ∧ (∀ a j, vA r a j = vA h a j)) := by
  intro n
  induction n with
  | zero => intro v0 v1 v3 v4 h T kv0 wM b0 b1 b2 b3 b4 hms; have hz := hqn.1; exact absurd hms (by grind)
  | succ n ih =>
    intro v0 v1 v3 v4 h T kv0 wM b0 b1 b2 b3 b4 hms
    obtain ⟨hq1, hq2, hq3⟩ := hqn.2 n
    rw [f_Mod_put_3]
    refine qk_if (fun cc1 => ?_) (fun cc1 => ?_)
    · skip
      refine qk_some ?_
      exact ⟨T, (by clear ih; intro a k ; rfl), (by clear ih; intro a j ; rfl)⟩
    · skip
      refine qk_if (fun cc2 => ?_) (fun cc2 => ?_)
      · skip
        refine r_Mo_38 T kv0 ?_
        refine r_Mo_e33 T kv0 (by clear ih; first | with_reducible assumption | grind | lia) (by clear ih; first | with_reducible assumption | grind | lia) ?_
        intro x4
        refine w_Mo_e33 T kv0 (by clear ih; first | with_reducible assumption | grind | lia) (by clear ih; first | with_reducible assumption | grind | lia) (by clear ih; first | with_reducible assumption | grind | lia) ?_
        intro h5 Th5 ih5 ah5
        refine qk_bs ?_
        refine qk_mono (ih (v0) (v1) (v3) ((v4 + 1)) h5 Th5 kv0 (by clear ih; first | with_reducible assumption | grind | lia) (by clear ih; first | with_reducible assumption | grind | lia) (by clear ih; first | with_reducible assumption | grind | lia) (by clear ih; first | with_reducible assumption | grind | lia) (by clear ih; first | with_reducible assumption | grind | lia) (by clear ih; first | with_reducible assumption | grind | lia) (by clear ih; first | with_reducible assumption | grind | lia)) ?_
        rintro hz ⟨Tz, g0, g1⟩
        try dsimp only at *
        exact ⟨Tz, (by clear ih; intro a k ; rw [g0 a k, ih5]), (by clear ih; intro a j ; rw [g1 a j, ah5])⟩
      · skip
        refine r_Mo_37 T kv0 ?_
        refine r_Mo_e32 T kv0 (by clear ih; first | with_reducible assumption | grind | lia) (by clear ih; first | with_reducible assumption | grind | lia) ?_
        intro x8
        refine w_Mo_e32 T kv0 (by clear ih; first | with_reducible assumption | grind | lia) (by clear ih; first | with_reducible assumption | grind | lia) (by clear ih; first | with_reducible assumption | grind | lia) ?_
        intro h9 Th9 ih9 ah9
        refine qk_bs ?_
        refine qk_mono (ih (v0) (v1) (v3) ((v4 + 1)) h9 Th9 kv0 (by clear ih; first | with_reducible assumption | grind | lia) (by clear ih; first | with_reducible assumption | grind | lia) (by clear ih; first | with_reducible assumption | grind | lia) (by clear ih; first | with_reducible assumption | grind | lia) (by clear ih; first | with_reducible assumption | grind | lia) (by clear ih; first | with_reducible assumption | grind | lia) (by clear ih; first | with_reducible assumption | grind | lia)) ?_
        rintro hz ⟨Tz, g0, g1⟩
        try dsimp only at *
        exact ⟨Tz, (by clear ih; intro a k ; rw [g0 a k, ih9]), (by clear ih; intro a j ; rw [g1 a j, ah9])⟩
theorem p_Mod_put_3 {L : q_L} {W : Nat → Prop} {h0 : z_H} {π : Nat → Nat → Option Nat} {N : Nat} {h : z_H} {v0 : Nat} {v1 : Int32} {v3 : Int32} {v4 : Int32} (T : q_U L W h0 π h) (kv0 : q_M L π v0) (wM : ∀ a, v0 ≤ a → a < v0 + 46 → W a) (b0 : 0 ≤ v1) (b1 : v1 < 520) (b2 : v3 ≤ 126) (b3 : 0 ≤ v4) (b4 : v4 ≤ 127) (hN : 100000 ≤ N) : qk (f_Mod_put_3 N  N v0 v1 v3 v4 h) (fun r => q_U L W h0 π r ∧ (∀ a k, vI r a k = vI h a k) ∧ (∀ a j, vA r a j = vA h a j)) := by
  have hq := q_qnN hN
  refine p_Mod_put_3_n (q_lo (M := 128) (by decide) (by decide)) N v0 v1 v3 v4 h T kv0 wM b0 b1 b2 b3 b4 ?_ 
  show 128 - q_n N ≤ _
  rw [hq]
  lia

