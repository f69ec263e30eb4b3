set_option maxHeartbeats 1200000 in
theorem p_Mod_set_78_n {L : q_L} {W : Nat → Prop} {h0 : z_H} {π : Nat → Nat → Option Nat} {N : Nat} {lo : Nat → Int32} (hqn : q_Q lo 301) : ∀ (n : Nat) (v0 : Nat) (v2 : Int32) (v3 : Int32) (v4 : Int32) (h : z_H), q_U L W h0 π h → q_M L π v0 → (∀ a, v0 ≤ a → a < v0 + 46 → W a) → (0 ≤ v2) → (v2 < 520) → (vI h v0 41 ≤ 241) → (vI h v0 48 = 0 → vI h v0 41 ≤ vI h v0 3) → (100000 ≤ N) → (lo n ≤ (if vI h v0 48 = 0 then vI h v0 41 else 300)) → qk (f_Mod_set_78 N  n v0 v2 v3 v4 h) (fun r => q_U L W h0 π r ∧ (∀ a k, ¬ (a = v0 ∧ (k = 5 ∨ k = 48 ∨ k = 41)) → vI r a k = vI h a k) ∧ (∀ a j, vA r a j = vA h a j) ∧ (vI h v0 41 ≤ vI r v0 41 ∧ vI r v0 41 ≤ 242) ∧ (vI r v0 48 = 0 → vI r v0 41 ≤ vI h v0 3)) := by
  intro n
  induction n with
  | zero => intro v0 v2 v3 v4 h T kv0 wM b0 b1 hl hl2 hN hms; have rg_at := g_Mo_41 T kv0; have hz := hqn.1; exact absurd hms (by grind)
  | succ n ih =>
    intro v0 v2 v3 v4 h T kv0 wM b0 b1 hl hl2 hN hms
    obtain ⟨hq1, hq2, hq3⟩ := hqn.2 n
    rw [f_Mod_set_78]
    have rg_at := g_Mo_41 T kv0
    have rg_length := g_Mo_3 T kv0
    refine r_Mo_48 T kv0 ?_
    intro x1 ex1
    subst ex1
    refine qk_if (fun cc1 => ?_) (fun cc1 => ?_)
    · skip
      refine qk_if (fun cc2 => ?_) (fun cc2 => ?_)
      · skip
        unfold f_Mod_set_99
        refine r_Mo_o T kv0 ?_
        refine c_Mod_isMember (v0 := v0) T kv0 (by clear ih; first | with_reducible assumption | grind | lia) ?_
        intro yr2i3 hr2i3 Tr2i3 gr2i3_0 gr2i3_1 gr2i3_2 gr2i3_3 gr2i3_4
        dsimp only
        refine qk_bs ?_
        refine qk_if (fun cc4 => ?_) (fun cc4 => ?_)
        · skip
          refine qk_some ?_
          exact ⟨Tr2i3, (by clear ih; intro a k n0; rw [gr2i3_1 a k (by omega)]), (by clear ih; intro a j ; rw [gr2i3_2 a j]), (by clear ih; first | with_reducible assumption | grind | lia), (by clear ih; first | with_reducible assumption | grind | lia)⟩
        · skip
          refine r_Mo_o Tr2i3 kv0 ?_
          refine c_Mod_here (v0 := v0) Tr2i3 kv0 ?_
          intro yr6i3 gr6i3_0 gr6i3_1 gr6i3_2 gr6i3_3
          dsimp only
          refine qk_bs ?_
          refine r_Mo_41 Tr2i3 kv0 ?_
          intro x8i3 ex8i3 lx8i3 ux8i3
          subst ex8i3
          refine w_Mo_41 Tr2i3 kv0 (by clear ih; first | with_reducible assumption | grind | lia) (by clear ih; first | with_reducible assumption | grind | lia) (by clear ih; first | with_reducible assumption | grind | lia) ?_
          intro h9i3 Th9i3 ih9i3 ah9i3
          refine r_Mo_o Th9i3 kv0 ?_
          refine c_Mod_here (v0 := v0) Th9i3 kv0 ?_
          intro yr11i3 gr11i3_0 gr11i3_1 gr11i3_2 gr11i3_3
          dsimp only
          refine qk_if (fun cc5 => ?_) (fun cc5 => ?_)
          · skip
            refine r_Mo_o Th9i3 kv0 ?_
            refine c_Mod_behind (v0 := v0) Th9i3 kv0 ?_
            intro yr14i3 gr14i3_0 gr14i3_1
            dsimp only
            refine qk_if (fun cc6 => ?_) (fun cc6 => ?_)
            · skip
              unfold f_Mod_set_202
              refine r_Mo_o Th9i3 kv0 ?_
              refine c_Mod_put (v0 := v0) (v1 := v2) (v2 := (yr6i3)) (v3 := (yr6i3)) Th9i3 kv0 (by clear ih; first | with_reducible assumption | grind | lia) (by clear ih; first | with_reducible assumption | grind | lia) (by clear ih; first | with_reducible assumption | grind | lia) (by clear ih; first | with_reducible assumption | grind | lia) (by clear ih; first | with_reducible assumption | grind | lia) (by clear ih; first | with_reducible assumption | grind | lia) (by clear ih; first | with_reducible assumption | grind | lia) ?_
              intro r2i7 Tr2i7 gr2i7_0 gr2i7_1
              refine qk_mono (ih (v0) (v2) (v3) (1) r2i7 Tr2i7 kv0 (by clear ih; first | with_reducible assumption | grind | lia) (by clear ih; first | with_reducible assumption | grind | lia) (by clear ih; first | with_reducible assumption | grind | lia) (by clear ih; first | with_reducible assumption | grind | lia) (by clear ih; first | with_reducible assumption | grind | lia) (by clear ih; first | with_reducible assumption | grind | lia) (by clear ih; first | with_reducible assumption | grind | lia)) ?_
              rintro hz ⟨Tz, g0, g1, g2, g3⟩
              try dsimp only at *
              exact ⟨Tz, (by clear ih; intro a k n0; rw [g0 a k (by omega), gr2i7_0 a k, ih9i3, if_neg (by omega), gr2i3_1 a k (by omega)]), (by clear ih; intro a j ; rw [g1 a j, gr2i7_1 a j, ah9i3, gr2i3_2 a j]), (by clear ih; first | with_reducible assumption | grind | lia), (by clear ih; first | with_reducible assumption | grind | lia)⟩
            · skip
              refine r_Mo_41 Th9i3 kv0 ?_
              intro x16i3 ex16i3 lx16i3 ux16i3
              subst ex16i3
              refine w_Mo_41 Th9i3 kv0 (by clear ih; first | with_reducible assumption | grind | lia) (by clear ih; first | with_reducible assumption | grind | lia) (by clear ih; first | with_reducible assumption | grind | lia) ?_
              intro h17i3 Th17i3 ih17i3 ah17i3
              refine r_Mo_o Th17i3 kv0 ?_
              refine c_Mod_isMember (v0 := v0) Th17i3 kv0 (by clear ih; first | with_reducible assumption | grind | lia) ?_
              intro yr19i3 hr19i3 Tr19i3 gr19i3_0 gr19i3_1 gr19i3_2 gr19i3_3 gr19i3_4
              dsimp only
              refine qk_bs ?_
              refine qk_if (fun cc9 => ?_) (fun cc9 => ?_)
              · skip
                refine qk_some ?_
                exact ⟨Tr19i3, (by clear ih; intro a k n0; rw [gr19i3_1 a k (by omega), ih17i3, if_neg (by omega), ih9i3, if_neg (by omega), gr2i3_1 a k (by omega)]), (by clear ih; intro a j ; rw [gr19i3_2 a j, ah17i3, ah9i3, gr2i3_2 a j]), (by clear ih; first | with_reducible assumption | grind | lia), (by clear ih; first | with_reducible assumption | grind | lia)⟩
              · skip
                refine r_Mo_o Tr19i3 kv0 ?_
                refine c_Mod_here (v0 := v0) Tr19i3 kv0 ?_
                intro yr23i3 gr23i3_0 gr23i3_1 gr23i3_2 gr23i3_3
                dsimp only
                refine qk_bs ?_
                refine qk_if (fun cc10 => ?_) (fun cc10 => ?_)
                · skip
                  unfold f_Mod_set_192
                  refine r_Mo_41 Tr19i3 kv0 ?_
                  intro x1i11 ex1i11 lx1i11 ux1i11
                  subst ex1i11
                  refine w_Mo_41 Tr19i3 kv0 (by clear ih; first | with_reducible assumption | grind | lia) (by clear ih; first | with_reducible assumption | grind | lia) (by clear ih; first | with_reducible assumption | grind | lia) ?_
                  intro h2i11 Th2i11 ih2i11 ah2i11
                  unfold f_Mod_set_202
                  refine r_Mo_o Th2i11 kv0 ?_
                  refine c_Mod_put (v0 := v0) (v1 := v2) (v2 := (yr6i3)) (v3 := (yr23i3)) Th2i11 kv0 (by clear ih; first | with_reducible assumption | grind | lia) (by clear ih; first | with_reducible assumption | grind | lia) (by clear ih; first | with_reducible assumption | grind | lia) (by clear ih; first | with_reducible assumption | grind | lia) (by clear ih; first | with_reducible assumption | grind | lia) (by clear ih; first | with_reducible assumption | grind | lia) (by clear ih; first | with_reducible assumption | grind | lia) ?_
                  intro r2i12 Tr2i12 gr2i12_0 gr2i12_1
                  refine qk_mono (ih (v0) (v2) (v3) (1) r2i12 Tr2i12 kv0 (by clear ih; first | with_reducible assumption | grind | lia) (by clear ih; first | with_reducible assumption | grind | lia) (by clear ih; first | with_reducible assumption | grind | lia) (by clear ih; first | with_reducible assumption | grind | lia) (by clear ih; first | with_reducible assumption | grind | lia) (by clear ih; first | with_reducible assumption | grind | lia) (by clear ih; first | with_reducible assumption | grind | lia)) ?_
                  rintro hz ⟨Tz, g0, g1, g2, g3⟩
                  try dsimp only at *
                  exact ⟨Tz, (by clear ih; intro a k n0; rw [g0 a k (by omega), gr2i12_0 a k, ih2i11, if_neg (by omega), gr19i3_1 a k (by omega), ih17i3, if_neg (by omega), ih9i3, if_neg (by omega), gr2i3_1 a k (by omega)]), (by clear ih; intro a j ; rw [g1 a j, gr2i12_1 a j, ah2i11, gr19i3_2 a j, ah17i3, ah9i3, gr2i3_2 a j]), (by clear ih; first | with_reducible assumption | grind | lia), (by clear ih; first | with_reducible assumption | grind | lia)⟩
                · skip
                  refine r_Mo_41 Tr19i3 kv0 ?_
                  intro x26i3 ex26i3 lx26i3 ux26i3
                  subst ex26i3
                  refine r_Mo_o Tr19i3 kv0 ?_
                  refine c_Mod_wrong (v0 := v0) (v1 := (vI hr19i3 v0 41)) Tr19i3 kv0 (by clear ih; first | with_reducible assumption | grind | lia) ?_
                  intro r28i3 Tr28i3 gr28i3_0 gr28i3_1 gr28i3_2
                  unfold f_Mod_set_192
                  refine r_Mo_41 Tr28i3 kv0 ?_
                  intro x1i14 ex1i14 lx1i14 ux1i14
                  subst ex1i14
                  refine w_Mo_41 Tr28i3 kv0 (by clear ih; first | with_reducible assumption | grind | lia) (by clear ih; first | with_reducible assumption | grind | lia) (by clear ih; first | with_reducible assumption | grind | lia) ?_
                  intro h2i14 Th2i14 ih2i14 ah2i14
                  unfold f_Mod_set_202
                  refine r_Mo_o Th2i14 kv0 ?_
                  refine c_Mod_put (v0 := v0) (v1 := v2) (v2 := (yr6i3)) (v3 := (yr23i3)) Th2i14 kv0 (by clear ih; first | with_reducible assumption | grind | lia) (by clear ih; first | with_reducible assumption | grind | lia) (by clear ih; first | with_reducible assumption | grind | lia) (by clear ih; first | with_reducible assumption | grind | lia) (by clear ih; first | with_reducible assumption | grind | lia) (by clear ih; first | with_reducible assumption | grind | lia) (by clear ih; first | with_reducible assumption | grind | lia) ?_
                  intro r2i15 Tr2i15 gr2i15_0 gr2i15_1
                  refine qk_mono (ih (v0) (v2) (v3) (1) r2i15 Tr2i15 kv0 (by clear ih; first | with_reducible assumption | grind | lia) (by clear ih; first | with_reducible assumption | grind | lia) (by clear ih; first | with_reducible assumption | grind | lia) (by clear ih; first | with_reducible assumption | grind | lia) (by clear ih; first | with_reducible assumption | grind | lia) (by clear ih; first | with_reducible assumption | grind | lia) (by clear ih; first | with_reducible assumption | grind | lia)) ?_
                  rintro hz ⟨Tz, g0, g1, g2, g3⟩
                  try dsimp only at *
                  exact ⟨Tz, (by clear ih; intro a k n0; rw [g0 a k (by omega), gr2i15_0 a k, ih2i14, if_neg (by omega), gr28i3_0 a k (by omega), gr19i3_1 a k (by omega), ih17i3, if_neg (by omega), ih9i3, if_neg (by omega), gr2i3_1 a k (by omega)]), (by clear ih; intro a j ; rw [g1 a j, gr2i15_1 a j, ah2i14, gr28i3_2 a j, gr19i3_2 a j, ah17i3, ah9i3, gr2i3_2 a j]), (by clear ih; first | with_reducible assumption | grind | lia), (by clear ih; first | with_reducible assumption | grind | lia)⟩
          · skip
            unfold f_Mod_set_202
            refine r_Mo_o Th9i3 kv0 ?_
            refine c_Mod_put (v0 := v0) (v1 := v2) (v2 := (yr6i3)) (v3 := (yr6i3)) Th9i3 kv0 (by clear ih; first | with_reducible assumption | grind | lia) (by clear ih; first | with_reducible assumption | grind | lia) (by clear ih; first | with_reducible assumption | grind | lia) (by clear ih; first | with_reducible assumption | grind | lia) (by clear ih; first | with_reducible assumption | grind | lia) (by clear ih; first | with_reducible assumption | grind | lia) (by clear ih; first | with_reducible assumption | grind | lia) ?_
            intro r2i17 Tr2i17 gr2i17_0 gr2i17_1
            refine qk_mono (ih (v0) (v2) (v3) (1) r2i17 Tr2i17 kv0 (by clear ih; first | with_reducible assumption | grind | lia) (by clear ih; first | with_reducible assumption | grind | lia) (by clear ih; first | with_reducible assumption | grind | lia) (by clear ih; first | with_reducible assumption | grind | lia) (by clear ih; first | with_reducible assumption | grind | lia) (by clear ih; first | with_reducible assumption | grind | lia) (by clear ih; first | with_reducible assumption | grind | lia)) ?_
            rintro hz ⟨Tz, g0, g1, g2, g3⟩
            try dsimp only at *
            exact ⟨Tz, (by clear ih; intro a k n0; rw [g0 a k (by omega), gr2i17_0 a k, ih9i3, if_neg (by omega), gr2i3_1 a k (by omega)]), (by clear ih; intro a j ; rw [g1 a j, gr2i17_1 a j, ah9i3, gr2i3_2 a j]), (by clear ih; first | with_reducible assumption | grind | lia), (by clear ih; first | with_reducible assumption | grind | lia)⟩
      · skip
        refine r_Mo_o T kv0 ?_
        refine c_Mod_here (v0 := v0) T kv0 ?_
        intro yr5 gr5_0 gr5_1 gr5_2 gr5_3
        dsimp only
        refine qk_if (fun cc19 => ?_) (fun cc19 => ?_)
        · skip
          unfold f_Mod_set_217
          refine r_Mo_41 T kv0 ?_
          intro x1i20 ex1i20 lx1i20 ux1i20
          subst ex1i20
          refine w_Mo_41 T kv0 (by clear ih; first | with_reducible assumption | grind | lia) (by clear ih; first | with_reducible assumption | grind | lia) (by clear ih; first | with_reducible assumption | grind | lia) ?_
          intro h2i20 Th2i20 ih2i20 ah2i20
          refine qk_if (fun cc21 => ?_) (fun cc21 => ?_)
          · skip
            refine qk_some ?_
            exact ⟨Th2i20, (by clear ih; intro a k n0; rw [ih2i20, if_neg (by omega)]), (by clear ih; intro a j ; rw [ah2i20]), (by clear ih; first | with_reducible assumption | grind | lia), (by clear ih; first | with_reducible assumption | grind | lia)⟩
          · skip
            refine r_Mo_37 Th2i20 kv0 ?_
            refine r_Mo_37 Th2i20 kv0 ?_
            refine r_Mo_e32 Th2i20 kv0 (by clear ih; first | with_reducible assumption | grind | lia) (by clear ih; first | with_reducible assumption | grind | lia) ?_
            intro x6i20
            refine w_Mo_e32 Th2i20 kv0 (by clear ih; first | with_reducible assumption | grind | lia) (by clear ih; first | with_reducible assumption | grind | lia) (by clear ih; first | with_reducible assumption | grind | lia) ?_
            intro h7i20 Th7i20 ih7i20 ah7i20
            refine r_Mo_38 Th7i20 kv0 ?_
            refine r_Mo_38 Th7i20 kv0 ?_
            refine r_Mo_e33 Th7i20 kv0 (by clear ih; first | with_reducible assumption | grind | lia) (by clear ih; first | with_reducible assumption | grind | lia) ?_
            intro x10i20
            refine w_Mo_e33 Th7i20 kv0 (by clear ih; first | with_reducible assumption | grind | lia) (by clear ih; first | with_reducible assumption | grind | lia) (by clear ih; first | with_reducible assumption | grind | lia) ?_
            intro h11i20 Th11i20 ih11i20 ah11i20
            refine qk_some ?_
            exact ⟨Th11i20, (by clear ih; intro a k n0; rw [ih11i20, ih7i20, ih2i20, if_neg (by omega)]), (by clear ih; intro a j ; rw [ah11i20, ah7i20, ah2i20]), (by clear ih; first | with_reducible assumption | grind | lia), (by clear ih; first | with_reducible assumption | grind | lia)⟩
        · skip
          unfold f_Mod_set_99
          refine r_Mo_o T kv0 ?_
          refine c_Mod_isMember (v0 := v0) T kv0 (by clear ih; first | with_reducible assumption | grind | lia) ?_
          intro yr2i22 hr2i22 Tr2i22 gr2i22_0 gr2i22_1 gr2i22_2 gr2i22_3 gr2i22_4
          dsimp only
          refine qk_bs ?_
          refine qk_if (fun cc23 => ?_) (fun cc23 => ?_)
          · skip
            refine qk_some ?_
            exact ⟨Tr2i22, (by clear ih; intro a k n0; rw [gr2i22_1 a k (by omega)]), (by clear ih; intro a j ; rw [gr2i22_2 a j]), (by clear ih; first | with_reducible assumption | grind | lia), (by clear ih; first | with_reducible assumption | grind | lia)⟩
          · skip
            refine r_Mo_o Tr2i22 kv0 ?_
            refine c_Mod_here (v0 := v0) Tr2i22 kv0 ?_
            intro yr6i22 gr6i22_0 gr6i22_1 gr6i22_2 gr6i22_3
            dsimp only
            refine qk_bs ?_
            refine r_Mo_41 Tr2i22 kv0 ?_
            intro x8i22 ex8i22 lx8i22 ux8i22
            subst ex8i22
            refine w_Mo_41 Tr2i22 kv0 (by clear ih; first | with_reducible assumption | grind | lia) (by clear ih; first | with_reducible assumption | grind | lia) (by clear ih; first | with_reducible assumption | grind | lia) ?_
            intro h9i22 Th9i22 ih9i22 ah9i22
            refine r_Mo_o Th9i22 kv0 ?_
            refine c_Mod_here (v0 := v0) Th9i22 kv0 ?_
            intro yr11i22 gr11i22_0 gr11i22_1 gr11i22_2 gr11i22_3
            dsimp only
            refine qk_if (fun cc24 => ?_) (fun cc24 => ?_)
            · skip
              refine r_Mo_o Th9i22 kv0 ?_
              refine c_Mod_behind (v0 := v0) Th9i22 kv0 ?_
              intro yr14i22 gr14i22_0 gr14i22_1
              dsimp only
              refine qk_if (fun cc25 => ?_) (fun cc25 => ?_)
              · skip
                unfold f_Mod_set_202
                refine r_Mo_o Th9i22 kv0 ?_
                refine c_Mod_put (v0 := v0) (v1 := v2) (v2 := (yr6i22)) (v3 := (yr6i22)) Th9i22 kv0 (by clear ih; first | with_reducible assumption | grind | lia) (by clear ih; first | with_reducible assumption | grind | lia) (by clear ih; first | with_reducible assumption | grind | lia) (by clear ih; first | with_reducible assumption | grind | lia) (by clear ih; first | with_reducible assumption | grind | lia) (by clear ih; first | with_reducible assumption | grind | lia) (by clear ih; first | with_reducible assumption | grind | lia) ?_
                intro r2i26 Tr2i26 gr2i26_0 gr2i26_1
                refine qk_mono (ih (v0) (v2) (v3) (1) r2i26 Tr2i26 kv0 (by clear ih; first | with_reducible assumption | grind | lia) (by clear ih; first | with_reducible assumption | grind | lia) (by clear ih; first | with_reducible assumption | grind | lia) (by clear ih; first | with_reducible assumption | grind | lia) (by clear ih; first | with_reducible assumption | grind | lia) (by clear ih; first | with_reducible assumption | grind | lia) (by clear ih; first | with_reducible assumption | grind | lia)) ?_
                rintro hz ⟨Tz, g0, g1, g2, g3⟩
                try dsimp only at *
                exact ⟨Tz, (by clear ih; intro a k n0; rw [g0 a k (by omega), gr2i26_0 a k, ih9i22, if_neg (by omega), gr2i22_1 a k (by omega)]), (by clear ih; intro a j ; rw [g1 a j, gr2i26_1 a j, ah9i22, gr2i22_2 a j]), (by clear ih; first | with_reducible assumption | grind | lia), (by clear ih; first | with_reducible assumption | grind | lia)⟩
              · skip
                refine r_Mo_41 Th9i22 kv0 ?_
                intro x16i22 ex16i22 lx16i22 ux16i22
                subst ex16i22
                refine w_Mo_41 Th9i22 kv0 (by clear ih; first | with_reducible assumption | grind | lia) (by clear ih; first | with_reducible assumption | grind | lia) (by clear ih; first | with_reducible assumption | grind | lia) ?_
                intro h17i22 Th17i22 ih17i22 ah17i22
                refine r_Mo_o Th17i22 kv0 ?_
                refine c_Mod_isMember (v0 := v0) Th17i22 kv0 (by clear ih; first | with_reducible assumption | grind | lia) ?_
                intro yr19i22 hr19i22 Tr19i22 gr19i22_0 gr19i22_1 gr19i22_2 gr19i22_3 gr19i22_4
                dsimp only
                refine qk_bs ?_
                refine qk_if (fun cc28 => ?_) (fun cc28 => ?_)
                · skip
                  refine qk_some ?_
                  exact ⟨Tr19i22, (by clear ih; intro a k n0; rw [gr19i22_1 a k (by omega), ih17i22, if_neg (by omega), ih9i22, if_neg (by omega), gr2i22_1 a k (by omega)]), (by clear ih; intro a j ; rw [gr19i22_2 a j, ah17i22, ah9i22, gr2i22_2 a j]), (by clear ih; first | with_reducible assumption | grind | lia), (by clear ih; first | with_reducible assumption | grind | lia)⟩
                · skip
                  refine r_Mo_o Tr19i22 kv0 ?_
                  refine c_Mod_here (v0 := v0) Tr19i22 kv0 ?_
                  intro yr23i22 gr23i22_0 gr23i22_1 gr23i22_2 gr23i22_3
                  dsimp only
                  refine qk_bs ?_
                  refine qk_if (fun cc29 => ?_) (fun cc29 => ?_)
                  · skip
                    unfold f_Mod_set_192
                    refine r_Mo_41 Tr19i22 kv0 ?_
                    intro x1i30 ex1i30 lx1i30 ux1i30
                    subst ex1i30
                    refine w_Mo_41 Tr19i22 kv0 (by clear ih; first | with_reducible assumption | grind | lia) (by clear ih; first | with_reducible assumption | grind | lia) (by clear ih; first | with_reducible assumption | grind | lia) ?_
                    intro h2i30 Th2i30 ih2i30 ah2i30
                    unfold f_Mod_set_202
                    refine r_Mo_o Th2i30 kv0 ?_
                    refine c_Mod_put (v0 := v0) (v1 := v2) (v2 := (yr6i22)) (v3 := (yr23i22)) Th2i30 kv0 (by clear ih; first | with_reducible assumption | grind | lia) (by clear ih; first | with_reducible assumption | grind | lia) (by clear ih; first | with_reducible assumption | grind | lia) (by clear ih; first | with_reducible assumption | grind | lia) (by clear ih; first | with_reducible assumption | grind | lia) (by clear ih; first | with_reducible assumption | grind | lia) (by clear ih; first | with_reducible assumption | grind | lia) ?_
                    intro r2i31 Tr2i31 gr2i31_0 gr2i31_1
                    refine qk_mono (ih (v0) (v2) (v3) (1) r2i31 Tr2i31 kv0 (by clear ih; first | with_reducible assumption | grind | lia) (by clear ih; first | with_reducible assumption | grind | lia) (by clear ih; first | with_reducible assumption | grind | lia) (by clear ih; first | with_reducible assumption | grind | lia) (by clear ih; first | with_reducible assumption | grind | lia) (by clear ih; first | with_reducible assumption | grind | lia) (by clear ih; first | with_reducible assumption | grind | lia)) ?_
                    rintro hz ⟨Tz, g0, g1, g2, g3⟩
                    try dsimp only at *
                    exact ⟨Tz, (by clear ih; intro a k n0; rw [g0 a k (by omega), gr2i31_0 a k, ih2i30, if_neg (by omega), gr19i22_1 a k (by omega), ih17i22, if_neg (by omega), ih9i22, if_neg (by omega), gr2i22_1 a k (by omega)]), (by clear ih; intro a j ; rw [g1 a j, gr2i31_1 a j, ah2i30, gr19i22_2 a j, ah17i22, ah9i22, gr2i22_2 a j]), (by clear ih; first | with_reducible assumption | grind | lia), (by clear ih; first | with_reducible assumption | grind | lia)⟩
                  · skip
                    refine r_Mo_41 Tr19i22 kv0 ?_
                    intro x26i22 ex26i22 lx26i22 ux26i22
                    subst ex26i22
                    refine r_Mo_o Tr19i22 kv0 ?_
                    refine c_Mod_wrong (v0 := v0) (v1 := (vI hr19i22 v0 41)) Tr19i22 kv0 (by clear ih; first | with_reducible assumption | grind | lia) ?_
                    intro r28i22 Tr28i22 gr28i22_0 gr28i22_1 gr28i22_2
                    unfold f_Mod_set_192
                    refine r_Mo_41 Tr28i22 kv0 ?_
                    intro x1i33 ex1i33 lx1i33 ux1i33
                    subst ex1i33
                    refine w_Mo_41 Tr28i22 kv0 (by clear ih; first | with_reducible assumption | grind | lia) (by clear ih; first | with_reducible assumption | grind | lia) (by clear ih; first | with_reducible assumption | grind | lia) ?_
                    intro h2i33 Th2i33 ih2i33 ah2i33
                    unfold f_Mod_set_202
                    refine r_Mo_o Th2i33 kv0 ?_
                    refine c_Mod_put (v0 := v0) (v1 := v2) (v2 := (yr6i22)) (v3 := (yr23i22)) Th2i33 kv0 (by clear ih; first | with_reducible assumption | grind | lia) (by clear ih; first | with_reducible assumption | grind | lia) (by clear ih; first | with_reducible assumption | grind | lia) (by clear ih; first | with_reducible assumption | grind | lia) (by clear ih; first | with_reducible assumption | grind | lia) (by clear ih; first | with_reducible assumption | grind | lia) (by clear ih; first | with_reducible assumption | grind | lia) ?_
                    intro r2i34 Tr2i34 gr2i34_0 gr2i34_1
                    refine qk_mono (ih (v0) (v2) (v3) (1) r2i34 Tr2i34 kv0 (by clear ih; first | with_reducible assumption | grind | lia) (by clear ih; first | with_reducible assumption | grind | lia) (by clear ih; first | with_reducible assumption | grind | lia) (by clear ih; first | with_reducible assumption | grind | lia) (by clear ih; first | with_reducible assumption | grind | lia) (by clear ih; first | with_reducible assumption | grind | lia) (by clear ih; first | with_reducible assumption | grind | lia)) ?_
                    rintro hz ⟨Tz, g0, g1, g2, g3⟩
                    try dsimp only at *
                    exact ⟨Tz, (by clear ih; intro a k n0; rw [g0 a k (by omega), gr2i34_0 a k, ih2i33, if_neg (by omega), gr28i22_0 a k (by omega), gr19i22_1 a k (by omega), ih17i22, if_neg (by omega), ih9i22, if_neg (by omega), gr2i22_1 a k (by omega)]), (by clear ih; intro a j ; rw [g1 a j, gr2i34_1 a j, ah2i33, gr28i22_2 a j, gr19i22_2 a j, ah17i22, ah9i22, gr2i22_2 a j]), (by clear ih; first | with_reducible assumption | grind | lia), (by clear ih; first | with_reducible assumption | grind | lia)⟩
            · skip
              unfold f_Mod_set_202
              refine r_Mo_o Th9i22 kv0 ?_
              refine c_Mod_put (v0 := v0) (v1 := v2) (v2 := (yr6i22)) (v3 := (yr6i22)) Th9i22 kv0 (by clear ih; first | with_reducible assumption | grind | lia) (by clear ih; first | with_reducible assumption | grind | lia) (by clear ih; first | with_reducible assumption | grind | lia) (by clear ih; first | with_reducible assumption | grind | lia) (by clear ih; first | with_reducible assumption | grind | lia) (by clear ih; first | with_reducible assumption | grind | lia) (by clear ih; first | with_reducible assumption | grind | lia) ?_
              intro r2i36 Tr2i36 gr2i36_0 gr2i36_1
              refine qk_mono (ih (v0) (v2) (v3) (1) r2i36 Tr2i36 kv0 (by clear ih; first | with_reducible assumption | grind | lia) (by clear ih; first | with_reducible assumption | grind | lia) (by clear ih; first | with_reducible assumption | grind | lia) (by clear ih; first | with_reducible assumption | grind | lia) (by clear ih; first | with_reducible assumption | grind | lia) (by clear ih; first | with_reducible assumption | grind | lia) (by clear ih; first | with_reducible assumption | grind | lia)) ?_
              rintro hz ⟨Tz, g0, g1, g2, g3⟩
              try dsimp only at *
              exact ⟨Tz, (by clear ih; intro a k n0; rw [g0 a k (by omega), gr2i36_0 a k, ih9i22, if_neg (by omega), gr2i22_1 a k (by omega)]), (by clear ih; intro a j ; rw [g1 a j, gr2i36_1 a j, ah9i22, gr2i22_2 a j]), (by clear ih; first | with_reducible assumption | grind | lia), (by clear ih; first | with_reducible assumption | grind | lia)⟩
    · skip
      unfold f_Mod_set_217
      refine r_Mo_41 T kv0 ?_
      intro x1i38 ex1i38 lx1i38 ux1i38
      subst ex1i38
      refine w_Mo_41 T kv0 (by clear ih; first | with_reducible assumption | grind | lia) (by clear ih; first | with_reducible assumption | grind | lia) (by clear ih; first | with_reducible assumption | grind | lia) ?_
      intro h2i38 Th2i38 ih2i38 ah2i38
      refine qk_if (fun cc39 => ?_) (fun cc39 => ?_)
      · skip
        refine qk_some ?_
        exact ⟨Th2i38, (by clear ih; intro a k n0; rw [ih2i38, if_neg (by omega)]), (by clear ih; intro a j ; rw [ah2i38]), (by clear ih; first | with_reducible assumption | grind | lia), (by clear ih; first | with_reducible assumption | grind | lia)⟩
      · skip
        refine r_Mo_37 Th2i38 kv0 ?_
        refine r_Mo_37 Th2i38 kv0 ?_
        refine r_Mo_e32 Th2i38 kv0 (by clear ih; first | with_reducible assumption | grind | lia) (by clear ih; first | with_reducible assumption | grind | lia) ?_
        intro x6i38
        refine w_Mo_e32 Th2i38 kv0 (by clear ih; first | with_reducible assumption | grind | lia) (by clear ih; first | with_reducible assumption | grind | lia) (by clear ih; first | with_reducible assumption | grind | lia) ?_
        intro h7i38 Th7i38 ih7i38 ah7i38
        refine r_Mo_38 Th7i38 kv0 ?_
        refine r_Mo_38 Th7i38 kv0 ?_
        refine r_Mo_e33 Th7i38 kv0 (by clear ih; first | with_reducible assumption | grind | lia) (by clear ih; first | with_reducible assumption | grind | lia) ?_
        intro x10i38
        refine w_Mo_e33 Th7i38 kv0 (by clear ih; first | with_reducible assumption | grind | lia) (by clear ih; first | with_reducible assumption | grind | lia) (by clear ih; first | with_reducible assumption | grind | lia) ?_
        intro h11i38 Th11i38 ih11i38 ah11i38
        refine qk_some ?_
        exact ⟨Th11i38, (by clear ih; intro a k n0; rw [ih11i38, ih7i38, ih2i38, if_neg (by omega)]), (by clear ih; intro a j ; rw [ah11i38, ah7i38, ah2i38]), (by clear ih; first | with_reducible assumption | grind | lia), (by clear ih; first | with_reducible assumption | grind | lia)⟩
theorem p_Mod_set_78 {L : q_L} {W : Nat → Prop} {h0 : z_H} {π : Nat → Nat → Option Nat} {N : Nat} {h : z_H} {v0 : Nat} {v2 : Int32} {v3 : Int32} {v4 : Int32} (T : q_U L W h0 π h) (kv0 : q_M L π v0) (wM : ∀ a, v0 ≤ a → a < v0 + 46 → W a) (b0 : 0 ≤ v2) (b1 : v2 < 520) (hl : vI h v0 41 ≤ 241) (hl2 : vI h v0 48 = 0 → vI h v0 41 ≤ vI h v0 3) (hN : 100000 ≤ N) : qk (f_Mod_set_78 N  N v0 v2 v3 v4 h) (fun r => q_U L W h0 π r ∧ (∀ a k, ¬ (a = v0 ∧ (k = 5 ∨ k = 48 ∨ k = 41)) → vI r a k = vI h a k) ∧ (∀ a j, vA r a j = vA h a j) ∧ (vI h v0 41 ≤ vI r v0 41 ∧ vI r v0 41 ≤ 242) ∧ (vI r v0 48 = 0 → vI r v0 41 ≤ vI h v0 3)) := by
  have hq := q_qnN hN
  have rg_at := g_Mo_41 T kv0
  refine p_Mod_set_78_n (q_lo (M := 301) (by decide) (by decide)) N v0 v2 v3 v4 h T kv0 wM b0 b1 hl hl2 hN ?_ 
  show 301 - q_n N ≤ _
  rw [hq]
  split <;> lia

