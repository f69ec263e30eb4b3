set_option maxHeartbeats 3000000 in
theorem p_Pa_read_8_n {L : q_L} {W : Nat → Prop} {h0 : z_H} {N : Nat} {lo : Nat → Int32} (hqn : q_Q lo 242) : ∀ (n : Nat) (π : Nat → Nat → Option Nat) (pg : Nat) (v0 : Nat) (v3 : Int32) (h : z_H), q_U L W h0 π h → qκ L v0 = 7 → (qκ L pg = 10) → (π v0 5 = some pg) → (π (v0 + 1) 0 = some (pg + 1)) → (π (v0 + 2) 0 = some (v0 + 1)) → (∀ a, v0 ≤ a → a < v0 + 5 → W a) → (∀ a, pg ≤ a → a < pg + 249 → W a) → (v0 + 5 ≤ pg) → (vI h (pg + 3) 4 ≤ vI h (v0 + 1) 1) → (q_CA h pg) → (q_OB h pg v0) → (0 ≤ v3) → (v3 ≤ 241) → (100000 ≤ N) → (lo n ≤ v3) → qk (f_Pa_read_8 N  n v0 v3 h) (fun r => ∃ π1, q_U L W h0 π1 r.2 ∧ (∀ a k, ¬ (a = v0 ∧ k = 6) → ¬ (a = (v0 + 2) ∧ k = 1) → ¬ (a = (v0 + 2) ∧ k = 2) → π1 a k = π a k) ∧ (r.1 = 0 ∨ r.1 = 1) ∧ (r.1 = 1 → q_PG r.2 pg) ∧ (∀ a k, ¬ ((v0 ≤ a ∧ a < v0 + 5) ∨ (pg ≤ a ∧ a < pg + 249)) → vI r.2 a k = vI h a k) ∧ (∀ a j, 0 ≤ j → ¬ ((v0 ≤ a ∧ a < v0 + 5) ∨ (pg ≤ a ∧ a < pg + 249)) → vA r.2 a j = vA h a j)) := by
  intro n
  induction n with
  | zero => intro π pg v0 v3 h T kv0 kpg ppg ptx ppc wP wG sep z CA OB b0 b1 hN hms; have hz := hqn.1; exact absurd hms (by grind)
  | succ n ih =>
    intro π pg v0 v3 h T kv0 kpg ppg ptx ppc wP wG sep z CA OB b0 b1 hN hms
    obtain ⟨hq1, hq2, hq3⟩ := hqn.2 n
    rw [f_Pa_read_8]
    obtain ⟨kcu, kpr, cpa1, cpa2, cpa3, cpa4, cpa5⟩ := q_CPa T kv0
    obtain ⟨ktx, ctx, kit, cpg1, cpg2, cpg3⟩ := q_CProg T kpg
    have cit := q_CIt T kit
    unfold q_C_It at cit
    have tit := T.2.2.2.1 (pg + 3) 4
    rw [cit.1.1, cit.1.2] at tit
    have tsz := T.2.2.2.1 pg 3
    have tdp := T.2.2.2.1 v0 4
    have hsz : vI h pg 3 < 40 → Int32.toNatClampNeg (vI h pg 3) < 40 := fun z => q_cm40 (by grind) z (by decide)
    refine qk_if (fun cc1 => ?_) (fun cc1 => ?_)
    · skip
      unfold f_Pa_read_119
      refine r_Pa_4 T kv0 ?_
      intro x1i2 ex1i2 lx1i2 ux1i2
      subst ex1i2
      refine qk_if (fun cc3 => ?_) (fun cc3 => ?_)
      · skip
        refine r_Pa_o T kv0 ?_
        refine c_Pa_joinLabels (v0 := v0) (pg := pg) T kv0 kpg ppg (by clear ih; first | with_reducible assumption | grind | lia) (by clear ih; first | with_reducible assumption | grind | lia) (by clear ih; first | with_reducible assumption | grind | lia) ?_
        intro yr8i2 hr8i2 Tr8i2 gr8i2_0 gr8i2_1 gr8i2_2 gr8i2_3 gr8i2_4
        dsimp only
        refine qk_zB (by clear ih; first | with_reducible assumption | grind | lia) ?_
        refine qk_some ?_
        exact ⟨_, Tr8i2, (by clear ih; first | with_reducible assumption | grind | lia), (by clear ih; first | with_reducible assumption | grind | lia), (by clear ih; intro yy; exact q_PG_of CA OB (by grind) (by grind) (by grind) (by grind) (by grind) (by grind) (by grind) (by grind)), (by clear ih; first | with_reducible assumption | grind | lia), (by clear ih; first | with_reducible assumption | grind | lia)⟩
      · skip
        refine r_Pa_0 T kv0 ?_
        intro kx3i2
        refine r_Cur_o T kx3i2 ?_
        refine c_Cur_refuse (v0 := (v0 + 1)) (v1 := 0) T kx3i2 (by clear ih; first | with_reducible assumption | grind | lia) ?_
        intro yr5i2 hr5i2 Tr5i2 gr5i2_0 gr5i2_1 gr5i2_2
        dsimp only
        refine qk_zB (by clear ih; first | with_reducible assumption | grind | lia) ?_
        refine qk_some ?_
        exact ⟨_, Tr5i2, (by clear ih; first | with_reducible assumption | grind | lia), (by clear ih; first | with_reducible assumption | grind | lia), (by clear ih; intro yy; exact absurd yy (by grind)), (by clear ih; first | with_reducible assumption | grind | lia), (by clear ih; first | with_reducible assumption | grind | lia)⟩
    · skip
      refine r_Pa_0 T kv0 ?_
      intro kx2
      refine r_Cur_o T kx2 ?_
      refine c_Cur_look (v0 := (v0 + 1)) (v1 := 0) (tx := (pg + 1)) T kx2 ktx ptx (by clear ih; first | with_reducible assumption | grind | lia) (by clear ih; first | with_reducible assumption | grind | lia) (by clear ih; first | with_reducible assumption | grind | lia) ?_
      intro yr4 gr4_0 gr4_1 gr4_2 gr4_3 gr4_4
      simp only [Int32.add_zero] at gr4_2 gr4_3 gr4_4
      dsimp only
      refine qk_if (fun cc4 => ?_) (fun cc4 => ?_)
      · skip
        unfold f_Pa_read_119
        refine r_Pa_4 T kv0 ?_
        intro x1i5 ex1i5 lx1i5 ux1i5
        subst ex1i5
        refine qk_if (fun cc6 => ?_) (fun cc6 => ?_)
        · skip
          refine r_Pa_o T kv0 ?_
          refine c_Pa_joinLabels (v0 := v0) (pg := pg) T kv0 kpg ppg (by clear ih; first | with_reducible assumption | grind | lia) (by clear ih; first | with_reducible assumption | grind | lia) (by clear ih; first | with_reducible assumption | grind | lia) ?_
          intro yr8i5 hr8i5 Tr8i5 gr8i5_0 gr8i5_1 gr8i5_2 gr8i5_3 gr8i5_4
          dsimp only
          refine qk_zB (by clear ih; first | with_reducible assumption | grind | lia) ?_
          refine qk_some ?_
          exact ⟨_, Tr8i5, (by clear ih; first | with_reducible assumption | grind | lia), (by clear ih; first | with_reducible assumption | grind | lia), (by clear ih; intro yy; exact q_PG_of CA OB (by grind) (by grind) (by grind) (by grind) (by grind) (by grind) (by grind) (by grind)), (by clear ih; first | with_reducible assumption | grind | lia), (by clear ih; first | with_reducible assumption | grind | lia)⟩
        · skip
          refine r_Pa_0 T kv0 ?_
          intro kx3i5
          refine r_Cur_o T kx3i5 ?_
          refine c_Cur_refuse (v0 := (v0 + 1)) (v1 := 0) T kx3i5 (by clear ih; first | with_reducible assumption | grind | lia) ?_
          intro yr5i5 hr5i5 Tr5i5 gr5i5_0 gr5i5_1 gr5i5_2
          dsimp only
          refine qk_zB (by clear ih; first | with_reducible assumption | grind | lia) ?_
          refine qk_some ?_
          exact ⟨_, Tr5i5, (by clear ih; first | with_reducible assumption | grind | lia), (by clear ih; first | with_reducible assumption | grind | lia), (by clear ih; intro yy; exact absurd yy (by grind)), (by clear ih; first | with_reducible assumption | grind | lia), (by clear ih; first | with_reducible assumption | grind | lia)⟩
      · skip
        refine r_Pa_0 T kv0 ?_
        intro kx6
        refine r_Cur_o T kx6 ?_
        refine c_Cur_look (v0 := (v0 + 1)) (v1 := 0) (tx := (pg + 1)) T kx6 ktx ptx (by clear ih; first | with_reducible assumption | grind | lia) (by clear ih; first | with_reducible assumption | grind | lia) (by clear ih; first | with_reducible assumption | grind | lia) ?_
        intro yr8 gr8_0 gr8_1 gr8_2 gr8_3 gr8_4
        simp only [Int32.add_zero] at gr8_2 gr8_3 gr8_4
        dsimp only
        refine qk_bs ?_
        refine qk_if (fun cc7 => ?_) (fun cc7 => ?_)
        · skip
          unfold f_Pa_read_58
          refine r_Pa_0 T kv0 ?_
          intro kx1i8
          refine r_Cur_1 T kx1i8 ?_
          intro x2i8 ex2i8 lx2i8 ux2i8
          subst ex2i8
          refine w_Cur_1 T kx1i8 (by clear ih; first | with_reducible assumption | grind | lia) (q_inc01 (T.2.2.2.1 _ 1) (q_CCur T kx1i8)) (by first | exact q_inc1 (by clear ih; first | with_reducible assumption | grind -lia | grind) (q_inc00 (T.2.2.2.1 _ 1) (q_CCur T kx1i8)) | exact q_inc1b (by clear ih; first | with_reducible assumption | grind -lia | grind) (q_inc00 (T.2.2.2.1 _ 1) (q_CCur T kx1i8))) ?_
          intro h3i8 Th3i8 ih3i8 ah3i8
          refine qk_bs ?_
          refine qk_mono (ih _ _ (v0) ((v3 + 1)) h3i8 Th3i8 kv0 kpg ppg ptx ppc (by clear ih; first | with_reducible assumption | grind | lia) (by clear ih; first | with_reducible assumption | grind | lia) (by clear ih; first | with_reducible assumption | grind | lia) (by clear ih; first | with_reducible assumption | grind | lia) (by clear ih; exact q_CA_eq CA (by grind) (by grind) (by grind) (by grind)) (by clear ih; exact q_OB_eq OB (by grind) (by grind) (by grind) (by grind) (by grind) (by grind) (by grind)) (by clear ih; first | with_reducible assumption | grind | lia) (by clear ih; first | with_reducible assumption | grind | lia) (by clear ih; first | with_reducible assumption | grind | lia) (by clear ih; first | with_reducible assumption | grind | lia)) ?_
          rintro ⟨y, hz⟩ ⟨πz, Tz, z0, g0, g1, g2, g3⟩
          try dsimp only at *
          exact ⟨_, Tz, (by clear ih; first | with_reducible assumption | grind | lia), (by clear ih; first | with_reducible assumption | grind | lia), (by clear ih; intro yy; exact g1 yy), (by clear ih; first | with_reducible assumption | grind | lia), (by clear ih; first | with_reducible assumption | grind | lia)⟩
        · skip
          refine qk_if (fun cc10 => ?_) (fun cc10 => ?_)
          · skip
            unfold f_Pa_read_58
            refine r_Pa_0 T kv0 ?_
            intro kx1i11
            refine r_Cur_1 T kx1i11 ?_
            intro x2i11 ex2i11 lx2i11 ux2i11
            subst ex2i11
            refine w_Cur_1 T kx1i11 (by clear ih; first | with_reducible assumption | grind | lia) (q_inc01 (T.2.2.2.1 _ 1) (q_CCur T kx1i11)) (by first | exact q_inc1 (by clear ih; first | with_reducible assumption | grind -lia | grind) (q_inc00 (T.2.2.2.1 _ 1) (q_CCur T kx1i11)) | exact q_inc1b (by clear ih; first | with_reducible assumption | grind -lia | grind) (q_inc00 (T.2.2.2.1 _ 1) (q_CCur T kx1i11))) ?_
            intro h3i11 Th3i11 ih3i11 ah3i11
            refine qk_bs ?_
            refine qk_mono (ih _ _ (v0) ((v3 + 1)) h3i11 Th3i11 kv0 kpg ppg ptx ppc (by clear ih; first | with_reducible assumption | grind | lia) (by clear ih; first | with_reducible assumption | grind | lia) (by clear ih; first | with_reducible assumption | grind | lia) (by clear ih; first | with_reducible assumption | grind | lia) (by clear ih; exact q_CA_eq CA (by grind) (by grind) (by grind) (by grind)) (by clear ih; exact q_OB_eq OB (by grind) (by grind) (by grind) (by grind) (by grind) (by grind) (by grind)) (by clear ih; first | with_reducible assumption | grind | lia) (by clear ih; first | with_reducible assumption | grind | lia) (by clear ih; first | with_reducible assumption | grind | lia) (by clear ih; first | with_reducible assumption | grind | lia)) ?_
            rintro ⟨y, hz⟩ ⟨πz, Tz, z0, g0, g1, g2, g3⟩
            try dsimp only at *
            exact ⟨_, Tz, (by clear ih; first | with_reducible assumption | grind | lia), (by clear ih; first | with_reducible assumption | grind | lia), (by clear ih; intro yy; exact g1 yy), (by clear ih; first | with_reducible assumption | grind | lia), (by clear ih; first | with_reducible assumption | grind | lia)⟩
          · skip
            refine qk_if (fun cc13 => ?_) (fun cc13 => ?_)
            · skip
              unfold f_Pa_read_58
              refine r_Pa_0 T kv0 ?_
              intro kx1i14
              refine r_Cur_1 T kx1i14 ?_
              intro x2i14 ex2i14 lx2i14 ux2i14
              subst ex2i14
              refine w_Cur_1 T kx1i14 (by clear ih; first | with_reducible assumption | grind | lia) (q_inc01 (T.2.2.2.1 _ 1) (q_CCur T kx1i14)) (by first | exact q_inc1 (by clear ih; first | with_reducible assumption | grind -lia | grind) (q_inc00 (T.2.2.2.1 _ 1) (q_CCur T kx1i14)) | exact q_inc1b (by clear ih; first | with_reducible assumption | grind -lia | grind) (q_inc00 (T.2.2.2.1 _ 1) (q_CCur T kx1i14))) ?_
              intro h3i14 Th3i14 ih3i14 ah3i14
              refine qk_bs ?_
              refine qk_mono (ih _ _ (v0) ((v3 + 1)) h3i14 Th3i14 kv0 kpg ppg ptx ppc (by clear ih; first | with_reducible assumption | grind | lia) (by clear ih; first | with_reducible assumption | grind | lia) (by clear ih; first | with_reducible assumption | grind | lia) (by clear ih; first | with_reducible assumption | grind | lia) (by clear ih; exact q_CA_eq CA (by grind) (by grind) (by grind) (by grind)) (by clear ih; exact q_OB_eq OB (by grind) (by grind) (by grind) (by grind) (by grind) (by grind) (by grind)) (by clear ih; first | with_reducible assumption | grind | lia) (by clear ih; first | with_reducible assumption | grind | lia) (by clear ih; first | with_reducible assumption | grind | lia) (by clear ih; first | with_reducible assumption | grind | lia)) ?_
              rintro ⟨y, hz⟩ ⟨πz, Tz, z0, g0, g1, g2, g3⟩
              try dsimp only at *
              exact ⟨_, Tz, (by clear ih; first | with_reducible assumption | grind | lia), (by clear ih; first | with_reducible assumption | grind | lia), (by clear ih; intro yy; exact g1 yy), (by clear ih; first | with_reducible assumption | grind | lia), (by clear ih; first | with_reducible assumption | grind | lia)⟩
            · skip
              refine qk_if (fun cc16 => ?_) (fun cc16 => ?_)
              · skip
                refine r_Pa_o T kv0 ?_
                refine c_Pa_closeBlock (v0 := v0) (pg := pg) T kv0 kpg ppg ptx (by clear ih; first | with_reducible assumption | grind | lia) (by clear ih; first | with_reducible assumption | grind | lia) (by clear ih; first | with_reducible assumption | grind | lia) ?_
                intro yr25 hr25 Tr25 gr25_0 gr25_1 gr25_2 gr25_3 gr25_4 gr25_5 gr25_6
                dsimp only
                refine qk_if (fun cc17 => ?_) (fun cc17 => ?_)
                · skip
                  refine qk_some ?_
                  exact ⟨_, Tr25, (by clear ih; first | with_reducible assumption | grind | lia), (by clear ih; first | with_reducible assumption | grind | lia), (by clear ih; intro yy; exact absurd (show (0 : Int32) = 1 from yy) (by decide)), (by clear ih; first | with_reducible assumption | grind | lia), (by clear ih; first | with_reducible assumption | grind | lia)⟩
                · skip
                  refine qk_bs ?_
                  refine qk_mono (ih _ _ (v0) ((v3 + 1)) hr25 Tr25 kv0 kpg ppg ptx ppc (by clear ih; first | with_reducible assumption | grind | lia) (by clear ih; first | with_reducible assumption | grind | lia) (by clear ih; first | with_reducible assumption | grind | lia) (by clear ih; first | with_reducible assumption | grind | lia) (by clear ih; exact q_CA_eq CA (by grind) (by grind) (by grind) (by grind)) (by clear ih; exact q_OB_eq OB (by grind) (by grind) (by grind) (by grind) (by grind) (by grind) (by grind)) (by clear ih; first | with_reducible assumption | grind | lia) (by clear ih; first | with_reducible assumption | grind | lia) (by clear ih; first | with_reducible assumption | grind | lia) (by clear ih; first | with_reducible assumption | grind | lia)) ?_
                  rintro ⟨y, hz⟩ ⟨πz, Tz, z0, g0, g1, g2, g3⟩
                  try dsimp only at *
                  exact ⟨_, Tz, (by clear ih; first | with_reducible assumption | grind | lia), (by clear ih; first | with_reducible assumption | grind | lia), (by clear ih; intro yy; exact g1 yy), (by clear ih; first | with_reducible assumption | grind | lia), (by clear ih; first | with_reducible assumption | grind | lia)⟩
              · skip
                refine r_Pa_o T kv0 ?_
                refine c_Pa_beginCommand (v0 := v0) (pg := pg) T kv0 kpg ppg ptx (by clear ih; first | with_reducible assumption | grind | lia) (by clear ih; first | with_reducible assumption | grind | lia) ?_
                intro yr15 πr15 hr15 Tr15 zr15  gr15_0 gr15_1 gr15_2 gr15_3 gr15_4 gr15_5 gr15_6
                have ppg_r15 : πr15 v0 5 = some pg := by rw [zr15 v0 5 (by grind)]; exact ppg
                have ptx_r15 : πr15 (v0 + 1) 0 = some (pg + 1) := by rw [zr15 (v0 + 1) 0 (by grind)]; exact ptx
                have ppc_r15 : πr15 (v0 + 2) 0 = some (v0 + 1) := by rw [zr15 (v0 + 2) 0 (by grind)]; exact ppc
                dsimp only
                refine qk_if (fun cc19 => ?_) (fun cc19 => ?_)
                · skip
                  refine qk_some ?_
                  exact ⟨_, Tr15, (by clear ih; first | with_reducible assumption | grind | lia), (by clear ih; first | with_reducible assumption | grind | lia), (by clear ih; intro yy; exact absurd (show (0 : Int32) = 1 from yy) (by decide)), (by clear ih; first | with_reducible assumption | grind | lia), (by clear ih; first | with_reducible assumption | grind | lia)⟩
                · skip
                  have pq20 := gr15_1 (by grind)
                  have kq20 : qκ L (pg + (9 + 6 * Int32.toNatClampNeg (vI h pg 3))) = 2 := by exact ((q_CProg ‹_› ‹_›).2.2.2.2.2 _ (by grind) (by grind)).2
                  refine r_Pa_o Tr15 kv0 ?_
                  refine c_Pa_readAddresses (v0 := v0) (pg := pg) (cm := (pg + (9 + 6 * Int32.toNatClampNeg (vI h pg 3)))) Tr15 kv0 kpg ppg_r15 kq20 pq20 ptx_r15 ppc_r15 (by clear ih; first | with_reducible assumption | grind | lia) (by clear ih; first | with_reducible assumption | grind | lia) (by clear ih; first | with_reducible assumption | grind | lia) (by clear ih; first | with_reducible assumption | grind | lia) (by clear ih; first | with_reducible assumption | grind | lia) (by clear ih; first | with_reducible assumption | grind | lia) (by clear ih; first | with_reducible assumption | grind | lia) ?_
                  intro yr18 πr18 hr18 Tr18 zr18  gr18_0 gr18_1 gr18_2 gr18_3 gr18_4 gr18_5 gr18_6
                  have ppg_r18 : πr18 v0 5 = some pg := by rw [zr18 v0 5 (by grind) (by grind)]; exact ppg_r15
                  have ptx_r18 : πr18 (v0 + 1) 0 = some (pg + 1) := by rw [zr18 (v0 + 1) 0 (by grind) (by grind)]; exact ptx_r15
                  have ppc_r18 : πr18 (v0 + 2) 0 = some (v0 + 1) := by rw [zr18 (v0 + 2) 0 (by grind) (by grind)]; exact ppc_r15
                  have pq20_r18 : πr18 v0 6 = some (pg + (9 + 6 * Int32.toNatClampNeg (vI h pg 3))) := by rw [zr18 v0 6 (by grind) (by grind)]; exact pq20
                  dsimp only
                  refine qk_if (fun cc21 => ?_) (fun cc21 => ?_)
                  · skip
                    refine qk_some ?_
                    exact ⟨_, Tr18, (by clear ih; first | with_reducible assumption | grind | lia), (by clear ih; first | with_reducible assumption | grind | lia), (by clear ih; intro yy; exact absurd (show (0 : Int32) = 1 from yy) (by decide)), (by clear ih; first | with_reducible assumption | grind | lia), (by clear ih; first | with_reducible assumption | grind | lia)⟩
                  · skip
                    refine r_Pa_o Tr18 kv0 ?_
                    refine c_Pa_readAction (v0 := v0) (pg := pg) (cm := (pg + (9 + 6 * Int32.toNatClampNeg (vI h pg 3)))) Tr18 kv0 kpg ppg_r18 kq20 pq20_r18 ptx_r18 ppc_r18 (by clear ih; first | with_reducible assumption | grind | lia) (by clear ih; first | with_reducible assumption | grind | lia) (by clear ih; first | with_reducible assumption | grind | lia) (by clear ih; first | with_reducible assumption | grind | lia) (by clear ih; first | with_reducible assumption | grind | lia) (by clear ih; exact gr18_1 (by grind)) (by clear ih; first | with_reducible assumption | grind | lia) (by clear ih; first | with_reducible assumption | grind | lia) ?_
                    intro yr21 πr21 hr21 Tr21 zr21  gr21_0 gr21_1 gr21_2 gr21_3 gr21_4 gr21_5 gr21_6 gr21_7
                    have ppg_r21 : πr21 v0 5 = some pg := by rw [zr21 v0 5 (by grind) (by grind)]; exact ppg_r18
                    have ptx_r21 : πr21 (v0 + 1) 0 = some (pg + 1) := by rw [zr21 (v0 + 1) 0 (by grind) (by grind)]; exact ptx_r18
                    have ppc_r21 : πr21 (v0 + 2) 0 = some (v0 + 1) := by rw [zr21 (v0 + 2) 0 (by grind) (by grind)]; exact ppc_r18
                    have pq20_r21 : πr21 v0 6 = some (pg + (9 + 6 * Int32.toNatClampNeg (vI h pg 3))) := by rw [zr21 v0 6 (by grind) (by grind)]; exact pq20_r18
                    dsimp only
                    refine qk_if (fun cc22 => ?_) (fun cc22 => ?_)
                    · skip
                      refine qk_some ?_
                      exact ⟨_, Tr21, (by clear ih; first | with_reducible assumption | grind | lia), (by clear ih; first | with_reducible assumption | grind | lia), (by clear ih; intro yy; exact absurd (show (0 : Int32) = 1 from yy) (by decide)), (by clear ih; have hb := hsz (by grind); intro a k hh; rw [gr21_3 a k (by omega), gr18_3 a k (by omega), gr15_4 a k (by omega)]), (by clear ih; have hb := hsz (by grind); intro a j j0 hh; rw [gr21_5 a j j0 (by omega), gr18_4 a j j0 (by omega), gr15_5 a j])⟩
                    · skip
                      refine qk_bs ?_
                      refine qk_mono (ih _ _ (v0) ((v3 + 1)) hr21 Tr21 kv0 kpg ppg_r21 ptx_r21 ppc_r21 (by clear ih; first | with_reducible assumption | grind | lia) (by clear ih; first | with_reducible assumption | grind | lia) (by clear ih; first | with_reducible assumption | grind | lia) (by clear ih; first | with_reducible assumption | grind | lia) (by clear ih; have hb := hsz (by grind); exact q_CA_add CA (by grind) (by grind) (by grind) (fun j j0 j1 => by have z1 := gr21_6 j j0 (by grind); have z2 := gr18_5 j j0 (by grind); have z3 := gr15_5 (pg + 3 + 1) j; have z4 := gr15_5 (pg + 3 + 2) j; grind) (by grind) (fun a k ha hb hk => by rw [gr21_3 a k (by omega), gr18_3 a k (by omega), gr15_4 a k (by omega)]) (gr21_1 (by grind))) (by clear ih; have hb := hsz (by grind); exact q_OB_add OB (by grind) (by grind) (by grind) (fun a k ha hb => by rw [gr21_3 a k (by omega), gr18_3 a k (by omega), gr15_4 a k (by omega)]) (by grind) (fun d d0 d1 => by have z0 : vI hr18 v0 4 = vI h v0 4 := (by rw [gr18_3 v0 4 (by omega), gr15_4 v0 4 (by omega)]); rw [gr21_5 (v0 + 3) d d0 (by rw [z0]; grind), gr18_4 (v0 + 3) d d0 (by omega), gr15_5]) (by have z0 : vI hr18 v0 4 = vI h v0 4 := (by rw [gr18_3 v0 4 (by omega), gr15_4 v0 4 (by omega)]); have z1 := gr21_4 (by grind); grind) (fun e => by have z0 : vI hr18 v0 4 = vI h v0 4 := (by rw [gr18_3 v0 4 (by omega), gr15_4 v0 4 (by omega)]); have z1 := (gr21_4 (by grind)).1 e; grind)) (by clear ih; first | with_reducible assumption | grind | lia) (by clear ih; first | with_reducible assumption | grind | lia) (by clear ih; first | with_reducible assumption | grind | lia) (by clear ih; first | with_reducible assumption | grind | lia)) ?_
                      rintro ⟨y, hz⟩ ⟨πz, Tz, z0, g0, g1, g2, g3⟩
                      try dsimp only at *
                      exact ⟨_, Tz, (by clear ih; first | with_reducible assumption | grind | lia), (by clear ih; first | with_reducible assumption | grind | lia), (by clear ih; intro yy; exact g1 yy), (by clear ih; have hb := hsz (by grind); intro a k hh; rw [g2 a k (by omega), gr21_3 a k (by omega), gr18_3 a k (by omega), gr15_4 a k (by omega)]), (by clear ih; have hb := hsz (by grind); intro a j j0 hh; rw [g3 a j j0 (by omega), gr21_5 a j j0 (by omega), gr18_4 a j j0 (by omega), gr15_5 a j])⟩
theorem p_Pa_read_8 {L : q_L} {W : Nat → Prop} {h0 : z_H} {π : Nat → Nat → Option Nat} {N : Nat} {pg : Nat} {h : z_H} {v0 : Nat} {v3 : Int32} (T : q_U L W h0 π h) (kv0 : qκ L v0 = 7) (kpg : qκ L pg = 10) (ppg : π v0 5 = some pg) (ptx : π (v0 + 1) 0 = some (pg + 1)) (ppc : π (v0 + 2) 0 = some (v0 + 1)) (wP : ∀ a, v0 ≤ a → a < v0 + 5 → W a) (wG : ∀ a, pg ≤ a → a < pg + 249 → W a) (sep : v0 + 5 ≤ pg) (z : vI h (pg + 3) 4 ≤ vI h (v0 + 1) 1) (CA : q_CA h pg) (OB : q_OB h pg v0) (b0 : 0 ≤ v3) (b1 : v3 ≤ 241) (hN : 100000 ≤ N) : qk (f_Pa_read_8 N  N v0 v3 h) (fun r => ∃ π1, q_U L W h0 π1 r.2 ∧ (∀ a k, ¬ (a = v0 ∧ k = 6) → ¬ (a = (v0 + 2) ∧ k = 1) → ¬ (a = (v0 + 2) ∧ k = 2) → π1 a k = π a k) ∧ (r.1 = 0 ∨ r.1 = 1) ∧ (r.1 = 1 → q_PG r.2 pg) ∧ (∀ a k, ¬ ((v0 ≤ a ∧ a < v0 + 5) ∨ (pg ≤ a ∧ a < pg + 249)) → vI r.2 a k = vI h a k) ∧ (∀ a j, 0 ≤ j → ¬ ((v0 ≤ a ∧ a < v0 + 5) ∨ (pg ≤ a ∧ a < pg + 249)) → vA r.2 a j = vA h a j)) := by
  have hq := q_qnN hN
  refine p_Pa_read_8_n (q_lo (M := 242) (by decide) (by decide)) N _ _ v0 v3 h T kv0 kpg ppg ptx ppc wP wG sep z CA OB b0 b1 hN ?_ 
  show 242 - q_n N ≤ _
  rw [hq]
  lia

set_option maxHeartbeats 4000000 in
theorem p_Pa_read {L : q_L} {W : Nat → Prop} {h0 : z_H} {π : Nat → Nat → Option Nat} {N : Nat} {h : z_H} {v0 : Nat} {v1 : Nat} {v2 : Nat} (T : q_U L W h0 π h) (kv0 : qκ L v0 = 7) (kv1 : qκ L v1 = 11) (kv2 : qκ L v2 = 10) (ppc : π (v0 + 2) 0 = some (v0 + 1)) (wP : ∀ a, v0 ≤ a → a < v0 + 5 → W a) (wG : ∀ a, v2 ≤ a → a < v2 + 249 → W a) (sep : v0 + 5 ≤ v2) (hN : 100000 ≤ N) : qk (f_Pa_read N v0 v1 v2 h) (fun r => ∃ π1, q_U L W h0 π1 r.2 ∧ (∀ a k, ¬ (a = v0 ∧ k = 5) → ¬ (a = (v0 + 1) ∧ k = 0) → ¬ (a = v0 ∧ k = 6) → ¬ (a = (v0 + 2) ∧ k = 1) → ¬ (a = (v0 + 2) ∧ k = 2) → π1 a k = π a k) ∧ (π1 v0 5 = some v2) ∧ (π1 (v0 + 1) 0 = some (v2 + 1)) ∧ (r.1 = 0 ∨ r.1 = 1) ∧ (r.1 = 1 → q_PG r.2 v2) ∧ (∀ a k, ¬ ((v0 ≤ a ∧ a < v0 + 5) ∨ (v2 ≤ a ∧ a < v2 + 249)) → vI r.2 a k = vI h a k) ∧ (∀ a j, 0 ≤ j → ¬ ((v0 ≤ a ∧ a < v0 + 5) ∨ (v2 ≤ a ∧ a < v2 + 249)) → vA r.2 a j = vA h a j)) := by
  have hr_v1 := q_rowhi T kv1
  obtain ⟨kcu, kpr, cpa1, cpa2, cpa3, cpa4, cpa5⟩ := q_CPa T kv0
  unfold f_Pa_read
  refine r_Pa_o T kv0 ?_
  refine c_Pa_begin (v0 := v0) (v1 := v1) (v2 := v2) T kv0 kv1 kv2 (by first | with_reducible assumption | grind | lia) (by first | with_reducible assumption | grind | lia) (by first | with_reducible assumption | grind | lia) ?_
  intro πr2 r2 Tr2 zr2 zr2_0 zr2_1 gr2_0 gr2_1 gr2_2 gr2_3 gr2_4 gr2_5
  have ppc_r2 : πr2 (v0 + 2) 0 = some (v0 + 1) := by rw [zr2 (v0 + 2) 0 (by grind) (by grind)]; exact ppc
  refine qk_mono (p_Pa_read_8 (v0 := v0) (v3 := 0) (pg := v2) Tr2 kv0 kv2 zr2_0 zr2_1 ppc_r2 (by first | with_reducible assumption | grind | lia) (by first | with_reducible assumption | grind | lia) (by first | with_reducible assumption | grind | lia) (by first | with_reducible assumption | grind | lia) (by intro i i0 i1; exact absurd i1 (by grind)) (by intro i i0 i1; exact absurd i1 (by grind)) (by first | with_reducible assumption | grind | lia) (by first | with_reducible assumption | grind | lia) (by first | with_reducible assumption | grind | lia)) ?_
  rintro ⟨y, hz⟩ ⟨πz, Tz, z0, g0, g1, g2, g3⟩
  try dsimp only at *
  exact ⟨_, Tz, (by first | with_reducible assumption | grind | lia), (by first | with_reducible assumption | grind | lia), (by first | with_reducible assumption | grind | lia), (by first | with_reducible assumption | grind | lia), (by first | with_reducible assumption | grind | lia), (by first | with_reducible assumption | grind | lia), (by first | with_reducible assumption | grind | lia)⟩
theorem c_Pa_read {L : q_L} {W : Nat → Prop} {h0 : z_H} {π : Nat → Nat → Option Nat} {N : Nat} {h : z_H} {v0 : Nat} {v1 : Nat} {v2 : Nat} {β : Type} {f : Int32 × z_H → Option β} {Q : β → Prop} (T : q_U L W h0 π h) (kv0 : qκ L v0 = 7) (kv1 : qκ L v1 = 11) (kv2 : qκ L v2 = 10) (ppc : π (v0 + 2) 0 = some (v0 + 1)) (wP : ∀ a, v0 ≤ a → a < v0 + 5 → W a) (wG : ∀ a, v2 ≤ a → a < v2 + 249 → W a) (sep : v0 + 5 ≤ v2) (hN : 100000 ≤ N) (H : ∀ y π1 h', q_U L W h0 π1 h' → (∀ a k, ¬ (a = v0 ∧ k = 5) → ¬ (a = (v0 + 1) ∧ k = 0) → ¬ (a = v0 ∧ k = 6) → ¬ (a = (v0 + 2) ∧ k = 1) → ¬ (a = (v0 + 2) ∧ k = 2) → π1 a k = π a k) → (π1 v0 5 = some v2) → (π1 (v0 + 1) 0 = some (v2 + 1)) → (y = 0 ∨ y = 1) → (y = 1 → q_PG h' v2) → (∀ a k, ¬ ((v0 ≤ a ∧ a < v0 + 5) ∨ (v2 ≤ a ∧ a < v2 + 249)) → vI h' a k = vI h a k) → (∀ a j, 0 ≤ j → ¬ ((v0 ≤ a ∧ a < v0 + 5) ∨ (v2 ≤ a ∧ a < v2 + 249)) → vA h' a j = vA h a j) → qk (f (y, h')) Q) : qk (z_b (f_Pa_read N v0 v1 v2 h) f) Q := by
  refine qk_b (p_Pa_read T kv0 kv1 kv2 ppc wP wG sep hN) ?_
  rintro ⟨y, hz⟩ ⟨π1, Tz, z0, z1, z2, g0, g1, g2, g3⟩
  exact H y π1 hz Tz z0 z1 z2 g0 g1 g2 g3
