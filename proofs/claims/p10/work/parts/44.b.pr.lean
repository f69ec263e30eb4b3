set_option maxHeartbeats 2000000 in
theorem p_Pr_readEscape {L : q_L} {W : Nat → Prop} {h0 : z_H} {π : Nat → Nat → Option Nat} {N : Nat} {cu : Nat} {it : Nat} {pt : Nat} {tx : Nat} {h : z_H} {v0 : Nat} (T : q_U L W h0 π h) (kv0 : qκ L v0 = 9) (kcu : qκ L cu = 3) (pcu : π v0 0 = some cu) (kit : qκ L it = 5) (pit : π v0 1 = some it) (kpt : qκ L pt = 8) (ppt : π v0 2 = some pt) (ktx : qκ L tx = 11) (ptx : π cu 0 = some tx) (ctx : qhi L tx 1 = 240) (w0 : W v0) (wc : W cu) (wi : W it) (wi1 : W (it + 1)) (wi2 : W (it + 2)) (wi3 : W (it + 3)) (wi4 : W (it + 4)) (wp : W pt) (J : q_J (vA h (it + 1)) (vA h (it + 2)) (vI h pt 2) (vI h it 4) (vI h pt 6) (vI h v0 5) (vI h v0 4) (vI h pt 4) (vI h pt 5) (vI h v0 6)) (z : vI h it 4 ≤ vI h cu 1) (hat : vI h cu 1 < 240) (hN : 100000 ≤ N) : qk (f_Pr_readEscape N v0 h) (fun r => q_U L W h0 π r.2 ∧ (r.1 = 0 ∨ r.1 = 1) ∧ (r.1 = 1 → q_J (vA r.2 (it + 1)) (vA r.2 (it + 2)) (vI r.2 pt 2) (vI r.2 it 4) (vI r.2 pt 6) (vI r.2 v0 5) (vI r.2 v0 4) (vI r.2 pt 4) (vI r.2 pt 5) (vI r.2 v0 6)) ∧ (r.1 = 1 → vI r.2 it 4 ≤ vI r.2 cu 1) ∧ (∀ a k, ¬ (a = cu ∨ a = it ∨ a = pt ∨ a = v0) → vI r.2 a k = vI h a k) ∧ (∀ a j, 0 ≤ j → ¬ (a = it + 1 ∨ a = it + 2) → vA r.2 a j = vA h a j) ∧ (∀ j, 0 ≤ j → j < vI h it 4 → vA r.2 (it + 1) j = vA h (it + 1) j ∧ vA r.2 (it + 2) j = vA h (it + 2) j) ∧ (vI h it 4 ≤ vI r.2 it 4) ∧ (vI r.2 pt 2 = vI h pt 2)) := by
  have hr_tx := q_rowhi T ktx
  have cit := q_CIt T kit
  have ccu := q_CCur T kcu
  unfold q_C_It at cit
  have tit := T.2.2.2.1 it 4
  have tpt := T.2.2.2.1 pt 6
  have tcu := T.2.2.2.1 cu 1
  rw [ccu.1.1, ccu.1.2] at tcu
  rw [cit.1.1, cit.1.2] at tit
  unfold f_Pr_readEscape
  refine r_Pr_0 T kv0 pcu ?_
  refine r_Cur_o T kcu ?_
  refine c_Cur_look (v0 := cu) (v1 := 1) (tx := tx) T kcu ktx ptx (by first | with_reducible assumption | grind | grind (ematch := 40) (gen := 40) (liaSteps := 300000) | lia) (by first | with_reducible assumption | grind | grind (ematch := 40) (gen := 40) (liaSteps := 300000) | lia) (by first | with_reducible assumption | grind | grind (ematch := 40) (gen := 40) (liaSteps := 300000) | lia) ?_
  intro yr3 gr3_0 gr3_1 gr3_2 gr3_3 gr3_4
  dsimp only
  refine qk_bs ?_
  refine qk_if (fun cc1 => ?_) (fun cc1 => ?_)
  · skip
    refine r_Pr_0 T kv0 pcu ?_
    refine r_Pr_o T kv0 ?_
    refine c_Pr_mayEscape (v0 := v0) (pt := pt) T kv0 kpt ppt ?_
    intro yr8 gr8_0
    dsimp only
    refine qk_if (fun cc2 => ?_) (fun cc2 => ?_)
    · skip
      unfold f_Pr_readEscape_140
      refine r_Cur_o T kcu ?_
      refine c_Cur_refuse (v0 := cu) (v1 := 0) T kcu (by first | with_reducible assumption | grind | grind (ematch := 40) (gen := 40) (liaSteps := 300000) | lia) ?_
      intro yr2i3 hr2i3 Tr2i3 gr2i3_0 gr2i3_1 gr2i3_2
      dsimp only
      refine qk_zB (by first | with_reducible assumption | grind | grind (ematch := 40) (gen := 40) (liaSteps := 300000) | lia) ?_
      refine qk_some ?_
      exact ⟨Tr2i3, (by first | with_reducible assumption | grind | grind (ematch := 40) (gen := 40) (liaSteps := 300000) | lia), (by first | with_reducible assumption | (intro yy; first | (exact absurd yy (by grind)) | exact q_J_eq J (by grind) (by grind) (by grind) (by grind) (by grind) (by grind) (by grind) (by grind) (by grind)) | grind), (by first | with_reducible assumption | grind | grind (ematch := 40) (gen := 40) (liaSteps := 300000) | lia), (by first | with_reducible assumption | grind | grind (ematch := 40) (gen := 40) (liaSteps := 300000) | lia), (by first | with_reducible assumption | grind | grind (ematch := 40) (gen := 40) (liaSteps := 300000) | lia), (by first | with_reducible assumption | grind | grind (ematch := 40) (gen := 40) (liaSteps := 300000) | lia), (by first | with_reducible assumption | grind | grind (ematch := 40) (gen := 40) (liaSteps := 300000) | lia), (by first | with_reducible assumption | grind | grind (ematch := 40) (gen := 40) (liaSteps := 300000) | lia)⟩
    · skip
      unfold f_Pr_readEscape_140
      refine r_Cur_o T kcu ?_
      refine c_Cur_refuse (v0 := cu) (v1 := 1) T kcu (by first | with_reducible assumption | grind | grind (ematch := 40) (gen := 40) (liaSteps := 300000) | lia) ?_
      intro yr2i4 hr2i4 Tr2i4 gr2i4_0 gr2i4_1 gr2i4_2
      dsimp only
      refine qk_zB (by first | with_reducible assumption | grind | grind (ematch := 40) (gen := 40) (liaSteps := 300000) | lia) ?_
      refine qk_some ?_
      exact ⟨Tr2i4, (by first | with_reducible assumption | grind | grind (ematch := 40) (gen := 40) (liaSteps := 300000) | lia), (by first | with_reducible assumption | (intro yy; first | (exact absurd yy (by grind)) | exact q_J_eq J (by grind) (by grind) (by grind) (by grind) (by grind) (by grind) (by grind) (by grind) (by grind)) | grind), (by first | with_reducible assumption | grind | grind (ematch := 40) (gen := 40) (liaSteps := 300000) | lia), (by first | with_reducible assumption | grind | grind (ematch := 40) (gen := 40) (liaSteps := 300000) | lia), (by first | with_reducible assumption | grind | grind (ematch := 40) (gen := 40) (liaSteps := 300000) | lia), (by first | with_reducible assumption | grind | grind (ematch := 40) (gen := 40) (liaSteps := 300000) | lia), (by first | with_reducible assumption | grind | grind (ematch := 40) (gen := 40) (liaSteps := 300000) | lia), (by first | with_reducible assumption | grind | grind (ematch := 40) (gen := 40) (liaSteps := 300000) | lia)⟩
  · skip
    refine qk_if (fun cc5 => ?_) (fun cc5 => ?_)
    · skip
      refine r_Pr_o T kv0 ?_
      refine c_Pr_addOne (v0 := v0) (cu := cu) (it := it) (pt := pt) (tx := tx) T kv0 kcu pcu kit pit kpt ppt ktx ptx (by first | with_reducible assumption | grind | grind (ematch := 40) (gen := 40) (liaSteps := 300000) | lia) (by first | with_reducible assumption | grind | grind (ematch := 40) (gen := 40) (liaSteps := 300000) | lia) (by first | with_reducible assumption | grind | grind (ematch := 40) (gen := 40) (liaSteps := 300000) | lia) (by first | with_reducible assumption | grind | grind (ematch := 40) (gen := 40) (liaSteps := 300000) | lia) (by first | with_reducible assumption | grind | grind (ematch := 40) (gen := 40) (liaSteps := 300000) | lia) (by first | with_reducible assumption | grind | grind (ematch := 40) (gen := 40) (liaSteps := 300000) | lia) (by first | with_reducible assumption | grind | grind (ematch := 40) (gen := 40) (liaSteps := 300000) | lia) (by first | with_reducible assumption | grind | grind (ematch := 40) (gen := 40) (liaSteps := 300000) | lia) (by first | with_reducible assumption | grind | grind (ematch := 40) (gen := 40) (liaSteps := 300000) | lia) (by first | with_reducible assumption | grind | grind (ematch := 40) (gen := 40) (liaSteps := 300000) | lia) (by first | with_reducible assumption | grind | grind (ematch := 40) (gen := 40) (liaSteps := 300000) | lia) (by first | with_reducible assumption | grind | grind (ematch := 40) (gen := 40) (liaSteps := 300000) | lia) ?_
      intro yr12 hr12 Tr12 gr12_0 gr12_1 gr12_2 gr12_3 gr12_4 gr12_5 gr12_6 gr12_7 gr12_8
      dsimp only
      refine qk_if (fun cc6 => ?_) (fun cc6 => ?_)
      · skip
        refine qk_some ?_
        exact ⟨Tr12, (by first | with_reducible assumption | grind | grind (ematch := 40) (gen := 40) (liaSteps := 300000) | lia), (by first | with_reducible assumption | (intro yy; first | (exact absurd yy (by grind)) | exact q_J_eq J (by grind) (by grind) (by grind) (by grind) (by grind) (by grind) (by grind) (by grind) (by grind) | exact q_J_eq (gr12_1 (by grind)) (by grind) (by grind) (by grind) (by grind) (by grind) (by grind) (by grind) (by grind) (by grind)) | grind), (by intro yy; exact absurd (show (0 : Int32) = 1 from yy) (by decide)), (by first | with_reducible assumption | grind | grind (ematch := 40) (gen := 40) (liaSteps := 300000) | lia), (by first | with_reducible assumption | grind | grind (ematch := 40) (gen := 40) (liaSteps := 300000) | lia), (by first | with_reducible assumption | grind | grind (ematch := 40) (gen := 40) (liaSteps := 300000) | lia), (by first | with_reducible assumption | grind | grind (ematch := 40) (gen := 40) (liaSteps := 300000) | lia), (by first | with_reducible assumption | grind | grind (ematch := 40) (gen := 40) (liaSteps := 300000) | lia)⟩
      · skip
        refine r_Pr_1 Tr12 kv0 pit ?_
        refine r_It_o Tr12 kit ?_
        refine c_It_allow (v0 := it) (v1 := (yr3)) (v2 := (yr3)) Tr12 kit (by first | with_reducible assumption | grind | grind (ematch := 40) (gen := 40) (liaSteps := 300000) | lia) (by first | with_reducible assumption | grind | grind (ematch := 40) (gen := 40) (liaSteps := 300000) | lia) (by first | with_reducible assumption | grind | grind (ematch := 40) (gen := 40) (liaSteps := 300000) | lia) (by first | with_reducible assumption | grind | grind (ematch := 40) (gen := 40) (liaSteps := 300000) | lia) (by first | with_reducible assumption | grind | grind (ematch := 40) (gen := 40) (liaSteps := 300000) | lia) (by first | with_reducible assumption | grind | grind (ematch := 40) (gen := 40) (liaSteps := 300000) | lia) ?_
        intro r16 Tr16 gr16_0 gr16_1
        refine r_Pr_0 Tr16 kv0 pcu ?_
        refine r_Cur_1 Tr16 kcu ?_
        intro x18 ex18 lx18 ux18
        subst ex18
        refine w_Cur_1 Tr16 kcu (by first | with_reducible assumption | grind | grind (ematch := 40) (gen := 40) (liaSteps := 300000) | lia) (q_inc02 (Tr16.2.2.2.1 _ 1) (q_CCur Tr16 kcu)) (by first | exact q_inc2 (by first | with_reducible assumption | grind -lia | grind) (q_inc00 (Tr16.2.2.2.1 _ 1) (q_CCur Tr16 kcu))) ?_
        intro h19 Th19 ih19 ah19
        refine qk_some ?_
        exact ⟨Th19, (by first | with_reducible assumption | grind | grind (ematch := 40) (gen := 40) (liaSteps := 300000) | lia), (by first | with_reducible assumption | (intro yy; first | (exact absurd yy (by grind)) | exact q_J_eq J (by grind) (by grind) (by grind) (by grind) (by grind) (by grind) (by grind) (by grind) (by grind) | exact q_J_eq (gr12_1 (by grind)) (by grind) (by grind) (by grind) (by grind) (by grind) (by grind) (by grind) (by grind) (by grind)) | grind), (by intro yy; exact q_zz (by grind -lia) (by first | grind -lia | grind) z (by first | with_reducible assumption | exact q_lt1 hat (by grind -lia) (by grind -lia) | grind -lia | grind) (by first | grind -lia | grind)), (by first | with_reducible assumption | grind | grind (ematch := 40) (gen := 40) (liaSteps := 300000) | lia), (by first | with_reducible assumption | grind | grind (ematch := 40) (gen := 40) (liaSteps := 300000) | lia), (by first | with_reducible assumption | grind | grind (ematch := 40) (gen := 40) (liaSteps := 300000) | lia), (by first | with_reducible assumption | grind | grind (ematch := 40) (gen := 40) (liaSteps := 300000) | lia), (by first | with_reducible assumption | grind | grind (ematch := 40) (gen := 40) (liaSteps := 300000) | lia)⟩
    · skip
      refine qk_if (fun cc7 => ?_) (fun cc7 => ?_)
      · skip
        refine r_Pr_o T kv0 ?_
        refine c_Pr_openGroup (v0 := v0) (cu := cu) (it := it) (pt := pt) (tx := tx) T kv0 kcu pcu kit pit kpt ppt ktx ptx (by first | with_reducible assumption | grind | grind (ematch := 40) (gen := 40) (liaSteps := 300000) | lia) (by first | with_reducible assumption | grind | grind (ematch := 40) (gen := 40) (liaSteps := 300000) | lia) (by first | with_reducible assumption | grind | grind (ematch := 40) (gen := 40) (liaSteps := 300000) | lia) (by first | with_reducible assumption | grind | grind (ematch := 40) (gen := 40) (liaSteps := 300000) | lia) (by first | with_reducible assumption | grind | grind (ematch := 40) (gen := 40) (liaSteps := 300000) | lia) (by first | with_reducible assumption | grind | grind (ematch := 40) (gen := 40) (liaSteps := 300000) | lia) (by first | with_reducible assumption | grind | grind (ematch := 40) (gen := 40) (liaSteps := 300000) | lia) (by first | with_reducible assumption | grind | grind (ematch := 40) (gen := 40) (liaSteps := 300000) | lia) (by first | with_reducible assumption | grind | grind (ematch := 40) (gen := 40) (liaSteps := 300000) | lia) (by first | with_reducible assumption | grind | grind (ematch := 40) (gen := 40) (liaSteps := 300000) | lia) (by first | with_reducible assumption | grind | grind (ematch := 40) (gen := 40) (liaSteps := 300000) | lia) (by first | with_reducible assumption | grind | grind (ematch := 40) (gen := 40) (liaSteps := 300000) | lia) ?_
        intro yr22 hr22 Tr22 gr22_0 gr22_1 gr22_2 gr22_3 gr22_4 gr22_5 gr22_6 gr22_7
        dsimp only
        refine qk_zB (by first | with_reducible assumption | grind | grind (ematch := 40) (gen := 40) (liaSteps := 300000) | lia) ?_
        refine qk_some ?_
        exact ⟨Tr22, (by first | with_reducible assumption | grind | grind (ematch := 40) (gen := 40) (liaSteps := 300000) | lia), (by first | with_reducible assumption | (intro yy; first | (exact absurd yy (by grind)) | exact q_J_eq J (by grind) (by grind) (by grind) (by grind) (by grind) (by grind) (by grind) (by grind) (by grind) | exact q_J_eq (gr22_1 (by grind)) (by grind) (by grind) (by grind) (by grind) (by grind) (by grind) (by grind) (by grind) (by grind)) | grind), (by first | with_reducible assumption | grind | grind (ematch := 40) (gen := 40) (liaSteps := 300000) | lia), (by first | with_reducible assumption | grind | grind (ematch := 40) (gen := 40) (liaSteps := 300000) | lia), (by first | with_reducible assumption | grind | grind (ematch := 40) (gen := 40) (liaSteps := 300000) | lia), (by first | with_reducible assumption | grind | grind (ematch := 40) (gen := 40) (liaSteps := 300000) | lia), (by first | with_reducible assumption | grind | grind (ematch := 40) (gen := 40) (liaSteps := 300000) | lia), (by first | with_reducible assumption | grind | grind (ematch := 40) (gen := 40) (liaSteps := 300000) | lia)⟩
      · skip
        refine qk_if (fun cc8 => ?_) (fun cc8 => ?_)
        · skip
          refine r_Pr_o T kv0 ?_
          refine c_Pr_closeGroup (v0 := v0) (cu := cu) (it := it) (pt := pt) (tx := tx) T kv0 kcu pcu kit pit kpt ppt ktx ptx (by first | with_reducible assumption | grind | grind (ematch := 40) (gen := 40) (liaSteps := 300000) | lia) (by first | with_reducible assumption | grind | grind (ematch := 40) (gen := 40) (liaSteps := 300000) | lia) (by first | with_reducible assumption | grind | grind (ematch := 40) (gen := 40) (liaSteps := 300000) | lia) (by first | with_reducible assumption | grind | grind (ematch := 40) (gen := 40) (liaSteps := 300000) | lia) (by first | with_reducible assumption | grind | grind (ematch := 40) (gen := 40) (liaSteps := 300000) | lia) (by first | with_reducible assumption | grind | grind (ematch := 40) (gen := 40) (liaSteps := 300000) | lia) (by first | with_reducible assumption | grind | grind (ematch := 40) (gen := 40) (liaSteps := 300000) | lia) (by first | with_reducible assumption | grind | grind (ematch := 40) (gen := 40) (liaSteps := 300000) | lia) (by first | with_reducible assumption | grind | grind (ematch := 40) (gen := 40) (liaSteps := 300000) | lia) (by first | with_reducible assumption | grind | grind (ematch := 40) (gen := 40) (liaSteps := 300000) | lia) (by first | with_reducible assumption | grind | grind (ematch := 40) (gen := 40) (liaSteps := 300000) | lia) (by first | with_reducible assumption | grind | grind (ematch := 40) (gen := 40) (liaSteps := 300000) | lia) ?_
          intro yr26 hr26 Tr26 gr26_0 gr26_1 gr26_2 gr26_3 gr26_4 gr26_5 gr26_6 gr26_7
          dsimp only
          refine qk_zB (by first | with_reducible assumption | grind | grind (ematch := 40) (gen := 40) (liaSteps := 300000) | lia) ?_
          refine qk_some ?_
          exact ⟨Tr26, (by first | with_reducible assumption | grind | grind (ematch := 40) (gen := 40) (liaSteps := 300000) | lia), (by first | with_reducible assumption | (intro yy; first | (exact absurd yy (by grind)) | exact q_J_eq J (by grind) (by grind) (by grind) (by grind) (by grind) (by grind) (by grind) (by grind) (by grind) | exact q_J_eq (gr26_1 (by grind)) (by grind) (by grind) (by grind) (by grind) (by grind) (by grind) (by grind) (by grind) (by grind)) | grind), (by first | with_reducible assumption | grind | grind (ematch := 40) (gen := 40) (liaSteps := 300000) | lia), (by first | with_reducible assumption | grind | grind (ematch := 40) (gen := 40) (liaSteps := 300000) | lia), (by first | with_reducible assumption | grind | grind (ematch := 40) (gen := 40) (liaSteps := 300000) | lia), (by first | with_reducible assumption | grind | grind (ematch := 40) (gen := 40) (liaSteps := 300000) | lia), (by first | with_reducible assumption | grind | grind (ematch := 40) (gen := 40) (liaSteps := 300000) | lia), (by first | with_reducible assumption | grind | grind (ematch := 40) (gen := 40) (liaSteps := 300000) | lia)⟩
        · skip
          refine qk_if (fun cc9 => ?_) (fun cc9 => ?_)
          · skip
            refine r_Pr_o T kv0 ?_
            refine c_Pr_addOne (v0 := v0) (cu := cu) (it := it) (pt := pt) (tx := tx) T kv0 kcu pcu kit pit kpt ppt ktx ptx (by first | with_reducible assumption | grind | grind (ematch := 40) (gen := 40) (liaSteps := 300000) | lia) (by first | with_reducible assumption | grind | grind (ematch := 40) (gen := 40) (liaSteps := 300000) | lia) (by first | with_reducible assumption | grind | grind (ematch := 40) (gen := 40) (liaSteps := 300000) | lia) (by first | with_reducible assumption | grind | grind (ematch := 40) (gen := 40) (liaSteps := 300000) | lia) (by first | with_reducible assumption | grind | grind (ematch := 40) (gen := 40) (liaSteps := 300000) | lia) (by first | with_reducible assumption | grind | grind (ematch := 40) (gen := 40) (liaSteps := 300000) | lia) (by first | with_reducible assumption | grind | grind (ematch := 40) (gen := 40) (liaSteps := 300000) | lia) (by first | with_reducible assumption | grind | grind (ematch := 40) (gen := 40) (liaSteps := 300000) | lia) (by first | with_reducible assumption | grind | grind (ematch := 40) (gen := 40) (liaSteps := 300000) | lia) (by first | with_reducible assumption | grind | grind (ematch := 40) (gen := 40) (liaSteps := 300000) | lia) (by first | with_reducible assumption | grind | grind (ematch := 40) (gen := 40) (liaSteps := 300000) | lia) (by first | with_reducible assumption | grind | grind (ematch := 40) (gen := 40) (liaSteps := 300000) | lia) ?_
            intro yr30 hr30 Tr30 gr30_0 gr30_1 gr30_2 gr30_3 gr30_4 gr30_5 gr30_6 gr30_7 gr30_8
            dsimp only
            refine qk_if (fun cc10 => ?_) (fun cc10 => ?_)
            · skip
              refine qk_some ?_
              exact ⟨Tr30, (by first | with_reducible assumption | grind | grind (ematch := 40) (gen := 40) (liaSteps := 300000) | lia), (by first | with_reducible assumption | (intro yy; first | (exact absurd yy (by grind)) | exact q_J_eq J (by grind) (by grind) (by grind) (by grind) (by grind) (by grind) (by grind) (by grind) (by grind) | exact q_J_eq (gr30_1 (by grind)) (by grind) (by grind) (by grind) (by grind) (by grind) (by grind) (by grind) (by grind) (by grind)) | grind), (by intro yy; exact absurd (show (0 : Int32) = 1 from yy) (by decide)), (by first | with_reducible assumption | grind | grind (ematch := 40) (gen := 40) (liaSteps := 300000) | lia), (by first | with_reducible assumption | grind | grind (ematch := 40) (gen := 40) (liaSteps := 300000) | lia), (by first | with_reducible assumption | grind | grind (ematch := 40) (gen := 40) (liaSteps := 300000) | lia), (by first | with_reducible assumption | grind | grind (ematch := 40) (gen := 40) (liaSteps := 300000) | lia), (by first | with_reducible assumption | grind | grind (ematch := 40) (gen := 40) (liaSteps := 300000) | lia)⟩
            · skip
              refine r_Pr_1 Tr30 kv0 pit ?_
              refine r_It_o Tr30 kit ?_
              refine c_It_allow (v0 := it) (v1 := (yr3)) (v2 := (yr3)) Tr30 kit (by first | with_reducible assumption | grind | grind (ematch := 40) (gen := 40) (liaSteps := 300000) | lia) (by first | with_reducible assumption | grind | grind (ematch := 40) (gen := 40) (liaSteps := 300000) | lia) (by first | with_reducible assumption | grind | grind (ematch := 40) (gen := 40) (liaSteps := 300000) | lia) (by first | with_reducible assumption | grind | grind (ematch := 40) (gen := 40) (liaSteps := 300000) | lia) (by first | with_reducible assumption | grind | grind (ematch := 40) (gen := 40) (liaSteps := 300000) | lia) (by first | with_reducible assumption | grind | grind (ematch := 40) (gen := 40) (liaSteps := 300000) | lia) ?_
              intro r34 Tr34 gr34_0 gr34_1
              refine r_Pr_0 Tr34 kv0 pcu ?_
              refine r_Cur_1 Tr34 kcu ?_
              intro x36 ex36 lx36 ux36
              subst ex36
              refine w_Cur_1 Tr34 kcu (by first | with_reducible assumption | grind | grind (ematch := 40) (gen := 40) (liaSteps := 300000) | lia) (q_inc02 (Tr34.2.2.2.1 _ 1) (q_CCur Tr34 kcu)) (by first | exact q_inc2 (by first | with_reducible assumption | grind -lia | grind) (q_inc00 (Tr34.2.2.2.1 _ 1) (q_CCur Tr34 kcu))) ?_
              intro h37 Th37 ih37 ah37
              refine qk_some ?_
              exact ⟨Th37, (by first | with_reducible assumption | grind | grind (ematch := 40) (gen := 40) (liaSteps := 300000) | lia), (by first | with_reducible assumption | (intro yy; first | (exact absurd yy (by grind)) | exact q_J_eq J (by grind) (by grind) (by grind) (by grind) (by grind) (by grind) (by grind) (by grind) (by grind) | exact q_J_eq (gr30_1 (by grind)) (by grind) (by grind) (by grind) (by grind) (by grind) (by grind) (by grind) (by grind) (by grind)) | grind), (by intro yy; exact q_zz (by grind -lia) (by first | grind -lia | grind) z (by first | with_reducible assumption | exact q_lt1 hat (by grind -lia) (by grind -lia) | grind -lia | grind) (by first | grind -lia | grind)), (by first | with_reducible assumption | grind | grind (ematch := 40) (gen := 40) (liaSteps := 300000) | lia), (by first | with_reducible assumption | grind | grind (ematch := 40) (gen := 40) (liaSteps := 300000) | lia), (by first | with_reducible assumption | grind | grind (ematch := 40) (gen := 40) (liaSteps := 300000) | lia), (by first | with_reducible assumption | grind | grind (ematch := 40) (gen := 40) (liaSteps := 300000) | lia), (by first | with_reducible assumption | grind | grind (ematch := 40) (gen := 40) (liaSteps := 300000) | lia)⟩
          · skip
            refine qk_if (fun cc11 => ?_) (fun cc11 => ?_)
            · skip
              refine r_Pr_o T kv0 ?_
              refine c_Pr_addOne (v0 := v0) (cu := cu) (it := it) (pt := pt) (tx := tx) T kv0 kcu pcu kit pit kpt ppt ktx ptx (by first | with_reducible assumption | grind | grind (ematch := 40) (gen := 40) (liaSteps := 300000) | lia) (by first | with_reducible assumption | grind | grind (ematch := 40) (gen := 40) (liaSteps := 300000) | lia) (by first | with_reducible assumption | grind | grind (ematch := 40) (gen := 40) (liaSteps := 300000) | lia) (by first | with_reducible assumption | grind | grind (ematch := 40) (gen := 40) (liaSteps := 300000) | lia) (by first | with_reducible assumption | grind | grind (ematch := 40) (gen := 40) (liaSteps := 300000) | lia) (by first | with_reducible assumption | grind | grind (ematch := 40) (gen := 40) (liaSteps := 300000) | lia) (by first | with_reducible assumption | grind | grind (ematch := 40) (gen := 40) (liaSteps := 300000) | lia) (by first | with_reducible assumption | grind | grind (ematch := 40) (gen := 40) (liaSteps := 300000) | lia) (by first | with_reducible assumption | grind | grind (ematch := 40) (gen := 40) (liaSteps := 300000) | lia) (by first | with_reducible assumption | grind | grind (ematch := 40) (gen := 40) (liaSteps := 300000) | lia) (by first | with_reducible assumption | grind | grind (ematch := 40) (gen := 40) (liaSteps := 300000) | lia) (by first | with_reducible assumption | grind | grind (ematch := 40) (gen := 40) (liaSteps := 300000) | lia) ?_
              intro yr40 hr40 Tr40 gr40_0 gr40_1 gr40_2 gr40_3 gr40_4 gr40_5 gr40_6 gr40_7 gr40_8
              dsimp only
              refine qk_if (fun cc12 => ?_) (fun cc12 => ?_)
              · skip
                refine qk_some ?_
                exact ⟨Tr40, (by first | with_reducible assumption | grind | grind (ematch := 40) (gen := 40) (liaSteps := 300000) | lia), (by first | with_reducible assumption | (intro yy; first | (exact absurd yy (by grind)) | exact q_J_eq J (by grind) (by grind) (by grind) (by grind) (by grind) (by grind) (by grind) (by grind) (by grind) | exact q_J_eq (gr40_1 (by grind)) (by grind) (by grind) (by grind) (by grind) (by grind) (by grind) (by grind) (by grind) (by grind)) | grind), (by intro yy; exact absurd (show (0 : Int32) = 1 from yy) (by decide)), (by first | with_reducible assumption | grind | grind (ematch := 40) (gen := 40) (liaSteps := 300000) | lia), (by first | with_reducible assumption | grind | grind (ematch := 40) (gen := 40) (liaSteps := 300000) | lia), (by first | with_reducible assumption | grind | grind (ematch := 40) (gen := 40) (liaSteps := 300000) | lia), (by first | with_reducible assumption | grind | grind (ematch := 40) (gen := 40) (liaSteps := 300000) | lia), (by first | with_reducible assumption | grind | grind (ematch := 40) (gen := 40) (liaSteps := 300000) | lia)⟩
              · skip
                refine r_Pr_1 Tr40 kv0 pit ?_
                refine r_It_o Tr40 kit ?_
                refine c_It_allow (v0 := it) (v1 := (yr3)) (v2 := (yr3)) Tr40 kit (by first | with_reducible assumption | grind | grind (ematch := 40) (gen := 40) (liaSteps := 300000) | lia) (by first | with_reducible assumption | grind | grind (ematch := 40) (gen := 40) (liaSteps := 300000) | lia) (by first | with_reducible assumption | grind | grind (ematch := 40) (gen := 40) (liaSteps := 300000) | lia) (by first | with_reducible assumption | grind | grind (ematch := 40) (gen := 40) (liaSteps := 300000) | lia) (by first | with_reducible assumption | grind | grind (ematch := 40) (gen := 40) (liaSteps := 300000) | lia) (by first | with_reducible assumption | grind | grind (ematch := 40) (gen := 40) (liaSteps := 300000) | lia) ?_
                intro r44 Tr44 gr44_0 gr44_1
                refine r_Pr_0 Tr44 kv0 pcu ?_
                refine r_Cur_1 Tr44 kcu ?_
                intro x46 ex46 lx46 ux46
                subst ex46
                refine w_Cur_1 Tr44 kcu (by first | with_reducible assumption | grind | grind (ematch := 40) (gen := 40) (liaSteps := 300000) | lia) (q_inc02 (Tr44.2.2.2.1 _ 1) (q_CCur Tr44 kcu)) (by first | exact q_inc2 (by first | with_reducible assumption | grind -lia | grind) (q_inc00 (Tr44.2.2.2.1 _ 1) (q_CCur Tr44 kcu))) ?_
                intro h47 Th47 ih47 ah47
                refine qk_some ?_
                exact ⟨Th47, (by first | with_reducible assumption | grind | grind (ematch := 40) (gen := 40) (liaSteps := 300000) | lia), (by first | with_reducible assumption | (intro yy; first | (exact absurd yy (by grind)) | exact q_J_eq J (by grind) (by grind) (by grind) (by grind) (by grind) (by grind) (by grind) (by grind) (by grind) | exact q_J_eq (gr40_1 (by grind)) (by grind) (by grind) (by grind) (by grind) (by grind) (by grind) (by grind) (by grind) (by grind)) | grind), (by intro yy; exact q_zz (by grind -lia) (by first | grind -lia | grind) z (by first | with_reducible assumption | exact q_lt1 hat (by grind -lia) (by grind -lia) | grind -lia | grind) (by first | grind -lia | grind)), (by first | with_reducible assumption | grind | grind (ematch := 40) (gen := 40) (liaSteps := 300000) | lia), (by first | with_reducible assumption | grind | grind (ematch := 40) (gen := 40) (liaSteps := 300000) | lia), (by first | with_reducible assumption | grind | grind (ematch := 40) (gen := 40) (liaSteps := 300000) | lia), (by first | with_reducible assumption | grind | grind (ematch := 40) (gen := 40) (liaSteps := 300000) | lia), (by first | with_reducible assumption | grind | grind (ematch := 40) (gen := 40) (liaSteps := 300000) | lia)⟩
            · skip
              refine qk_if (fun cc13 => ?_) (fun cc13 => ?_)
              · skip
                refine r_Pr_o T kv0 ?_
                refine c_Pr_addOne (v0 := v0) (cu := cu) (it := it) (pt := pt) (tx := tx) T kv0 kcu pcu kit pit kpt ppt ktx ptx (by first | with_reducible assumption | grind | grind (ematch := 40) (gen := 40) (liaSteps := 300000) | lia) (by first | with_reducible assumption | grind | grind (ematch := 40) (gen := 40) (liaSteps := 300000) | lia) (by first | with_reducible assumption | grind | grind (ematch := 40) (gen := 40) (liaSteps := 300000) | lia) (by first | with_reducible assumption | grind | grind (ematch := 40) (gen := 40) (liaSteps := 300000) | lia) (by first | with_reducible assumption | grind | grind (ematch := 40) (gen := 40) (liaSteps := 300000) | lia) (by first | with_reducible assumption | grind | grind (ematch := 40) (gen := 40) (liaSteps := 300000) | lia) (by first | with_reducible assumption | grind | grind (ematch := 40) (gen := 40) (liaSteps := 300000) | lia) (by first | with_reducible assumption | grind | grind (ematch := 40) (gen := 40) (liaSteps := 300000) | lia) (by first | with_reducible assumption | grind | grind (ematch := 40) (gen := 40) (liaSteps := 300000) | lia) (by first | with_reducible assumption | grind | grind (ematch := 40) (gen := 40) (liaSteps := 300000) | lia) (by first | with_reducible assumption | grind | grind (ematch := 40) (gen := 40) (liaSteps := 300000) | lia) (by first | with_reducible assumption | grind | grind (ematch := 40) (gen := 40) (liaSteps := 300000) | lia) ?_
                intro yr50 hr50 Tr50 gr50_0 gr50_1 gr50_2 gr50_3 gr50_4 gr50_5 gr50_6 gr50_7 gr50_8
                dsimp only
                refine qk_if (fun cc14 => ?_) (fun cc14 => ?_)
                · skip
                  refine qk_some ?_
                  exact ⟨Tr50, (by first | with_reducible assumption | grind | grind (ematch := 40) (gen := 40) (liaSteps := 300000) | lia), (by first | with_reducible assumption | (intro yy; first | (exact absurd yy (by grind)) | exact q_J_eq J (by grind) (by grind) (by grind) (by grind) (by grind) (by grind) (by grind) (by grind) (by grind) | exact q_J_eq (gr50_1 (by grind)) (by grind) (by grind) (by grind) (by grind) (by grind) (by grind) (by grind) (by grind) (by grind)) | grind), (by intro yy; exact absurd (show (0 : Int32) = 1 from yy) (by decide)), (by first | with_reducible assumption | grind | grind (ematch := 40) (gen := 40) (liaSteps := 300000) | lia), (by first | with_reducible assumption | grind | grind (ematch := 40) (gen := 40) (liaSteps := 300000) | lia), (by first | with_reducible assumption | grind | grind (ematch := 40) (gen := 40) (liaSteps := 300000) | lia), (by first | with_reducible assumption | grind | grind (ematch := 40) (gen := 40) (liaSteps := 300000) | lia), (by first | with_reducible assumption | grind | grind (ematch := 40) (gen := 40) (liaSteps := 300000) | lia)⟩
                · skip
                  refine r_Pr_1 Tr50 kv0 pit ?_
                  refine r_It_o Tr50 kit ?_
                  refine c_It_allow (v0 := it) (v1 := (yr3)) (v2 := (yr3)) Tr50 kit (by first | with_reducible assumption | grind | grind (ematch := 40) (gen := 40) (liaSteps := 300000) | lia) (by first | with_reducible assumption | grind | grind (ematch := 40) (gen := 40) (liaSteps := 300000) | lia) (by first | with_reducible assumption | grind | grind (ematch := 40) (gen := 40) (liaSteps := 300000) | lia) (by first | with_reducible assumption | grind | grind (ematch := 40) (gen := 40) (liaSteps := 300000) | lia) (by first | with_reducible assumption | grind | grind (ematch := 40) (gen := 40) (liaSteps := 300000) | lia) (by first | with_reducible assumption | grind | grind (ematch := 40) (gen := 40) (liaSteps := 300000) | lia) ?_
                  intro r54 Tr54 gr54_0 gr54_1
                  refine r_Pr_0 Tr54 kv0 pcu ?_
                  refine r_Cur_1 Tr54 kcu ?_
                  intro x56 ex56 lx56 ux56
                  subst ex56
                  refine w_Cur_1 Tr54 kcu (by first | with_reducible assumption | grind | grind (ematch := 40) (gen := 40) (liaSteps := 300000) | lia) (q_inc02 (Tr54.2.2.2.1 _ 1) (q_CCur Tr54 kcu)) (by first | exact q_inc2 (by first | with_reducible assumption | grind -lia | grind) (q_inc00 (Tr54.2.2.2.1 _ 1) (q_CCur Tr54 kcu))) ?_
                  intro h57 Th57 ih57 ah57
                  refine qk_some ?_
                  exact ⟨Th57, (by first | with_reducible assumption | grind | grind (ematch := 40) (gen := 40) (liaSteps := 300000) | lia), (by first | with_reducible assumption | (intro yy; first | (exact absurd yy (by grind)) | exact q_J_eq J (by grind) (by grind) (by grind) (by grind) (by grind) (by grind) (by grind) (by grind) (by grind) | exact q_J_eq (gr50_1 (by grind)) (by grind) (by grind) (by grind) (by grind) (by grind) (by grind) (by grind) (by grind) (by grind)) | grind), (by intro yy; exact q_zz (by grind -lia) (by first | grind -lia | grind) z (by first | with_reducible assumption | exact q_lt1 hat (by grind -lia) (by grind -lia) | grind -lia | grind) (by first | grind -lia | grind)), (by first | with_reducible assumption | grind | grind (ematch := 40) (gen := 40) (liaSteps := 300000) | lia), (by first | with_reducible assumption | grind | grind (ematch := 40) (gen := 40) (liaSteps := 300000) | lia), (by first | with_reducible assumption | grind | grind (ematch := 40) (gen := 40) (liaSteps := 300000) | lia), (by first | with_reducible assumption | grind | grind (ematch := 40) (gen := 40) (liaSteps := 300000) | lia), (by first | with_reducible assumption | grind | grind (ematch := 40) (gen := 40) (liaSteps := 300000) | lia)⟩
              · skip
                refine qk_if (fun cc15 => ?_) (fun cc15 => ?_)
                · skip
                  refine r_Pr_o T kv0 ?_
                  refine c_Pr_readSame (v0 := v0) (v1 := ((yr3) - 48)) (cu := cu) (it := it) (pt := pt) (tx := tx) T kv0 kcu pcu kit pit kpt ppt ktx ptx (by first | with_reducible assumption | grind | grind (ematch := 40) (gen := 40) (liaSteps := 300000) | lia) (by first | with_reducible assumption | grind | grind (ematch := 40) (gen := 40) (liaSteps := 300000) | lia) (by first | with_reducible assumption | grind | grind (ematch := 40) (gen := 40) (liaSteps := 300000) | lia) (by first | with_reducible assumption | grind | grind (ematch := 40) (gen := 40) (liaSteps := 300000) | lia) (by first | with_reducible assumption | grind | grind (ematch := 40) (gen := 40) (liaSteps := 300000) | lia) (by first | with_reducible assumption | grind | grind (ematch := 40) (gen := 40) (liaSteps := 300000) | lia) (by first | with_reducible assumption | grind | grind (ematch := 40) (gen := 40) (liaSteps := 300000) | lia) (by first | with_reducible assumption | grind | grind (ematch := 40) (gen := 40) (liaSteps := 300000) | lia) (by first | with_reducible assumption | grind | grind (ematch := 40) (gen := 40) (liaSteps := 300000) | lia) (by first | with_reducible assumption | grind | grind (ematch := 40) (gen := 40) (liaSteps := 300000) | lia) (by first | with_reducible assumption | grind | grind (ematch := 40) (gen := 40) (liaSteps := 300000) | lia) (by first | with_reducible assumption | grind | grind (ematch := 40) (gen := 40) (liaSteps := 300000) | lia) (by first | with_reducible assumption | grind | grind (ematch := 40) (gen := 40) (liaSteps := 300000) | lia) (by first | with_reducible assumption | grind | grind (ematch := 40) (gen := 40) (liaSteps := 300000) | lia) ?_
                  intro yr60 hr60 Tr60 gr60_0 gr60_1 gr60_2 gr60_3 gr60_4 gr60_5 gr60_6 gr60_7
                  dsimp only
                  refine qk_zB (by first | with_reducible assumption | grind | grind (ematch := 40) (gen := 40) (liaSteps := 300000) | lia) ?_
                  refine qk_some ?_
                  exact ⟨Tr60, (by first | with_reducible assumption | grind | grind (ematch := 40) (gen := 40) (liaSteps := 300000) | lia), (by first | with_reducible assumption | (intro yy; first | (exact absurd yy (by grind)) | exact q_J_eq J (by grind) (by grind) (by grind) (by grind) (by grind) (by grind) (by grind) (by grind) (by grind) | exact q_J_eq (gr60_1 (by grind)) (by grind) (by grind) (by grind) (by grind) (by grind) (by grind) (by grind) (by grind) (by grind)) | grind), (by first | with_reducible assumption | grind | grind (ematch := 40) (gen := 40) (liaSteps := 300000) | lia), (by first | with_reducible assumption | grind | grind (ematch := 40) (gen := 40) (liaSteps := 300000) | lia), (by first | with_reducible assumption | grind | grind (ematch := 40) (gen := 40) (liaSteps := 300000) | lia), (by first | with_reducible assumption | grind | grind (ematch := 40) (gen := 40) (liaSteps := 300000) | lia), (by first | with_reducible assumption | grind | grind (ematch := 40) (gen := 40) (liaSteps := 300000) | lia), (by first | with_reducible assumption | grind | grind (ematch := 40) (gen := 40) (liaSteps := 300000) | lia)⟩
                · skip
                  refine qk_if (fun cc16 => ?_) (fun cc16 => ?_)
                  · skip
                    refine r_Pr_o T kv0 ?_
                    refine c_Pr_readSame (v0 := v0) (v1 := ((yr3) - 48)) (cu := cu) (it := it) (pt := pt) (tx := tx) T kv0 kcu pcu kit pit kpt ppt ktx ptx (by first | with_reducible assumption | grind | grind (ematch := 40) (gen := 40) (liaSteps := 300000) | lia) (by first | with_reducible assumption | grind | grind (ematch := 40) (gen := 40) (liaSteps := 300000) | lia) (by first | with_reducible assumption | grind | grind (ematch := 40) (gen := 40) (liaSteps := 300000) | lia) (by first | with_reducible assumption | grind | grind (ematch := 40) (gen := 40) (liaSteps := 300000) | lia) (by first | with_reducible assumption | grind | grind (ematch := 40) (gen := 40) (liaSteps := 300000) | lia) (by first | with_reducible assumption | grind | grind (ematch := 40) (gen := 40) (liaSteps := 300000) | lia) (by first | with_reducible assumption | grind | grind (ematch := 40) (gen := 40) (liaSteps := 300000) | lia) (by first | with_reducible assumption | grind | grind (ematch := 40) (gen := 40) (liaSteps := 300000) | lia) (by first | with_reducible assumption | grind | grind (ematch := 40) (gen := 40) (liaSteps := 300000) | lia) (by first | with_reducible assumption | grind | grind (ematch := 40) (gen := 40) (liaSteps := 300000) | lia) (by first | with_reducible assumption | grind | grind (ematch := 40) (gen := 40) (liaSteps := 300000) | lia) (by first | with_reducible assumption | grind | grind (ematch := 40) (gen := 40) (liaSteps := 300000) | lia) (by first | with_reducible assumption | grind | grind (ematch := 40) (gen := 40) (liaSteps := 300000) | lia) (by first | with_reducible assumption | grind | grind (ematch := 40) (gen := 40) (liaSteps := 300000) | lia) ?_
                    intro yr64 hr64 Tr64 gr64_0 gr64_1 gr64_2 gr64_3 gr64_4 gr64_5 gr64_6 gr64_7
                    dsimp only
                    refine qk_zB (by first | with_reducible assumption | grind | grind (ematch := 40) (gen := 40) (liaSteps := 300000) | lia) ?_
                    refine qk_some ?_
                    exact ⟨Tr64, (by first | with_reducible assumption | grind | grind (ematch := 40) (gen := 40) (liaSteps := 300000) | lia), (by first | with_reducible assumption | (intro yy; first | (exact absurd yy (by grind)) | exact q_J_eq J (by grind) (by grind) (by grind) (by grind) (by grind) (by grind) (by grind) (by grind) (by grind) | exact q_J_eq (gr64_1 (by grind)) (by grind) (by grind) (by grind) (by grind) (by grind) (by grind) (by grind) (by grind) (by grind)) | grind), (by first | with_reducible assumption | grind | grind (ematch := 40) (gen := 40) (liaSteps := 300000) | lia), (by first | with_reducible assumption | grind | grind (ematch := 40) (gen := 40) (liaSteps := 300000) | lia), (by first | with_reducible assumption | grind | grind (ematch := 40) (gen := 40) (liaSteps := 300000) | lia), (by first | with_reducible assumption | grind | grind (ematch := 40) (gen := 40) (liaSteps := 300000) | lia), (by first | with_reducible assumption | grind | grind (ematch := 40) (gen := 40) (liaSteps := 300000) | lia), (by first | with_reducible assumption | grind | grind (ematch := 40) (gen := 40) (liaSteps := 300000) | lia)⟩
                  · skip
                    refine qk_if (fun cc17 => ?_) (fun cc17 => ?_)
                    · skip
                      refine r_Pr_o T kv0 ?_
                      refine c_Pr_readSame (v0 := v0) (v1 := ((yr3) - 48)) (cu := cu) (it := it) (pt := pt) (tx := tx) T kv0 kcu pcu kit pit kpt ppt ktx ptx (by first | with_reducible assumption | grind | grind (ematch := 40) (gen := 40) (liaSteps := 300000) | lia) (by first | with_reducible assumption | grind | grind (ematch := 40) (gen := 40) (liaSteps := 300000) | lia) (by first | with_reducible assumption | grind | grind (ematch := 40) (gen := 40) (liaSteps := 300000) | lia) (by first | with_reducible assumption | grind | grind (ematch := 40) (gen := 40) (liaSteps := 300000) | lia) (by first | with_reducible assumption | grind | grind (ematch := 40) (gen := 40) (liaSteps := 300000) | lia) (by first | with_reducible assumption | grind | grind (ematch := 40) (gen := 40) (liaSteps := 300000) | lia) (by first | with_reducible assumption | grind | grind (ematch := 40) (gen := 40) (liaSteps := 300000) | lia) (by first | with_reducible assumption | grind | grind (ematch := 40) (gen := 40) (liaSteps := 300000) | lia) (by first | with_reducible assumption | grind | grind (ematch := 40) (gen := 40) (liaSteps := 300000) | lia) (by first | with_reducible assumption | grind | grind (ematch := 40) (gen := 40) (liaSteps := 300000) | lia) (by first | with_reducible assumption | grind | grind (ematch := 40) (gen := 40) (liaSteps := 300000) | lia) (by first | with_reducible assumption | grind | grind (ematch := 40) (gen := 40) (liaSteps := 300000) | lia) (by first | with_reducible assumption | grind | grind (ematch := 40) (gen := 40) (liaSteps := 300000) | lia) (by first | with_reducible assumption | grind | grind (ematch := 40) (gen := 40) (liaSteps := 300000) | lia) ?_
                      intro yr68 hr68 Tr68 gr68_0 gr68_1 gr68_2 gr68_3 gr68_4 gr68_5 gr68_6 gr68_7
                      dsimp only
                      refine qk_zB (by first | with_reducible assumption | grind | grind (ematch := 40) (gen := 40) (liaSteps := 300000) | lia) ?_
                      refine qk_some ?_
                      exact ⟨Tr68, (by first | with_reducible assumption | grind | grind (ematch := 40) (gen := 40) (liaSteps := 300000) | lia), (by first | with_reducible assumption | (intro yy; first | (exact absurd yy (by grind)) | exact q_J_eq J (by grind) (by grind) (by grind) (by grind) (by grind) (by grind) (by grind) (by grind) (by grind) | exact q_J_eq (gr68_1 (by grind)) (by grind) (by grind) (by grind) (by grind) (by grind) (by grind) (by grind) (by grind) (by grind)) | grind), (by first | with_reducible assumption | grind | grind (ematch := 40) (gen := 40) (liaSteps := 300000) | lia), (by first | with_reducible assumption | grind | grind (ematch := 40) (gen := 40) (liaSteps := 300000) | lia), (by first | with_reducible assumption | grind | grind (ematch := 40) (gen := 40) (liaSteps := 300000) | lia), (by first | with_reducible assumption | grind | grind (ematch := 40) (gen := 40) (liaSteps := 300000) | lia), (by first | with_reducible assumption | grind | grind (ematch := 40) (gen := 40) (liaSteps := 300000) | lia), (by first | with_reducible assumption | grind | grind (ematch := 40) (gen := 40) (liaSteps := 300000) | lia)⟩
                    · skip
                      refine qk_if (fun cc18 => ?_) (fun cc18 => ?_)
                      · skip
                        refine r_Pr_o T kv0 ?_
                        refine c_Pr_addOne (v0 := v0) (cu := cu) (it := it) (pt := pt) (tx := tx) T kv0 kcu pcu kit pit kpt ppt ktx ptx (by first | with_reducible assumption | grind | grind (ematch := 40) (gen := 40) (liaSteps := 300000) | lia) (by first | with_reducible assumption | grind | grind (ematch := 40) (gen := 40) (liaSteps := 300000) | lia) (by first | with_reducible assumption | grind | grind (ematch := 40) (gen := 40) (liaSteps := 300000) | lia) (by first | with_reducible assumption | grind | grind (ematch := 40) (gen := 40) (liaSteps := 300000) | lia) (by first | with_reducible assumption | grind | grind (ematch := 40) (gen := 40) (liaSteps := 300000) | lia) (by first | with_reducible assumption | grind | grind (ematch := 40) (gen := 40) (liaSteps := 300000) | lia) (by first | with_reducible assumption | grind | grind (ematch := 40) (gen := 40) (liaSteps := 300000) | lia) (by first | with_reducible assumption | grind | grind (ematch := 40) (gen := 40) (liaSteps := 300000) | lia) (by first | with_reducible assumption | grind | grind (ematch := 40) (gen := 40) (liaSteps := 300000) | lia) (by first | with_reducible assumption | grind | grind (ematch := 40) (gen := 40) (liaSteps := 300000) | lia) (by first | with_reducible assumption | grind | grind (ematch := 40) (gen := 40) (liaSteps := 300000) | lia) (by first | with_reducible assumption | grind | grind (ematch := 40) (gen := 40) (liaSteps := 300000) | lia) ?_
                        intro yr72 hr72 Tr72 gr72_0 gr72_1 gr72_2 gr72_3 gr72_4 gr72_5 gr72_6 gr72_7 gr72_8
                        dsimp only
                        refine qk_if (fun cc19 => ?_) (fun cc19 => ?_)
                        · skip
                          refine qk_some ?_
                          exact ⟨Tr72, (by first | with_reducible assumption | grind | grind (ematch := 40) (gen := 40) (liaSteps := 300000) | lia), (by first | with_reducible assumption | (intro yy; first | (exact absurd yy (by grind)) | exact q_J_eq J (by grind) (by grind) (by grind) (by grind) (by grind) (by grind) (by grind) (by grind) (by grind) | exact q_J_eq (gr72_1 (by grind)) (by grind) (by grind) (by grind) (by grind) (by grind) (by grind) (by grind) (by grind) (by grind)) | grind), (by intro yy; exact absurd (show (0 : Int32) = 1 from yy) (by decide)), (by first | with_reducible assumption | grind | grind (ematch := 40) (gen := 40) (liaSteps := 300000) | lia), (by first | with_reducible assumption | grind | grind (ematch := 40) (gen := 40) (liaSteps := 300000) | lia), (by first | with_reducible assumption | grind | grind (ematch := 40) (gen := 40) (liaSteps := 300000) | lia), (by first | with_reducible assumption | grind | grind (ematch := 40) (gen := 40) (liaSteps := 300000) | lia), (by first | with_reducible assumption | grind | grind (ematch := 40) (gen := 40) (liaSteps := 300000) | lia)⟩
                        · skip
                          refine r_Pr_1 Tr72 kv0 pit ?_
                          refine r_It_o Tr72 kit ?_
                          refine c_It_allow (v0 := it) (v1 := (yr3)) (v2 := (yr3)) Tr72 kit (by first | with_reducible assumption | grind | grind (ematch := 40) (gen := 40) (liaSteps := 300000) | lia) (by first | with_reducible assumption | grind | grind (ematch := 40) (gen := 40) (liaSteps := 300000) | lia) (by first | with_reducible assumption | grind | grind (ematch := 40) (gen := 40) (liaSteps := 300000) | lia) (by first | with_reducible assumption | grind | grind (ematch := 40) (gen := 40) (liaSteps := 300000) | lia) (by first | with_reducible assumption | grind | grind (ematch := 40) (gen := 40) (liaSteps := 300000) | lia) (by first | with_reducible assumption | grind | grind (ematch := 40) (gen := 40) (liaSteps := 300000) | lia) ?_
                          intro r76 Tr76 gr76_0 gr76_1
                          refine r_Pr_0 Tr76 kv0 pcu ?_
                          refine r_Cur_1 Tr76 kcu ?_
                          intro x78 ex78 lx78 ux78
                          subst ex78
                          refine w_Cur_1 Tr76 kcu (by first | with_reducible assumption | grind | grind (ematch := 40) (gen := 40) (liaSteps := 300000) | lia) (q_inc02 (Tr76.2.2.2.1 _ 1) (q_CCur Tr76 kcu)) (by first | exact q_inc2 (by first | with_reducible assumption | grind -lia | grind) (q_inc00 (Tr76.2.2.2.1 _ 1) (q_CCur Tr76 kcu))) ?_
                          intro h79 Th79 ih79 ah79
                          refine qk_some ?_
                          exact ⟨Th79, (by first | with_reducible assumption | grind | grind (ematch := 40) (gen := 40) (liaSteps := 300000) | lia), (by first | with_reducible assumption | (intro yy; first | (exact absurd yy (by grind)) | exact q_J_eq J (by grind) (by grind) (by grind) (by grind) (by grind) (by grind) (by grind) (by grind) (by grind) | exact q_J_eq (gr72_1 (by grind)) (by grind) (by grind) (by grind) (by grind) (by grind) (by grind) (by grind) (by grind) (by grind)) | grind), (by intro yy; exact q_zz (by grind -lia) (by first | grind -lia | grind) z (by first | with_reducible assumption | exact q_lt1 hat (by grind -lia) (by grind -lia) | grind -lia | grind) (by first | grind -lia | grind)), (by first | with_reducible assumption | grind | grind (ematch := 40) (gen := 40) (liaSteps := 300000) | lia), (by first | with_reducible assumption | grind | grind (ematch := 40) (gen := 40) (liaSteps := 300000) | lia), (by first | with_reducible assumption | grind | grind (ematch := 40) (gen := 40) (liaSteps := 300000) | lia), (by first | with_reducible assumption | grind | grind (ematch := 40) (gen := 40) (liaSteps := 300000) | lia), (by first | with_reducible assumption | grind | grind (ematch := 40) (gen := 40) (liaSteps := 300000) | lia)⟩
                      · skip
                        refine qk_if (fun cc20 => ?_) (fun cc20 => ?_)
                        · skip
                          refine r_Pr_o T kv0 ?_
                          refine c_Pr_addOne (v0 := v0) (cu := cu) (it := it) (pt := pt) (tx := tx) T kv0 kcu pcu kit pit kpt ppt ktx ptx (by first | with_reducible assumption | grind | grind (ematch := 40) (gen := 40) (liaSteps := 300000) | lia) (by first | with_reducible assumption | grind | grind (ematch := 40) (gen := 40) (liaSteps := 300000) | lia) (by first | with_reducible assumption | grind | grind (ematch := 40) (gen := 40) (liaSteps := 300000) | lia) (by first | with_reducible assumption | grind | grind (ematch := 40) (gen := 40) (liaSteps := 300000) | lia) (by first | with_reducible assumption | grind | grind (ematch := 40) (gen := 40) (liaSteps := 300000) | lia) (by first | with_reducible assumption | grind | grind (ematch := 40) (gen := 40) (liaSteps := 300000) | lia) (by first | with_reducible assumption | grind | grind (ematch := 40) (gen := 40) (liaSteps := 300000) | lia) (by first | with_reducible assumption | grind | grind (ematch := 40) (gen := 40) (liaSteps := 300000) | lia) (by first | with_reducible assumption | grind | grind (ematch := 40) (gen := 40) (liaSteps := 300000) | lia) (by first | with_reducible assumption | grind | grind (ematch := 40) (gen := 40) (liaSteps := 300000) | lia) (by first | with_reducible assumption | grind | grind (ematch := 40) (gen := 40) (liaSteps := 300000) | lia) (by first | with_reducible assumption | grind | grind (ematch := 40) (gen := 40) (liaSteps := 300000) | lia) ?_
                          intro yr82 hr82 Tr82 gr82_0 gr82_1 gr82_2 gr82_3 gr82_4 gr82_5 gr82_6 gr82_7 gr82_8
                          dsimp only
                          refine qk_if (fun cc21 => ?_) (fun cc21 => ?_)
                          · skip
                            refine qk_some ?_
                            exact ⟨Tr82, (by first | with_reducible assumption | grind | grind (ematch := 40) (gen := 40) (liaSteps := 300000) | lia), (by first | with_reducible assumption | (intro yy; first | (exact absurd yy (by grind)) | exact q_J_eq J (by grind) (by grind) (by grind) (by grind) (by grind) (by grind) (by grind) (by grind) (by grind) | exact q_J_eq (gr82_1 (by grind)) (by grind) (by grind) (by grind) (by grind) (by grind) (by grind) (by grind) (by grind) (by grind)) | grind), (by intro yy; exact absurd (show (0 : Int32) = 1 from yy) (by decide)), (by first | with_reducible assumption | grind | grind (ematch := 40) (gen := 40) (liaSteps := 300000) | lia), (by first | with_reducible assumption | grind | grind (ematch := 40) (gen := 40) (liaSteps := 300000) | lia), (by first | with_reducible assumption | grind | grind (ematch := 40) (gen := 40) (liaSteps := 300000) | lia), (by first | with_reducible assumption | grind | grind (ematch := 40) (gen := 40) (liaSteps := 300000) | lia), (by first | with_reducible assumption | grind | grind (ematch := 40) (gen := 40) (liaSteps := 300000) | lia)⟩
                          · skip
                            refine r_Pr_1 Tr82 kv0 pit ?_
                            refine r_It_o Tr82 kit ?_
                            refine c_It_allow (v0 := it) (v1 := (yr3)) (v2 := (yr3)) Tr82 kit (by first | with_reducible assumption | grind | grind (ematch := 40) (gen := 40) (liaSteps := 300000) | lia) (by first | with_reducible assumption | grind | grind (ematch := 40) (gen := 40) (liaSteps := 300000) | lia) (by first | with_reducible assumption | grind | grind (ematch := 40) (gen := 40) (liaSteps := 300000) | lia) (by first | with_reducible assumption | grind | grind (ematch := 40) (gen := 40) (liaSteps := 300000) | lia) (by first | with_reducible assumption | grind | grind (ematch := 40) (gen := 40) (liaSteps := 300000) | lia) (by first | with_reducible assumption | grind | grind (ematch := 40) (gen := 40) (liaSteps := 300000) | lia) ?_
                            intro r86 Tr86 gr86_0 gr86_1
                            refine r_Pr_0 Tr86 kv0 pcu ?_
                            refine r_Cur_1 Tr86 kcu ?_
                            intro x88 ex88 lx88 ux88
                            subst ex88
                            refine w_Cur_1 Tr86 kcu (by first | with_reducible assumption | grind | grind (ematch := 40) (gen := 40) (liaSteps := 300000) | lia) (q_inc02 (Tr86.2.2.2.1 _ 1) (q_CCur Tr86 kcu)) (by first | exact q_inc2 (by first | with_reducible assumption | grind -lia | grind) (q_inc00 (Tr86.2.2.2.1 _ 1) (q_CCur Tr86 kcu))) ?_
                            intro h89 Th89 ih89 ah89
                            refine qk_some ?_
                            exact ⟨Th89, (by first | with_reducible assumption | grind | grind (ematch := 40) (gen := 40) (liaSteps := 300000) | lia), (by first | with_reducible assumption | (intro yy; first | (exact absurd yy (by grind)) | exact q_J_eq J (by grind) (by grind) (by grind) (by grind) (by grind) (by grind) (by grind) (by grind) (by grind) | exact q_J_eq (gr82_1 (by grind)) (by grind) (by grind) (by grind) (by grind) (by grind) (by grind) (by grind) (by grind) (by grind)) | grind), (by intro yy; exact q_zz (by grind -lia) (by first | grind -lia | grind) z (by first | with_reducible assumption | exact q_lt1 hat (by grind -lia) (by grind -lia) | grind -lia | grind) (by first | grind -lia | grind)), (by first | with_reducible assumption | grind | grind (ematch := 40) (gen := 40) (liaSteps := 300000) | lia), (by first | with_reducible assumption | grind | grind (ematch := 40) (gen := 40) (liaSteps := 300000) | lia), (by first | with_reducible assumption | grind | grind (ematch := 40) (gen := 40) (liaSteps := 300000) | lia), (by first | with_reducible assumption | grind | grind (ematch := 40) (gen := 40) (liaSteps := 300000) | lia), (by first | with_reducible assumption | grind | grind (ematch := 40) (gen := 40) (liaSteps := 300000) | lia)⟩
                        · skip
                          refine qk_if (fun cc22 => ?_) (fun cc22 => ?_)
                          · skip
                            refine r_Pr_o T kv0 ?_
                            refine c_Pr_addOne (v0 := v0) (cu := cu) (it := it) (pt := pt) (tx := tx) T kv0 kcu pcu kit pit kpt ppt ktx ptx (by first | with_reducible assumption | grind | grind (ematch := 40) (gen := 40) (liaSteps := 300000) | lia) (by first | with_reducible assumption | grind | grind (ematch := 40) (gen := 40) (liaSteps := 300000) | lia) (by first | with_reducible assumption | grind | grind (ematch := 40) (gen := 40) (liaSteps := 300000) | lia) (by first | with_reducible assumption | grind | grind (ematch := 40) (gen := 40) (liaSteps := 300000) | lia) (by first | with_reducible assumption | grind | grind (ematch := 40) (gen := 40) (liaSteps := 300000) | lia) (by first | with_reducible assumption | grind | grind (ematch := 40) (gen := 40) (liaSteps := 300000) | lia) (by first | with_reducible assumption | grind | grind (ematch := 40) (gen := 40) (liaSteps := 300000) | lia) (by first | with_reducible assumption | grind | grind (ematch := 40) (gen := 40) (liaSteps := 300000) | lia) (by first | with_reducible assumption | grind | grind (ematch := 40) (gen := 40) (liaSteps := 300000) | lia) (by first | with_reducible assumption | grind | grind (ematch := 40) (gen := 40) (liaSteps := 300000) | lia) (by first | with_reducible assumption | grind | grind (ematch := 40) (gen := 40) (liaSteps := 300000) | lia) (by first | with_reducible assumption | grind | grind (ematch := 40) (gen := 40) (liaSteps := 300000) | lia) ?_
                            intro yr92 hr92 Tr92 gr92_0 gr92_1 gr92_2 gr92_3 gr92_4 gr92_5 gr92_6 gr92_7 gr92_8
                            dsimp only
                            refine qk_if (fun cc23 => ?_) (fun cc23 => ?_)
                            · skip
                              refine qk_some ?_
                              exact ⟨Tr92, (by first | with_reducible assumption | grind | grind (ematch := 40) (gen := 40) (liaSteps := 300000) | lia), (by first | with_reducible assumption | (intro yy; first | (exact absurd yy (by grind)) | exact q_J_eq J (by grind) (by grind) (by grind) (by grind) (by grind) (by grind) (by grind) (by grind) (by grind) | exact q_J_eq (gr92_1 (by grind)) (by grind) (by grind) (by grind) (by grind) (by grind) (by grind) (by grind) (by grind) (by grind)) | grind), (by intro yy; exact absurd (show (0 : Int32) = 1 from yy) (by decide)), (by first | with_reducible assumption | grind | grind (ematch := 40) (gen := 40) (liaSteps := 300000) | lia), (by first | with_reducible assumption | grind | grind (ematch := 40) (gen := 40) (liaSteps := 300000) | lia), (by first | with_reducible assumption | grind | grind (ematch := 40) (gen := 40) (liaSteps := 300000) | lia), (by first | with_reducible assumption | grind | grind (ematch := 40) (gen := 40) (liaSteps := 300000) | lia), (by first | with_reducible assumption | grind | grind (ematch := 40) (gen := 40) (liaSteps := 300000) | lia)⟩
                            · skip
                              refine r_Pr_1 Tr92 kv0 pit ?_
                              refine r_It_o Tr92 kit ?_
                              refine c_It_allow (v0 := it) (v1 := (yr3)) (v2 := (yr3)) Tr92 kit (by first | with_reducible assumption | grind | grind (ematch := 40) (gen := 40) (liaSteps := 300000) | lia) (by first | with_reducible assumption | grind | grind (ematch := 40) (gen := 40) (liaSteps := 300000) | lia) (by first | with_reducible assumption | grind | grind (ematch := 40) (gen := 40) (liaSteps := 300000) | lia) (by first | with_reducible assumption | grind | grind (ematch := 40) (gen := 40) (liaSteps := 300000) | lia) (by first | with_reducible assumption | grind | grind (ematch := 40) (gen := 40) (liaSteps := 300000) | lia) (by first | with_reducible assumption | grind | grind (ematch := 40) (gen := 40) (liaSteps := 300000) | lia) ?_
                              intro r96 Tr96 gr96_0 gr96_1
                              refine r_Pr_0 Tr96 kv0 pcu ?_
                              refine r_Cur_1 Tr96 kcu ?_
                              intro x98 ex98 lx98 ux98
                              subst ex98
                              refine w_Cur_1 Tr96 kcu (by first | with_reducible assumption | grind | grind (ematch := 40) (gen := 40) (liaSteps := 300000) | lia) (q_inc02 (Tr96.2.2.2.1 _ 1) (q_CCur Tr96 kcu)) (by first | exact q_inc2 (by first | with_reducible assumption | grind -lia | grind) (q_inc00 (Tr96.2.2.2.1 _ 1) (q_CCur Tr96 kcu))) ?_
                              intro h99 Th99 ih99 ah99
                              refine qk_some ?_
                              exact ⟨Th99, (by first | with_reducible assumption | grind | grind (ematch := 40) (gen := 40) (liaSteps := 300000) | lia), (by first | with_reducible assumption | (intro yy; first | (exact absurd yy (by grind)) | exact q_J_eq J (by grind) (by grind) (by grind) (by grind) (by grind) (by grind) (by grind) (by grind) (by grind) | exact q_J_eq (gr92_1 (by grind)) (by grind) (by grind) (by grind) (by grind) (by grind) (by grind) (by grind) (by grind) (by grind)) | grind), (by intro yy; exact q_zz (by grind -lia) (by first | grind -lia | grind) z (by first | with_reducible assumption | exact q_lt1 hat (by grind -lia) (by grind -lia) | grind -lia | grind) (by first | grind -lia | grind)), (by first | with_reducible assumption | grind | grind (ematch := 40) (gen := 40) (liaSteps := 300000) | lia), (by first | with_reducible assumption | grind | grind (ematch := 40) (gen := 40) (liaSteps := 300000) | lia), (by first | with_reducible assumption | grind | grind (ematch := 40) (gen := 40) (liaSteps := 300000) | lia), (by first | with_reducible assumption | grind | grind (ematch := 40) (gen := 40) (liaSteps := 300000) | lia), (by first | with_reducible assumption | grind | grind (ematch := 40) (gen := 40) (liaSteps := 300000) | lia)⟩
                          · skip
                            refine r_Pr_0 T kv0 pcu ?_
                            refine r_Cur_o T kcu ?_
                            refine c_Cur_refuse (v0 := cu) (v1 := 0) T kcu (by first | with_reducible assumption | grind | grind (ematch := 40) (gen := 40) (liaSteps := 300000) | lia) ?_
                            intro yr102 hr102 Tr102 gr102_0 gr102_1 gr102_2
                            dsimp only
                            refine qk_zB (by first | with_reducible assumption | grind | grind (ematch := 40) (gen := 40) (liaSteps := 300000) | lia) ?_
                            refine qk_some ?_
                            exact ⟨Tr102, (by first | with_reducible assumption | grind | grind (ematch := 40) (gen := 40) (liaSteps := 300000) | lia), (by first | with_reducible assumption | (intro yy; first | (exact absurd yy (by grind)) | exact q_J_eq J (by grind) (by grind) (by grind) (by grind) (by grind) (by grind) (by grind) (by grind) (by grind)) | grind), (by first | with_reducible assumption | grind | grind (ematch := 40) (gen := 40) (liaSteps := 300000) | lia), (by first | with_reducible assumption | grind | grind (ematch := 40) (gen := 40) (liaSteps := 300000) | lia), (by first | with_reducible assumption | grind | grind (ematch := 40) (gen := 40) (liaSteps := 300000) | lia), (by first | with_reducible assumption | grind | grind (ematch := 40) (gen := 40) (liaSteps := 300000) | lia), (by first | with_reducible assumption | grind | grind (ematch := 40) (gen := 40) (liaSteps := 300000) | lia), (by first | with_reducible assumption | grind | grind (ematch := 40) (gen := 40) (liaSteps := 300000) | lia)⟩
theorem c_Pr_readEscape {L : q_L} {W : Nat → Prop} {h0 : z_H} {π : Nat → Nat → Option Nat} {N : Nat} {cu : Nat} {it : Nat} {pt : Nat} {tx : Nat} {h : z_H} {v0 : Nat} {β : Type} {f : Int32 × z_H → Option β} {Q : β → Prop} (T : q_U L W h0 π h) (kv0 : qκ L v0 = 9) (kcu : qκ L cu = 3) (pcu : π v0 0 = some cu) (kit : qκ L it = 5) (pit : π v0 1 = some it) (kpt : qκ L pt = 8) (ppt : π v0 2 = some pt) (ktx : qκ L tx = 11) (ptx : π cu 0 = some tx) (ctx : qhi L tx 1 = 240) (w0 : W v0) (wc : W cu) (wi : W it) (wi1 : W (it + 1)) (wi2 : W (it + 2)) (wi3 : W (it + 3)) (wi4 : W (it + 4)) (wp : W pt) (J : q_J (vA h (it + 1)) (vA h (it + 2)) (vI h pt 2) (vI h it 4) (vI h pt 6) (vI h v0 5) (vI h v0 4) (vI h pt 4) (vI h pt 5) (vI h v0 6)) (z : vI h it 4 ≤ vI h cu 1) (hat : vI h cu 1 < 240) (hN : 100000 ≤ N) (H : ∀ y h', q_U L W h0 π h' → (y = 0 ∨ y = 1) → (y = 1 → q_J (vA h' (it + 1)) (vA h' (it + 2)) (vI h' pt 2) (vI h' it 4) (vI h' pt 6) (vI h' v0 5) (vI h' v0 4) (vI h' pt 4) (vI h' pt 5) (vI h' v0 6)) → (y = 1 → vI h' it 4 ≤ vI h' cu 1) → (∀ a k, ¬ (a = cu ∨ a = it ∨ a = pt ∨ a = v0) → vI h' a k = vI h a k) → (∀ a j, 0 ≤ j → ¬ (a = it + 1 ∨ a = it + 2) → vA h' a j = vA h a j) → (∀ j, 0 ≤ j → j < vI h it 4 → vA h' (it + 1) j = vA h (it + 1) j ∧ vA h' (it + 2) j = vA h (it + 2) j) → (vI h it 4 ≤ vI h' it 4) → (vI h' pt 2 = vI h pt 2) → qk (f (y, h')) Q) : qk (z_b (f_Pr_readEscape N v0 h) f) Q := by
  refine qk_b (p_Pr_readEscape T kv0 kcu pcu kit pit kpt ppt ktx ptx ctx w0 wc wi wi1 wi2 wi3 wi4 wp J z hat hN) ?_
  rintro ⟨y, hz⟩ ⟨Tz, g0, g1, g2, g3, g4, g5, g6, g7⟩
  exact H y hz Tz g0 g1 g2 g3 g4 g5 g6 g7

set_option maxHeartbeats 1000000 in
theorem p_Pr_isOutsideSets {L : q_L} {W : Nat → Prop} {h0 : z_H} {π : Nat → Nat → Option Nat} {N : Nat} {h : z_H} {v0 : Int32} (T : q_U L W h0 π h)   : qk (f_Pr_isOutsideSets N v0 h) (fun r => r.2 = h ∧ (r.1 = 0 ∨ r.1 = 1) ∧ (r.1 = 0 → v0 ≠ -1)) := by
  unfold f_Pr_isOutsideSets
  refine qk_if (fun cc1 => ?_) (fun cc1 => ?_)
  · skip
    refine qk_some ?_
    exact ⟨rfl, (by first | with_reducible assumption | grind | grind (ematch := 40) (gen := 40) (liaSteps := 300000) | lia), (by first | with_reducible assumption | grind | grind (ematch := 40) (gen := 40) (liaSteps := 300000) | lia)⟩
  · skip
    refine qk_if (fun cc2 => ?_) (fun cc2 => ?_)
    · skip
      refine qk_some ?_
      exact ⟨rfl, (by first | with_reducible assumption | grind | grind (ematch := 40) (gen := 40) (liaSteps := 300000) | lia), (by first | with_reducible assumption | grind | grind (ematch := 40) (gen := 40) (liaSteps := 300000) | lia)⟩
    · skip
      refine qk_if (fun cc3 => ?_) (fun cc3 => ?_)
      · skip
        refine qk_some ?_
        exact ⟨rfl, (by first | with_reducible assumption | grind | grind (ematch := 40) (gen := 40) (liaSteps := 300000) | lia), (by first | with_reducible assumption | grind | grind (ematch := 40) (gen := 40) (liaSteps := 300000) | lia)⟩
      · skip
        refine qk_if (fun cc4 => ?_) (fun cc4 => ?_)
        · skip
          refine qk_some ?_
          exact ⟨rfl, (by first | with_reducible assumption | grind | grind (ematch := 40) (gen := 40) (liaSteps := 300000) | lia), (by first | with_reducible assumption | grind | grind (ematch := 40) (gen := 40) (liaSteps := 300000) | lia)⟩
        · skip
          refine qk_some ?_
          exact ⟨rfl, (by first | with_reducible assumption | grind | grind (ematch := 40) (gen := 40) (liaSteps := 300000) | lia), (by first | with_reducible assumption | grind | grind (ematch := 40) (gen := 40) (liaSteps := 300000) | lia)⟩
theorem c_Pr_isOutsideSets {L : q_L} {W : Nat → Prop} {h0 : z_H} {π : Nat → Nat → Option Nat} {N : Nat} {h : z_H} {v0 : Int32} {β : Type} {f : Int32 × z_H → Option β} {Q : β → Prop} (T : q_U L W h0 π h)   (H : ∀ y, (y = 0 ∨ y = 1) → (y = 0 → v0 ≠ -1) → qk (f (y, h)) Q) : qk (z_b (f_Pr_isOutsideSets N v0 h) f) Q := by
  refine qk_b (p_Pr_isOutsideSets T  ) ?_
  rintro ⟨y, hz⟩ ⟨hy, g0, g1⟩
  try dsimp only at *
  subst hy
  exact H y g0 g1

set_option maxHeartbeats 2000000 in
theorem p_Pr_readRange {L : q_L} {W : Nat → Prop} {h0 : z_H} {π : Nat → Nat → Option Nat} {N : Nat} {cu : Nat} {it : Nat} {pt : Nat} {tx : Nat} {h : z_H} {v0 : Nat} (T : q_U L W h0 π h) (kv0 : qκ L v0 = 9) (kcu : qκ L cu = 3) (pcu : π v0 0 = some cu) (kit : qκ L it = 5) (pit : π v0 1 = some it) (kpt : qκ L pt = 8) (ppt : π v0 2 = some pt) (ktx : qκ L tx = 11) (ptx : π cu 0 = some tx) (ctx : qhi L tx 1 = 240) (w0 : W v0) (wc : W cu) (wi : W it) (wi1 : W (it + 1)) (wi2 : W (it + 2)) (wi3 : W (it + 3)) (wi4 : W (it + 4)) (wp : W pt) (J : q_J (vA h (it + 1)) (vA h (it + 2)) (vI h pt 2) (vI h it 4) (vI h pt 6) (vI h v0 5) (vI h v0 4) (vI h pt 4) (vI h pt 5) (vI h v0 6)) (z : vI h it 4 ≤ vI h cu 1) (hN : 100000 ≤ N) : qk (f_Pr_readRange N v0 h) (fun r => q_U L W h0 π r.2 ∧ (r.1 = 0 ∨ r.1 = 1) ∧ (r.1 = 1 → q_J (vA r.2 (it + 1)) (vA r.2 (it + 2)) (vI r.2 pt 2) (vI r.2 it 4) (vI r.2 pt 6) (vI r.2 v0 5) (vI r.2 v0 4) (vI r.2 pt 4) (vI r.2 pt 5) (vI r.2 v0 6)) ∧ (r.1 = 1 → vI r.2 it 4 ≤ vI r.2 cu 1) ∧ (∀ a k, ¬ (a = cu ∨ a = it ∨ a = pt ∨ a = v0) → vI r.2 a k = vI h a k) ∧ (∀ a j, 0 ≤ j → ¬ (a = it + 1 ∨ a = it + 2) → vA r.2 a j = vA h a j) ∧ (∀ j, 0 ≤ j → j < vI h it 4 → vA r.2 (it + 1) j = vA h (it + 1) j ∧ vA r.2 (it + 2) j = vA h (it + 2) j) ∧ (vI h it 4 ≤ vI r.2 it 4) ∧ (vI r.2 pt 2 = vI h pt 2)) := by
  have hr_tx := q_rowhi T ktx
  have cit := q_CIt T kit
  have ccu := q_CCur T kcu
  unfold q_C_It at cit
  have tit := T.2.2.2.1 it 4
  have tpt := T.2.2.2.1 pt 6
  have tcu := T.2.2.2.1 cu 1
  rw [ccu.1.1, ccu.1.2] at tcu
  rw [cit.1.1, cit.1.2] at tit
  unfold f_Pr_readRange
  refine r_Pr_0 T kv0 pcu ?_
  refine r_Cur_o T kcu ?_
  refine c_Cur_look (v0 := cu) (v1 := 0) (tx := tx) T kcu ktx ptx (by first | with_reducible assumption | grind | grind (ematch := 40) (gen := 40) (liaSteps := 300000) | lia) (by first | with_reducible assumption | grind | grind (ematch := 40) (gen := 40) (liaSteps := 300000) | lia) (by first | with_reducible assumption | grind | grind (ematch := 40) (gen := 40) (liaSteps := 300000) | lia) ?_
  intro yr3 gr3_0 gr3_1 gr3_2 gr3_3 gr3_4
  simp only [Int32.add_zero] at gr3_2 gr3_3 gr3_4
  dsimp only
  refine qk_bs ?_
  refine c_Pr_isOutsideSets (v0 := (yr3)) T ?_
  intro yr5 gr5_0 gr5_1
  dsimp only
  refine qk_if (fun cc1 => ?_) (fun cc1 => ?_)
  · skip
    refine r_Pr_0 T kv0 pcu ?_
    refine r_Cur_o T kcu ?_
    refine c_Cur_look (v0 := cu) (v1 := 1) (tx := tx) T kcu ktx ptx (by first | with_reducible assumption | grind | grind (ematch := 40) (gen := 40) (liaSteps := 300000) | lia) (by first | with_reducible assumption | grind | grind (ematch := 40) (gen := 40) (liaSteps := 300000) | lia) (by first | with_reducible assumption | grind | grind (ematch := 40) (gen := 40) (liaSteps := 300000) | lia) ?_
    intro yr9 gr9_0 gr9_1 gr9_2 gr9_3 gr9_4
    dsimp only
    refine qk_if (fun cc2 => ?_) (fun cc2 => ?_)
    · skip
      refine r_Pr_0 T kv0 pcu ?_
      refine r_Cur_o T kcu ?_
      refine c_Cur_look (v0 := cu) (v1 := 2) (tx := tx) T kcu ktx ptx (by first | with_reducible assumption | grind | grind (ematch := 40) (gen := 40) (liaSteps := 300000) | lia) (by first | with_reducible assumption | grind | grind (ematch := 40) (gen := 40) (liaSteps := 300000) | lia) (by first | with_reducible assumption | grind | grind (ematch := 40) (gen := 40) (liaSteps := 300000) | lia) ?_
      intro yr13 gr13_0 gr13_1 gr13_2 gr13_3 gr13_4
      dsimp only
      refine qk_if (fun cc3 => ?_) (fun cc3 => ?_)
      · skip
        unfold f_Pr_readRange_75
        refine c_Pr_isOutsideSets (v0 := (yr3)) T ?_
        intro yr1i4 gr1i4_0 gr1i4_1
        dsimp only
        refine qk_if (fun cc5 => ?_) (fun cc5 => ?_)
        · skip
          refine qk_if (fun cc6 => ?_) (fun cc6 => ?_)
          · skip
            refine r_Pr_1 T kv0 pit ?_
            refine r_It_o T kit ?_
            refine c_It_allow (v0 := it) (v1 := (yr3)) (v2 := (yr3)) T kit (by first | with_reducible assumption | grind | grind (ematch := 40) (gen := 40) (liaSteps := 300000) | lia) (by first | with_reducible assumption | grind | grind (ematch := 40) (gen := 40) (liaSteps := 300000) | lia) (by first | with_reducible assumption | grind | grind (ematch := 40) (gen := 40) (liaSteps := 300000) | lia) (by first | with_reducible assumption | grind | grind (ematch := 40) (gen := 40) (liaSteps := 300000) | lia) (by first | with_reducible assumption | grind | grind (ematch := 40) (gen := 40) (liaSteps := 300000) | lia) (by first | with_reducible assumption | grind | grind (ematch := 40) (gen := 40) (liaSteps := 300000) | lia) ?_
            intro r6i4 Tr6i4 gr6i4_0 gr6i4_1
            refine r_Pr_0 Tr6i4 kv0 pcu ?_
            refine r_Cur_1 Tr6i4 kcu ?_
            intro x8i4 ex8i4 lx8i4 ux8i4
            subst ex8i4
            refine w_Cur_1 Tr6i4 kcu (by first | with_reducible assumption | grind | grind (ematch := 40) (gen := 40) (liaSteps := 300000) | lia) (q_inc01 (Tr6i4.2.2.2.1 _ 1) (q_CCur Tr6i4 kcu)) (by first | exact q_inc1 (by first | with_reducible assumption | grind -lia | grind) (q_inc00 (Tr6i4.2.2.2.1 _ 1) (q_CCur Tr6i4 kcu)) | exact q_inc1b (by first | with_reducible assumption | grind -lia | grind) (q_inc00 (Tr6i4.2.2.2.1 _ 1) (q_CCur Tr6i4 kcu))) ?_
            intro h9i4 Th9i4 ih9i4 ah9i4
            refine qk_some ?_
            exact ⟨Th9i4, (by first | with_reducible assumption | grind | grind (ematch := 40) (gen := 40) (liaSteps := 300000) | lia), (by first | with_reducible assumption | (intro yy; first | (exact absurd yy (by grind)) | exact q_J_eq J (by grind) (by grind) (by grind) (by grind) (by grind) (by grind) (by grind) (by grind) (by grind)) | grind), (by intro yy; exact q_zz (by grind -lia) (by first | grind -lia | grind) z (by first | with_reducible assumption | exact q_lt1 hat (by grind -lia) (by grind -lia) | grind -lia | grind) (by first | grind -lia | grind)), (by first | with_reducible assumption | grind | grind (ematch := 40) (gen := 40) (liaSteps := 300000) | lia), (by first | with_reducible assumption | grind | grind (ematch := 40) (gen := 40) (liaSteps := 300000) | lia), (by first | with_reducible assumption | grind | grind (ematch := 40) (gen := 40) (liaSteps := 300000) | lia), (by first | with_reducible assumption | grind | grind (ematch := 40) (gen := 40) (liaSteps := 300000) | lia), (by first | with_reducible assumption | grind | grind (ematch := 40) (gen := 40) (liaSteps := 300000) | lia)⟩
          · skip
            unfold f_Pr_readRange_87
            refine r_Pr_0 T kv0 pcu ?_
            refine r_Cur_o T kcu ?_
            refine c_Cur_refuse (v0 := cu) (v1 := 0) T kcu (by first | with_reducible assumption | grind | grind (ematch := 40) (gen := 40) (liaSteps := 300000) | lia) ?_
            intro yr3i7 hr3i7 Tr3i7 gr3i7_0 gr3i7_1 gr3i7_2
            dsimp only
            refine qk_zB (by first | with_reducible assumption | grind | grind (ematch := 40) (gen := 40) (liaSteps := 300000) | lia) ?_
            refine qk_some ?_
            exact ⟨Tr3i7, (by first | with_reducible assumption | grind | grind (ematch := 40) (gen := 40) (liaSteps := 300000) | lia), (by first | with_reducible assumption | (intro yy; first | (exact absurd yy (by grind)) | exact q_J_eq J (by grind) (by grind) (by grind) (by grind) (by grind) (by grind) (by grind) (by grind) (by grind)) | grind), (by first | with_reducible assumption | grind | grind (ematch := 40) (gen := 40) (liaSteps := 300000) | lia), (by first | with_reducible assumption | grind | grind (ematch := 40) (gen := 40) (liaSteps := 300000) | lia), (by first | with_reducible assumption | grind | grind (ematch := 40) (gen := 40) (liaSteps := 300000) | lia), (by first | with_reducible assumption | grind | grind (ematch := 40) (gen := 40) (liaSteps := 300000) | lia), (by first | with_reducible assumption | grind | grind (ematch := 40) (gen := 40) (liaSteps := 300000) | lia), (by first | with_reducible assumption | grind | grind (ematch := 40) (gen := 40) (liaSteps := 300000) | lia)⟩
        · skip
          unfold f_Pr_readRange_87
          refine r_Pr_0 T kv0 pcu ?_
          refine r_Cur_o T kcu ?_
          refine c_Cur_refuse (v0 := cu) (v1 := 0) T kcu (by first | with_reducible assumption | grind | grind (ematch := 40) (gen := 40) (liaSteps := 300000) | lia) ?_
          intro yr3i8 hr3i8 Tr3i8 gr3i8_0 gr3i8_1 gr3i8_2
          dsimp only
          refine qk_zB (by first | with_reducible assumption | grind | grind (ematch := 40) (gen := 40) (liaSteps := 300000) | lia) ?_
          refine qk_some ?_
          exact ⟨Tr3i8, (by first | with_reducible assumption | grind | grind (ematch := 40) (gen := 40) (liaSteps := 300000) | lia), (by first | with_reducible assumption | (intro yy; first | (exact absurd yy (by grind)) | exact q_J_eq J (by grind) (by grind) (by grind) (by grind) (by grind) (by grind) (by grind) (by grind) (by grind)) | grind), (by first | with_reducible assumption | grind | grind (ematch := 40) (gen := 40) (liaSteps := 300000) | lia), (by first | with_reducible assumption | grind | grind (ematch := 40) (gen := 40) (liaSteps := 300000) | lia), (by first | with_reducible assumption | grind | grind (ematch := 40) (gen := 40) (liaSteps := 300000) | lia), (by first | with_reducible assumption | grind | grind (ematch := 40) (gen := 40) (liaSteps := 300000) | lia), (by first | with_reducible assumption | grind | grind (ematch := 40) (gen := 40) (liaSteps := 300000) | lia), (by first | with_reducible assumption | grind | grind (ematch := 40) (gen := 40) (liaSteps := 300000) | lia)⟩
      · skip
        refine r_Pr_0 T kv0 pcu ?_
        refine r_Cur_1 T kcu ?_
        intro x16 ex16 lx16 ux16
        subst ex16
        refine w_Cur_1 T kcu (by first | with_reducible assumption | grind | grind (ematch := 40) (gen := 40) (liaSteps := 300000) | lia) (q_inc02 (T.2.2.2.1 _ 1) (q_CCur T kcu)) (by first | exact q_inc2 (by first | with_reducible assumption | grind -lia | grind) (q_inc00 (T.2.2.2.1 _ 1) (q_CCur T kcu))) ?_
        intro h17 Th17 ih17 ah17
        refine r_Pr_0 Th17 kv0 pcu ?_
        refine r_Cur_o Th17 kcu ?_
        refine c_Cur_look (v0 := cu) (v1 := 0) (tx := tx) Th17 kcu ktx ptx (by first | with_reducible assumption | grind | grind (ematch := 40) (gen := 40) (liaSteps := 300000) | lia) (by first | with_reducible assumption | grind | grind (ematch := 40) (gen := 40) (liaSteps := 300000) | lia) (by first | with_reducible assumption | grind | grind (ematch := 40) (gen := 40) (liaSteps := 300000) | lia) ?_
        intro yr20 gr20_0 gr20_1 gr20_2 gr20_3 gr20_4
        simp only [Int32.add_zero] at gr20_2 gr20_3 gr20_4
        dsimp only
        refine qk_bs ?_
        unfold f_Pr_readRange_75
        refine c_Pr_isOutsideSets (v0 := (yr20)) Th17 ?_
        intro yr1i9 gr1i9_0 gr1i9_1
        dsimp only
        refine qk_if (fun cc10 => ?_) (fun cc10 => ?_)
        · skip
          refine qk_if (fun cc11 => ?_) (fun cc11 => ?_)
          · skip
            refine r_Pr_1 Th17 kv0 pit ?_
            refine r_It_o Th17 kit ?_
            refine c_It_allow (v0 := it) (v1 := (yr3)) (v2 := (yr20)) Th17 kit (by first | with_reducible assumption | grind | grind (ematch := 40) (gen := 40) (liaSteps := 300000) | lia) (by first | with_reducible assumption | grind | grind (ematch := 40) (gen := 40) (liaSteps := 300000) | lia) (by first | with_reducible assumption | grind | grind (ematch := 40) (gen := 40) (liaSteps := 300000) | lia) (by first | with_reducible assumption | grind | grind (ematch := 40) (gen := 40) (liaSteps := 300000) | lia) (by first | with_reducible assumption | grind | grind (ematch := 40) (gen := 40) (liaSteps := 300000) | lia) (by first | with_reducible assumption | grind | grind (ematch := 40) (gen := 40) (liaSteps := 300000) | lia) ?_
            intro r6i9 Tr6i9 gr6i9_0 gr6i9_1
            refine r_Pr_0 Tr6i9 kv0 pcu ?_
            refine r_Cur_1 Tr6i9 kcu ?_
            intro x8i9 ex8i9 lx8i9 ux8i9
            subst ex8i9
            refine w_Cur_1 Tr6i9 kcu (by first | with_reducible assumption | grind | grind (ematch := 40) (gen := 40) (liaSteps := 300000) | lia) (q_inc01 (Tr6i9.2.2.2.1 _ 1) (q_CCur Tr6i9 kcu)) (by first | exact q_inc1 (by first | with_reducible assumption | grind -lia | grind) (q_inc00 (Tr6i9.2.2.2.1 _ 1) (q_CCur Tr6i9 kcu)) | exact q_inc1b (by first | with_reducible assumption | grind -lia | grind) (q_inc00 (Tr6i9.2.2.2.1 _ 1) (q_CCur Tr6i9 kcu))) ?_
            intro h9i9 Th9i9 ih9i9 ah9i9
            refine qk_some ?_
            exact ⟨Th9i9, (by first | with_reducible assumption | grind | grind (ematch := 40) (gen := 40) (liaSteps := 300000) | lia), (by first | with_reducible assumption | (intro yy; first | (exact absurd yy (by grind)) | exact q_J_eq J (by grind) (by grind) (by grind) (by grind) (by grind) (by grind) (by grind) (by grind) (by grind)) | grind), (by intro yy; exact q_zz (by grind -lia) (by first | grind -lia | grind) z (by first | with_reducible assumption | exact q_lt1 hat (by grind -lia) (by grind -lia) | grind -lia | grind) (by first | grind -lia | grind)), (by first | with_reducible assumption | grind | grind (ematch := 40) (gen := 40) (liaSteps := 300000) | lia), (by first | with_reducible assumption | grind | grind (ematch := 40) (gen := 40) (liaSteps := 300000) | lia), (by first | with_reducible assumption | grind | grind (ematch := 40) (gen := 40) (liaSteps := 300000) | lia), (by first | with_reducible assumption | grind | grind (ematch := 40) (gen := 40) (liaSteps := 300000) | lia), (by first | with_reducible assumption | grind | grind (ematch := 40) (gen := 40) (liaSteps := 300000) | lia)⟩
          · skip
            unfold f_Pr_readRange_87
            refine r_Pr_0 Th17 kv0 pcu ?_
            refine r_Cur_o Th17 kcu ?_
            refine c_Cur_refuse (v0 := cu) (v1 := 0) Th17 kcu (by first | with_reducible assumption | grind | grind (ematch := 40) (gen := 40) (liaSteps := 300000) | lia) ?_
            intro yr3i12 hr3i12 Tr3i12 gr3i12_0 gr3i12_1 gr3i12_2
            dsimp only
            refine qk_zB (by first | with_reducible assumption | grind | grind (ematch := 40) (gen := 40) (liaSteps := 300000) | lia) ?_
            refine qk_some ?_
            exact ⟨Tr3i12, (by first | with_reducible assumption | grind | grind (ematch := 40) (gen := 40) (liaSteps := 300000) | lia), (by first | with_reducible assumption | (intro yy; first | (exact absurd yy (by grind)) | exact q_J_eq J (by grind) (by grind) (by grind) (by grind) (by grind) (by grind) (by grind) (by grind) (by grind)) | grind), (by first | with_reducible assumption | grind | grind (ematch := 40) (gen := 40) (liaSteps := 300000) | lia), (by first | with_reducible assumption | grind | grind (ematch := 40) (gen := 40) (liaSteps := 300000) | lia), (by first | with_reducible assumption | grind | grind (ematch := 40) (gen := 40) (liaSteps := 300000) | lia), (by first | with_reducible assumption | grind | grind (ematch := 40) (gen := 40) (liaSteps := 300000) | lia), (by first | with_reducible assumption | grind | grind (ematch := 40) (gen := 40) (liaSteps := 300000) | lia), (by first | with_reducible assumption | grind | grind (ematch := 40) (gen := 40) (liaSteps := 300000) | lia)⟩
        · skip
          unfold f_Pr_readRange_87
          refine r_Pr_0 Th17 kv0 pcu ?_
          refine r_Cur_o Th17 kcu ?_
          refine c_Cur_refuse (v0 := cu) (v1 := 0) Th17 kcu (by first | with_reducible assumption | grind | grind (ematch := 40) (gen := 40) (liaSteps := 300000) | lia) ?_
          intro yr3i13 hr3i13 Tr3i13 gr3i13_0 gr3i13_1 gr3i13_2
          dsimp only
          refine qk_zB (by first | with_reducible assumption | grind | grind (ematch := 40) (gen := 40) (liaSteps := 300000) | lia) ?_
          refine qk_some ?_
          exact ⟨Tr3i13, (by first | with_reducible assumption | grind | grind (ematch := 40) (gen := 40) (liaSteps := 300000) | lia), (by first | with_reducible assumption | (intro yy; first | (exact absurd yy (by grind)) | exact q_J_eq J (by grind) (by grind) (by grind) (by grind) (by grind) (by grind) (by grind) (by grind) (by grind)) | grind), (by first | with_reducible assumption | grind | grind (ematch := 40) (gen := 40) (liaSteps := 300000) | lia), (by first | with_reducible assumption | grind | grind (ematch := 40) (gen := 40) (liaSteps := 300000) | lia), (by first | with_reducible assumption | grind | grind (ematch := 40) (gen := 40) (liaSteps := 300000) | lia), (by first | with_reducible assumption | grind | grind (ematch := 40) (gen := 40) (liaSteps := 300000) | lia), (by first | with_reducible assumption | grind | grind (ematch := 40) (gen := 40) (liaSteps := 300000) | lia), (by first | with_reducible assumption | grind | grind (ematch := 40) (gen := 40) (liaSteps := 300000) | lia)⟩
    · skip
      unfold f_Pr_readRange_75
      refine c_Pr_isOutsideSets (v0 := (yr3)) T ?_
      intro yr1i14 gr1i14_0 gr1i14_1
      dsimp only
      refine qk_if (fun cc15 => ?_) (fun cc15 => ?_)
      · skip
        refine qk_if (fun cc16 => ?_) (fun cc16 => ?_)
        · skip
          refine r_Pr_1 T kv0 pit ?_
          refine r_It_o T kit ?_
          refine c_It_allow (v0 := it) (v1 := (yr3)) (v2 := (yr3)) T kit (by first | with_reducible assumption | grind | grind (ematch := 40) (gen := 40) (liaSteps := 300000) | lia) (by first | with_reducible assumption | grind | grind (ematch := 40) (gen := 40) (liaSteps := 300000) | lia) (by first | with_reducible assumption | grind | grind (ematch := 40) (gen := 40) (liaSteps := 300000) | lia) (by first | with_reducible assumption | grind | grind (ematch := 40) (gen := 40) (liaSteps := 300000) | lia) (by first | with_reducible assumption | grind | grind (ematch := 40) (gen := 40) (liaSteps := 300000) | lia) (by first | with_reducible assumption | grind | grind (ematch := 40) (gen := 40) (liaSteps := 300000) | lia) ?_
          intro r6i14 Tr6i14 gr6i14_0 gr6i14_1
          refine r_Pr_0 Tr6i14 kv0 pcu ?_
          refine r_Cur_1 Tr6i14 kcu ?_
          intro x8i14 ex8i14 lx8i14 ux8i14
          subst ex8i14
          refine w_Cur_1 Tr6i14 kcu (by first | with_reducible assumption | grind | grind (ematch := 40) (gen := 40) (liaSteps := 300000) | lia) (q_inc01 (Tr6i14.2.2.2.1 _ 1) (q_CCur Tr6i14 kcu)) (by first | exact q_inc1 (by first | with_reducible assumption | grind -lia | grind) (q_inc00 (Tr6i14.2.2.2.1 _ 1) (q_CCur Tr6i14 kcu)) | exact q_inc1b (by first | with_reducible assumption | grind -lia | grind) (q_inc00 (Tr6i14.2.2.2.1 _ 1) (q_CCur Tr6i14 kcu))) ?_
          intro h9i14 Th9i14 ih9i14 ah9i14
          refine qk_some ?_
          exact ⟨Th9i14, (by first | with_reducible assumption | grind | grind (ematch := 40) (gen := 40) (liaSteps := 300000) | lia), (by first | with_reducible assumption | (intro yy; first | (exact absurd yy (by grind)) | exact q_J_eq J (by grind) (by grind) (by grind) (by grind) (by grind) (by grind) (by grind) (by grind) (by grind)) | grind), (by intro yy; exact q_zz (by grind -lia) (by first | grind -lia | grind) z (by first | with_reducible assumption | exact q_lt1 hat (by grind -lia) (by grind -lia) | grind -lia | grind) (by first | grind -lia | grind)), (by first | with_reducible assumption | grind | grind (ematch := 40) (gen := 40) (liaSteps := 300000) | lia), (by first | with_reducible assumption | grind | grind (ematch := 40) (gen := 40) (liaSteps := 300000) | lia), (by first | with_reducible assumption | grind | grind (ematch := 40) (gen := 40) (liaSteps := 300000) | lia), (by first | with_reducible assumption | grind | grind (ematch := 40) (gen := 40) (liaSteps := 300000) | lia), (by first | with_reducible assumption | grind | grind (ematch := 40) (gen := 40) (liaSteps := 300000) | lia)⟩
        · skip
          unfold f_Pr_readRange_87
          refine r_Pr_0 T kv0 pcu ?_
          refine r_Cur_o T kcu ?_
          refine c_Cur_refuse (v0 := cu) (v1 := 0) T kcu (by first | with_reducible assumption | grind | grind (ematch := 40) (gen := 40) (liaSteps := 300000) | lia) ?_
          intro yr3i17 hr3i17 Tr3i17 gr3i17_0 gr3i17_1 gr3i17_2
          dsimp only
          refine qk_zB (by first | with_reducible assumption | grind | grind (ematch := 40) (gen := 40) (liaSteps := 300000) | lia) ?_
          refine qk_some ?_
          exact ⟨Tr3i17, (by first | with_reducible assumption | grind | grind (ematch := 40) (gen := 40) (liaSteps := 300000) | lia), (by first | with_reducible assumption | (intro yy; first | (exact absurd yy (by grind)) | exact q_J_eq J (by grind) (by grind) (by grind) (by grind) (by grind) (by grind) (by grind) (by grind) (by grind)) | grind), (by first | with_reducible assumption | grind | grind (ematch := 40) (gen := 40) (liaSteps := 300000) | lia), (by first | with_reducible assumption | grind | grind (ematch := 40) (gen := 40) (liaSteps := 300000) | lia), (by first | with_reducible assumption | grind | grind (ematch := 40) (gen := 40) (liaSteps := 300000) | lia), (by first | with_reducible assumption | grind | grind (ematch := 40) (gen := 40) (liaSteps := 300000) | lia), (by first | with_reducible assumption | grind | grind (ematch := 40) (gen := 40) (liaSteps := 300000) | lia), (by first | with_reducible assumption | grind | grind (ematch := 40) (gen := 40) (liaSteps := 300000) | lia)⟩
      · skip
        unfold f_Pr_readRange_87
        refine r_Pr_0 T kv0 pcu ?_
        refine r_Cur_o T kcu ?_
        refine c_Cur_refuse (v0 := cu) (v1 := 0) T kcu (by first | with_reducible assumption | grind | grind (ematch := 40) (gen := 40) (liaSteps := 300000) | lia) ?_
        intro yr3i18 hr3i18 Tr3i18 gr3i18_0 gr3i18_1 gr3i18_2
        dsimp only
        refine qk_zB (by first | with_reducible assumption | grind | grind (ematch := 40) (gen := 40) (liaSteps := 300000) | lia) ?_
        refine qk_some ?_
        exact ⟨Tr3i18, (by first | with_reducible assumption | grind | grind (ematch := 40) (gen := 40) (liaSteps := 300000) | lia), (by first | with_reducible assumption | (intro yy; first | (exact absurd yy (by grind)) | exact q_J_eq J (by grind) (by grind) (by grind) (by grind) (by grind) (by grind) (by grind) (by grind) (by grind)) | grind), (by first | with_reducible assumption | grind | grind (ematch := 40) (gen := 40) (liaSteps := 300000) | lia), (by first | with_reducible assumption | grind | grind (ematch := 40) (gen := 40) (liaSteps := 300000) | lia), (by first | with_reducible assumption | grind | grind (ematch := 40) (gen := 40) (liaSteps := 300000) | lia), (by first | with_reducible assumption | grind | grind (ematch := 40) (gen := 40) (liaSteps := 300000) | lia), (by first | with_reducible assumption | grind | grind (ematch := 40) (gen := 40) (liaSteps := 300000) | lia), (by first | with_reducible assumption | grind | grind (ematch := 40) (gen := 40) (liaSteps := 300000) | lia)⟩
  · skip
    refine r_Pr_0 T kv0 pcu ?_
    refine r_Cur_o T kcu ?_
    refine c_Cur_refuse (v0 := cu) (v1 := 0) T kcu (by first | with_reducible assumption | grind | grind (ematch := 40) (gen := 40) (liaSteps := 300000) | lia) ?_
    intro yr24 hr24 Tr24 gr24_0 gr24_1 gr24_2
    dsimp only
    refine qk_zB (by first | with_reducible assumption | grind | grind (ematch := 40) (gen := 40) (liaSteps := 300000) | lia) ?_
    refine qk_some ?_
    exact ⟨Tr24, (by first | with_reducible assumption | grind | grind (ematch := 40) (gen := 40) (liaSteps := 300000) | lia), (by first | with_reducible assumption | (intro yy; first | (exact absurd yy (by grind)) | exact q_J_eq J (by grind) (by grind) (by grind) (by grind) (by grind) (by grind) (by grind) (by grind) (by grind)) | grind), (by first | with_reducible assumption | grind | grind (ematch := 40) (gen := 40) (liaSteps := 300000) | lia), (by first | with_reducible assumption | grind | grind (ematch := 40) (gen := 40) (liaSteps := 300000) | lia), (by first | with_reducible assumption | grind | grind (ematch := 40) (gen := 40) (liaSteps := 300000) | lia), (by first | with_reducible assumption | grind | grind (ematch := 40) (gen := 40) (liaSteps := 300000) | lia), (by first | with_reducible assumption | grind | grind (ematch := 40) (gen := 40) (liaSteps := 300000) | lia), (by first | with_reducible assumption | grind | grind (ematch := 40) (gen := 40) (liaSteps := 300000) | lia)⟩
theorem c_Pr_readRange {L : q_L} {W : Nat → Prop} {h0 : z_H} {π : Nat → Nat → Option Nat} {N : Nat} {cu : Nat} {it : Nat} {pt : Nat} {tx : Nat} {h : z_H} {v0 : Nat} {β : Type} {f : Int32 × z_H → Option β} {Q : β → Prop} (T : q_U L W h0 π h) (kv0 : qκ L v0 = 9) (kcu : qκ L cu = 3) (pcu : π v0 0 = some cu) (kit : qκ L it = 5) (pit : π v0 1 = some it) (kpt : qκ L pt = 8) (ppt : π v0 2 = some pt) (ktx : qκ L tx = 11) (ptx : π cu 0 = some tx) (ctx : qhi L tx 1 = 240) (w0 : W v0) (wc : W cu) (wi : W it) (wi1 : W (it + 1)) (wi2 : W (it + 2)) (wi3 : W (it + 3)) (wi4 : W (it + 4)) (wp : W pt) (J : q_J (vA h (it + 1)) (vA h (it + 2)) (vI h pt 2) (vI h it 4) (vI h pt 6) (vI h v0 5) (vI h v0 4) (vI h pt 4) (vI h pt 5) (vI h v0 6)) (z : vI h it 4 ≤ vI h cu 1) (hN : 100000 ≤ N) (H : ∀ y h', q_U L W h0 π h' → (y = 0 ∨ y = 1) → (y = 1 → q_J (vA h' (it + 1)) (vA h' (it + 2)) (vI h' pt 2) (vI h' it 4) (vI h' pt 6) (vI h' v0 5) (vI h' v0 4) (vI h' pt 4) (vI h' pt 5) (vI h' v0 6)) → (y = 1 → vI h' it 4 ≤ vI h' cu 1) → (∀ a k, ¬ (a = cu ∨ a = it ∨ a = pt ∨ a = v0) → vI h' a k = vI h a k) → (∀ a j, 0 ≤ j → ¬ (a = it + 1 ∨ a = it + 2) → vA h' a j = vA h a j) → (∀ j, 0 ≤ j → j < vI h it 4 → vA h' (it + 1) j = vA h (it + 1) j ∧ vA h' (it + 2) j = vA h (it + 2) j) → (vI h it 4 ≤ vI h' it 4) → (vI h' pt 2 = vI h pt 2) → qk (f (y, h')) Q) : qk (z_b (f_Pr_readRange N v0 h) f) Q := by
  refine qk_b (p_Pr_readRange T kv0 kcu pcu kit pit kpt ppt ktx ptx ctx w0 wc wi wi1 wi2 wi3 wi4 wp J z hN) ?_
  rintro ⟨y, hz⟩ ⟨Tz, g0, g1, g2, g3, g4, g5, g6, g7⟩
  exact H y hz Tz g0 g1 g2 g3 g4 g5 g6 g7

set_option maxHeartbeats 2000000 in
theorem p_Pr_readSet_62_n {L : q_L} {W : Nat → Prop} {h0 : z_H} {π : Nat → Nat → Option Nat} {N : Nat} {cu : Nat} {it : Nat} {pt : Nat} {tx : Nat} {lo : Nat → Int32} (hqn : q_Q lo 242) : ∀ (n : Nat) (v0 : Nat) (v1 : Int32) (v2 : Int32) (v3 : Int32) (h : z_H), q_U L W h0 π h → qκ L v0 = 9 → (qκ L cu = 3) → (π v0 0 = some cu) → (qκ L it = 5) → (π v0 1 = some it) → (qκ L pt = 8) → (π v0 2 = some pt) → (qκ L tx = 11) → (π cu 0 = some tx) → (qhi L tx 1 = 240) → (W v0) → (W cu) → (W it) → (W (it + 1)) → (W (it + 2)) → (W (it + 3)) → (W (it + 4)) → (W pt) → (q_J (vA h (it + 1)) (vA h (it + 2)) (vI h pt 2) (vI h it 4) (vI h pt 6) (vI h v0 5) (vI h v0 4) (vI h pt 4) (vI h pt 5) (vI h v0 6)) → (vI h it 4 ≤ vI h cu 1) → (0 ≤ v3) → (v3 ≤ 241) → (100000 ≤ N) → (lo n ≤ v3) → qk (f_Pr_readSet_62 N  n v0 v1 v2 v3 h) (fun r => q_U L W h0 π r.2 ∧ (r.1 = 0 ∨ r.1 = 1) ∧ (r.1 = 1 → q_J (vA r.2 (it + 1)) (vA r.2 (it + 2)) (vI r.2 pt 2) (vI r.2 it 4) (vI r.2 pt 6) (vI r.2 v0 5) (vI r.2 v0 4) (vI r.2 pt 4) (vI r.2 pt 5) (vI r.2 v0 6)) ∧ (r.1 = 1 → vI r.2 it 4 ≤ vI r.2 cu 1) ∧ (∀ a k, ¬ (a = cu ∨ a = it ∨ a = pt ∨ a = v0) → vI r.2 a k = vI h a k) ∧ (∀ a j, 0 ≤ j → ¬ (a = it + 1 ∨ a = it + 2) → vA r.2 a j = vA h a j) ∧ (∀ j, 0 ≤ j → j < vI h it 4 → vA r.2 (it + 1) j = vA h (it + 1) j ∧ vA r.2 (it + 2) j = vA h (it + 2) j) ∧ (vI h it 4 ≤ vI r.2 it 4) ∧ (vI r.2 pt 2 = vI h pt 2)) := by
  intro n
  induction n with
  | zero => intro v0 v1 v2 v3 h T kv0 kcu pcu kit pit kpt ppt ktx ptx ctx w0 wc wi wi1 wi2 wi3 wi4 wp J z b0 b1 hN hms; have hr_tx := q_rowhi T ktx; have hz := hqn.1; exact absurd hms (by grind)
  | succ n ih =>
    intro v0 v1 v2 v3 h T kv0 kcu pcu kit pit kpt ppt ktx ptx ctx w0 wc wi wi1 wi2 wi3 wi4 wp J z b0 b1 hN hms
    obtain ⟨hq1, hq2, hq3⟩ := hqn.2 n
    rw [f_Pr_readSet_62]
    have hr_tx := q_rowhi T ktx
    have cit := q_CIt T kit
    have ccu := q_CCur T kcu
    unfold q_C_It at cit
    have tit := T.2.2.2.1 it 4
    have tpt := T.2.2.2.1 pt 6
    have tcu := T.2.2.2.1 cu 1
    rw [ccu.1.1, ccu.1.2] at tcu
    rw [cit.1.1, cit.1.2] at tit
    refine qk_if (fun cc1 => ?_) (fun cc1 => ?_)
    · skip
      unfold f_Pr_readSet_107
      refine qk_if (fun cc3 => ?_) (fun cc3 => ?_)
      · skip
        unfold f_Pr_readSet_118
        refine r_Pr_0 T kv0 pcu ?_
        refine r_Cur_o T kcu ?_
        refine c_Cur_pass (v0 := cu) (v1 := 93) (tx := tx) T kcu ktx ptx (by clear ih; first | with_reducible assumption | grind | grind (ematch := 40) (gen := 40) (liaSteps := 300000) | lia) (by clear ih; first | with_reducible assumption | grind | grind (ematch := 40) (gen := 40) (liaSteps := 300000) | lia) (by clear ih; first | with_reducible assumption | grind | grind (ematch := 40) (gen := 40) (liaSteps := 300000) | lia) ?_
        intro yr3i4 hr3i4 Tr3i4 gr3i4_0 gr3i4_1 gr3i4_2 gr3i4_3 gr3i4_4 gr3i4_5 gr3i4_6
        dsimp only
        refine qk_zB (by clear ih; first | with_reducible assumption | grind | grind (ematch := 40) (gen := 40) (liaSteps := 300000) | lia) ?_
        refine qk_some ?_
        exact ⟨Tr3i4, (by clear ih; first | with_reducible assumption | grind | grind (ematch := 40) (gen := 40) (liaSteps := 300000) | lia), (by clear ih; first | with_reducible assumption | (intro yy; first | (exact absurd yy (by grind)) | exact q_J_eq J (by grind) (by grind) (by grind) (by grind) (by grind) (by grind) (by grind) (by grind) (by grind)) | grind), (by clear ih; first | with_reducible assumption | grind | grind (ematch := 40) (gen := 40) (liaSteps := 300000) | lia), (by clear ih; first | with_reducible assumption | grind | grind (ematch := 40) (gen := 40) (liaSteps := 300000) | lia), (by clear ih; first | with_reducible assumption | grind | grind (ematch := 40) (gen := 40) (liaSteps := 300000) | lia), (by clear ih; first | with_reducible assumption | grind | grind (ematch := 40) (gen := 40) (liaSteps := 300000) | lia), (by clear ih; first | with_reducible assumption | grind | grind (ematch := 40) (gen := 40) (liaSteps := 300000) | lia), (by clear ih; first | with_reducible assumption | grind | grind (ematch := 40) (gen := 40) (liaSteps := 300000) | lia)⟩
      · skip
        refine r_Pr_1 T kv0 pit ?_
        refine r_It_o T kit ?_
        refine c_It_turn (v0 := it) T kit (by clear ih; first | with_reducible assumption | grind | grind (ematch := 40) (gen := 40) (liaSteps := 300000) | lia) (by clear ih; first | with_reducible assumption | grind | grind (ematch := 40) (gen := 40) (liaSteps := 300000) | lia) ?_
        intro r4i2 Tr4i2 gr4i2_0 gr4i2_1
        unfold f_Pr_readSet_118
        refine r_Pr_0 Tr4i2 kv0 pcu ?_
        refine r_Cur_o Tr4i2 kcu ?_
        refine c_Cur_pass (v0 := cu) (v1 := 93) (tx := tx) Tr4i2 kcu ktx ptx (by clear ih; first | with_reducible assumption | grind | grind (ematch := 40) (gen := 40) (liaSteps := 300000) | lia) (by clear ih; first | with_reducible assumption | grind | grind (ematch := 40) (gen := 40) (liaSteps := 300000) | lia) (by clear ih; first | with_reducible assumption | grind | grind (ematch := 40) (gen := 40) (liaSteps := 300000) | lia) ?_
        intro yr3i5 hr3i5 Tr3i5 gr3i5_0 gr3i5_1 gr3i5_2 gr3i5_3 gr3i5_4 gr3i5_5 gr3i5_6
        dsimp only
        refine qk_zB (by clear ih; first | with_reducible assumption | grind | grind (ematch := 40) (gen := 40) (liaSteps := 300000) | lia) ?_
        refine qk_some ?_
        exact ⟨Tr3i5, (by clear ih; first | with_reducible assumption | grind | grind (ematch := 40) (gen := 40) (liaSteps := 300000) | lia), (by clear ih; first | with_reducible assumption | (intro yy; first | (exact absurd yy (by grind)) | exact q_J_eq J (by grind) (by grind) (by grind) (by grind) (by grind) (by grind) (by grind) (by grind) (by grind)) | grind), (by clear ih; first | with_reducible assumption | grind | grind (ematch := 40) (gen := 40) (liaSteps := 300000) | lia), (by clear ih; first | with_reducible assumption | grind | grind (ematch := 40) (gen := 40) (liaSteps := 300000) | lia), (by clear ih; first | with_reducible assumption | grind | grind (ematch := 40) (gen := 40) (liaSteps := 300000) | lia), (by clear ih; first | with_reducible assumption | grind | grind (ematch := 40) (gen := 40) (liaSteps := 300000) | lia), (by clear ih; first | with_reducible assumption | grind | grind (ematch := 40) (gen := 40) (liaSteps := 300000) | lia), (by clear ih; first | with_reducible assumption | grind | grind (ematch := 40) (gen := 40) (liaSteps := 300000) | lia)⟩
    · skip
      refine qk_if (fun cc6 => ?_) (fun cc6 => ?_)
      · skip
        refine r_Pr_o T kv0 ?_
        refine c_Pr_readRange (v0 := v0) (cu := cu) (it := it) (pt := pt) (tx := tx) T kv0 kcu pcu kit pit kpt ppt ktx ptx (by clear ih; first | with_reducible assumption | grind | grind (ematch := 40) (gen := 40) (liaSteps := 300000) | lia) (by clear ih; first | with_reducible assumption | grind | grind (ematch := 40) (gen := 40) (liaSteps := 300000) | lia) (by clear ih; first | with_reducible assumption | grind | grind (ematch := 40) (gen := 40) (liaSteps := 300000) | lia) (by clear ih; first | with_reducible assumption | grind | grind (ematch := 40) (gen := 40) (liaSteps := 300000) | lia) (by clear ih; first | with_reducible assumption | grind | grind (ematch := 40) (gen := 40) (liaSteps := 300000) | lia) (by clear ih; first | with_reducible assumption | grind | grind (ematch := 40) (gen := 40) (liaSteps := 300000) | lia) (by clear ih; first | with_reducible assumption | grind | grind (ematch := 40) (gen := 40) (liaSteps := 300000) | lia) (by clear ih; first | with_reducible assumption | grind | grind (ematch := 40) (gen := 40) (liaSteps := 300000) | lia) (by clear ih; first | with_reducible assumption | grind | grind (ematch := 40) (gen := 40) (liaSteps := 300000) | lia) (by clear ih; first | with_reducible assumption | grind | grind (ematch := 40) (gen := 40) (liaSteps := 300000) | lia) (by clear ih; first | with_reducible assumption | grind | grind (ematch := 40) (gen := 40) (liaSteps := 300000) | lia) (by clear ih; first | with_reducible assumption | grind | grind (ematch := 40) (gen := 40) (liaSteps := 300000) | lia) ?_
        intro yr4 hr4 Tr4 gr4_0 gr4_1 gr4_2 gr4_3 gr4_4 gr4_5 gr4_6 gr4_7
        dsimp only
        refine qk_if (fun cc7 => ?_) (fun cc7 => ?_)
        · skip
          refine qk_some ?_
          exact ⟨Tr4, (by clear ih; first | with_reducible assumption | grind | grind (ematch := 40) (gen := 40) (liaSteps := 300000) | lia), (by clear ih; first | with_reducible assumption | (intro yy; first | (exact absurd yy (by grind)) | exact q_J_eq J (by grind) (by grind) (by grind) (by grind) (by grind) (by grind) (by grind) (by grind) (by grind) | exact q_J_eq (gr4_1 (by grind)) (by grind) (by grind) (by grind) (by grind) (by grind) (by grind) (by grind) (by grind) (by grind)) | grind), (by clear ih; intro yy; exact absurd (show (0 : Int32) = 1 from yy) (by decide)), (by clear ih; first | with_reducible assumption | grind | grind (ematch := 40) (gen := 40) (liaSteps := 300000) | lia), (by clear ih; first | with_reducible assumption | grind | grind (ematch := 40) (gen := 40) (liaSteps := 300000) | lia), (by clear ih; first | with_reducible assumption | grind | grind (ematch := 40) (gen := 40) (liaSteps := 300000) | lia), (by clear ih; first | with_reducible assumption | grind | grind (ematch := 40) (gen := 40) (liaSteps := 300000) | lia), (by clear ih; first | with_reducible assumption | grind | grind (ematch := 40) (gen := 40) (liaSteps := 300000) | lia)⟩
        · skip
          refine r_Pr_0 Tr4 kv0 pcu ?_
          refine r_Cur_o Tr4 kcu ?_
          refine c_Cur_look (v0 := cu) (v1 := 0) (tx := tx) Tr4 kcu ktx ptx (by clear ih; first | with_reducible assumption | grind | grind (ematch := 40) (gen := 40) (liaSteps := 300000) | lia) (by clear ih; first | with_reducible assumption | grind | grind (ematch := 40) (gen := 40) (liaSteps := 300000) | lia) (by clear ih; first | with_reducible assumption | grind | grind (ematch := 40) (gen := 40) (liaSteps := 300000) | lia) ?_
          intro yr8 gr8_0 gr8_1 gr8_2 gr8_3 gr8_4
          simp only [Int32.add_zero] at gr8_2 gr8_3 gr8_4
          dsimp only
          refine qk_if (fun cc8 => ?_) (fun cc8 => ?_)
          · skip
            refine qk_bs ?_
            refine qk_mono (ih (v0) (v1) (1) ((v3 + 1)) hr4 Tr4 kv0 kcu pcu kit pit kpt ppt ktx ptx (by clear ih; first | with_reducible assumption | grind | grind (ematch := 40) (gen := 40) (liaSteps := 300000) | lia) (by clear ih; first | with_reducible assumption | grind | grind (ematch := 40) (gen := 40) (liaSteps := 300000) | lia) (by clear ih; first | with_reducible assumption | grind | grind (ematch := 40) (gen := 40) (liaSteps := 300000) | lia) (by clear ih; first | with_reducible assumption | grind | grind (ematch := 40) (gen := 40) (liaSteps := 300000) | lia) (by clear ih; first | with_reducible assumption | grind | grind (ematch := 40) (gen := 40) (liaSteps := 300000) | lia) (by clear ih; first | with_reducible assumption | grind | grind (ematch := 40) (gen := 40) (liaSteps := 300000) | lia) (by clear ih; first | with_reducible assumption | grind | grind (ematch := 40) (gen := 40) (liaSteps := 300000) | lia) (by clear ih; first | with_reducible assumption | grind | grind (ematch := 40) (gen := 40) (liaSteps := 300000) | lia) (by clear ih; first | with_reducible assumption | grind | grind (ematch := 40) (gen := 40) (liaSteps := 300000) | lia) (by clear ih; first | with_reducible assumption | first | exact q_J_eq J (by grind) (by grind) (by grind) (by grind) (by grind) (by grind) (by grind) (by grind) (by grind) | exact q_J_eq (gr4_1 (by grind)) (by grind) (by grind) (by grind) (by grind) (by grind) (by grind) (by grind) (by grind) (by grind) | grind) (by clear ih; first | with_reducible assumption | grind | grind (ematch := 40) (gen := 40) (liaSteps := 300000) | lia) (by clear ih; first | with_reducible assumption | grind | grind (ematch := 40) (gen := 40) (liaSteps := 300000) | lia) (by clear ih; first | with_reducible assumption | grind | grind (ematch := 40) (gen := 40) (liaSteps := 300000) | lia) (by clear ih; first | with_reducible assumption | grind | grind (ematch := 40) (gen := 40) (liaSteps := 300000) | lia) (by clear ih; first | with_reducible assumption | grind | grind (ematch := 40) (gen := 40) (liaSteps := 300000) | lia)) ?_
            rintro ⟨y, hz⟩ ⟨Tz, g0, g1, g2, g3, g4, g5, g6, g7⟩
            try dsimp only at *
            exact ⟨Tz, (by clear ih; first | with_reducible assumption | grind | grind (ematch := 40) (gen := 40) (liaSteps := 300000) | lia), (by clear ih; first | with_reducible assumption | (intro yy; first | (exact absurd yy (by grind)) | exact q_J_eq J (by grind) (by grind) (by grind) (by grind) (by grind) (by grind) (by grind) (by grind) (by grind) | exact q_J_eq (gr4_1 (by grind)) (by grind) (by grind) (by grind) (by grind) (by grind) (by grind) (by grind) (by grind) (by grind)) | grind), (by clear ih; first | with_reducible assumption | grind | grind (ematch := 40) (gen := 40) (liaSteps := 300000) | lia), (by clear ih; first | with_reducible assumption | grind | grind (ematch := 40) (gen := 40) (liaSteps := 300000) | lia), (by clear ih; first | with_reducible assumption | grind | grind (ematch := 40) (gen := 40) (liaSteps := 300000) | lia), (by clear ih; first | with_reducible assumption | grind | grind (ematch := 40) (gen := 40) (liaSteps := 300000) | lia), (by clear ih; first | with_reducible assumption | grind | grind (ematch := 40) (gen := 40) (liaSteps := 300000) | lia), (by clear ih; first | with_reducible assumption | grind | grind (ematch := 40) (gen := 40) (liaSteps := 300000) | lia)⟩
          · skip
            refine qk_bs ?_
            refine qk_mono (ih (v0) (v1) (0) ((v3 + 1)) hr4 Tr4 kv0 kcu pcu kit pit kpt ppt ktx ptx (by clear ih; first | with_reducible assumption | grind | grind (ematch := 40) (gen := 40) (liaSteps := 300000) | lia) (by clear ih; first | with_reducible assumption | grind | grind (ematch := 40) (gen := 40) (liaSteps := 300000) | lia) (by clear ih; first | with_reducible assumption | grind | grind (ematch := 40) (gen := 40) (liaSteps := 300000) | lia) (by clear ih; first | with_reducible assumption | grind | grind (ematch := 40) (gen := 40) (liaSteps := 300000) | lia) (by clear ih; first | with_reducible assumption | grind | grind (ematch := 40) (gen := 40) (liaSteps := 300000) | lia) (by clear ih; first | with_reducible assumption | grind | grind (ematch := 40) (gen := 40) (liaSteps := 300000) | lia) (by clear ih; first | with_reducible assumption | grind | grind (ematch := 40) (gen := 40) (liaSteps := 300000) | lia) (by clear ih; first | with_reducible assumption | grind | grind (ematch := 40) (gen := 40) (liaSteps := 300000) | lia) (by clear ih; first | with_reducible assumption | grind | grind (ematch := 40) (gen := 40) (liaSteps := 300000) | lia) (by clear ih; first | with_reducible assumption | first | exact q_J_eq J (by grind) (by grind) (by grind) (by grind) (by grind) (by grind) (by grind) (by grind) (by grind) | exact q_J_eq (gr4_1 (by grind)) (by grind) (by grind) (by grind) (by grind) (by grind) (by grind) (by grind) (by grind) (by grind) | grind) (by clear ih; first | with_reducible assumption | grind | grind (ematch := 40) (gen := 40) (liaSteps := 300000) | lia) (by clear ih; first | with_reducible assumption | grind | grind (ematch := 40) (gen := 40) (liaSteps := 300000) | lia) (by clear ih; first | with_reducible assumption | grind | grind (ematch := 40) (gen := 40) (liaSteps := 300000) | lia) (by clear ih; first | with_reducible assumption | grind | grind (ematch := 40) (gen := 40) (liaSteps := 300000) | lia) (by clear ih; first | with_reducible assumption | grind | grind (ematch := 40) (gen := 40) (liaSteps := 300000) | lia)) ?_
            rintro ⟨y, hz⟩ ⟨Tz, g0, g1, g2, g3, g4, g5, g6, g7⟩
            try dsimp only at *
            exact ⟨Tz, (by clear ih; first | with_reducible assumption | grind | grind (ematch := 40) (gen := 40) (liaSteps := 300000) | lia), (by clear ih; first | with_reducible assumption | (intro yy; first | (exact absurd yy (by grind)) | exact q_J_eq J (by grind) (by grind) (by grind) (by grind) (by grind) (by grind) (by grind) (by grind) (by grind) | exact q_J_eq (gr4_1 (by grind)) (by grind) (by grind) (by grind) (by grind) (by grind) (by grind) (by grind) (by grind) (by grind)) | grind), (by clear ih; first | with_reducible assumption | grind | grind (ematch := 40) (gen := 40) (liaSteps := 300000) | lia), (by clear ih; first | with_reducible assumption | grind | grind (ematch := 40) (gen := 40) (liaSteps := 300000) | lia), (by clear ih; first | with_reducible assumption | grind | grind (ematch := 40) (gen := 40) (liaSteps := 300000) | lia), (by clear ih; first | with_reducible assumption | grind | grind (ematch := 40) (gen := 40) (liaSteps := 300000) | lia), (by clear ih; first | with_reducible assumption | grind | grind (ematch := 40) (gen := 40) (liaSteps := 300000) | lia), (by clear ih; first | with_reducible assumption | grind | grind (ematch := 40) (gen := 40) (liaSteps := 300000) | lia)⟩
      · skip
        unfold f_Pr_readSet_107
        refine qk_if (fun cc12 => ?_) (fun cc12 => ?_)
        · skip
          unfold f_Pr_readSet_118
          refine r_Pr_0 T kv0 pcu ?_
          refine r_Cur_o T kcu ?_
          refine c_Cur_pass (v0 := cu) (v1 := 93) (tx := tx) T kcu ktx ptx (by clear ih; first | with_reducible assumption | grind | grind (ematch := 40) (gen := 40) (liaSteps := 300000) | lia) (by clear ih; first | with_reducible assumption | grind | grind (ematch := 40) (gen := 40) (liaSteps := 300000) | lia) (by clear ih; first | with_reducible assumption | grind | grind (ematch := 40) (gen := 40) (liaSteps := 300000) | lia) ?_
          intro yr3i13 hr3i13 Tr3i13 gr3i13_0 gr3i13_1 gr3i13_2 gr3i13_3 gr3i13_4 gr3i13_5 gr3i13_6
          dsimp only
          refine qk_zB (by clear ih; first | with_reducible assumption | grind | grind (ematch := 40) (gen := 40) (liaSteps := 300000) | lia) ?_
          refine qk_some ?_
          exact ⟨Tr3i13, (by clear ih; first | with_reducible assumption | grind | grind (ematch := 40) (gen := 40) (liaSteps := 300000) | lia), (by clear ih; first | with_reducible assumption | (intro yy; first | (exact absurd yy (by grind)) | exact q_J_eq J (by grind) (by grind) (by grind) (by grind) (by grind) (by grind) (by grind) (by grind) (by grind)) | grind), (by clear ih; first | with_reducible assumption | grind | grind (ematch := 40) (gen := 40) (liaSteps := 300000) | lia), (by clear ih; first | with_reducible assumption | grind | grind (ematch := 40) (gen := 40) (liaSteps := 300000) | lia), (by clear ih; first | with_reducible assumption | grind | grind (ematch := 40) (gen := 40) (liaSteps := 300000) | lia), (by clear ih; first | with_reducible assumption | grind | grind (ematch := 40) (gen := 40) (liaSteps := 300000) | lia), (by clear ih; first | with_reducible assumption | grind | grind (ematch := 40) (gen := 40) (liaSteps := 300000) | lia), (by clear ih; first | with_reducible assumption | grind | grind (ematch := 40) (gen := 40) (liaSteps := 300000) | lia)⟩
        · skip
          refine r_Pr_1 T kv0 pit ?_
          refine r_It_o T kit ?_
          refine c_It_turn (v0 := it) T kit (by clear ih; first | with_reducible assumption | grind | grind (ematch := 40) (gen := 40) (liaSteps := 300000) | lia) (by clear ih; first | with_reducible assumption | grind | grind (ematch := 40) (gen := 40) (liaSteps := 300000) | lia) ?_
          intro r4i11 Tr4i11 gr4i11_0 gr4i11_1
          unfold f_Pr_readSet_118
          refine r_Pr_0 Tr4i11 kv0 pcu ?_
          refine r_Cur_o Tr4i11 kcu ?_
          refine c_Cur_pass (v0 := cu) (v1 := 93) (tx := tx) Tr4i11 kcu ktx ptx (by clear ih; first | with_reducible assumption | grind | grind (ematch := 40) (gen := 40) (liaSteps := 300000) | lia) (by clear ih; first | with_reducible assumption | grind | grind (ematch := 40) (gen := 40) (liaSteps := 300000) | lia) (by clear ih; first | with_reducible assumption | grind | grind (ematch := 40) (gen := 40) (liaSteps := 300000) | lia) ?_
          intro yr3i14 hr3i14 Tr3i14 gr3i14_0 gr3i14_1 gr3i14_2 gr3i14_3 gr3i14_4 gr3i14_5 gr3i14_6
          dsimp only
          refine qk_zB (by clear ih; first | with_reducible assumption | grind | grind (ematch := 40) (gen := 40) (liaSteps := 300000) | lia) ?_
          refine qk_some ?_
          exact ⟨Tr3i14, (by clear ih; first | with_reducible assumption | grind | grind (ematch := 40) (gen := 40) (liaSteps := 300000) | lia), (by clear ih; first | with_reducible assumption | (intro yy; first | (exact absurd yy (by grind)) | exact q_J_eq J (by grind) (by grind) (by grind) (by grind) (by grind) (by grind) (by grind) (by grind) (by grind)) | grind), (by clear ih; first | with_reducible assumption | grind | grind (ematch := 40) (gen := 40) (liaSteps := 300000) | lia), (by clear ih; first | with_reducible assumption | grind | grind (ematch := 40) (gen := 40) (liaSteps := 300000) | lia), (by clear ih; first | with_reducible assumption | grind | grind (ematch := 40) (gen := 40) (liaSteps := 300000) | lia), (by clear ih; first | with_reducible assumption | grind | grind (ematch := 40) (gen := 40) (liaSteps := 300000) | lia), (by clear ih; first | with_reducible assumption | grind | grind (ematch := 40) (gen := 40) (liaSteps := 300000) | lia), (by clear ih; first | with_reducible assumption | grind | grind (ematch := 40) (gen := 40) (liaSteps := 300000) | lia)⟩
theorem p_Pr_readSet_62 {L : q_L} {W : Nat → Prop} {h0 : z_H} {π : Nat → Nat → Option Nat} {N : Nat} {cu : Nat} {it : Nat} {pt : Nat} {tx : Nat} {h : z_H} {v0 : Nat} {v1 : Int32} {v2 : Int32} {v3 : Int32} (T : q_U L W h0 π h) (kv0 : qκ L v0 = 9) (kcu : qκ L cu = 3) (pcu : π v0 0 = some cu) (kit : qκ L it = 5) (pit : π v0 1 = some it) (kpt : qκ L pt = 8) (ppt : π v0 2 = some pt) (ktx : qκ L tx = 11) (ptx : π cu 0 = some tx) (ctx : qhi L tx 1 = 240) (w0 : W v0) (wc : W cu) (wi : W it) (wi1 : W (it + 1)) (wi2 : W (it + 2)) (wi3 : W (it + 3)) (wi4 : W (it + 4)) (wp : W pt) (J : q_J (vA h (it + 1)) (vA h (it + 2)) (vI h pt 2) (vI h it 4) (vI h pt 6) (vI h v0 5) (vI h v0 4) (vI h pt 4) (vI h pt 5) (vI h v0 6)) (z : vI h it 4 ≤ vI h cu 1) (b0 : 0 ≤ v3) (b1 : v3 ≤ 241) (hN : 100000 ≤ N) : qk (f_Pr_readSet_62 N  N v0 v1 v2 v3 h) (fun r => q_U L W h0 π r.2 ∧ (r.1 = 0 ∨ r.1 = 1) ∧ (r.1 = 1 → q_J (vA r.2 (it + 1)) (vA r.2 (it + 2)) (vI r.2 pt 2) (vI r.2 it 4) (vI r.2 pt 6) (vI r.2 v0 5) (vI r.2 v0 4) (vI r.2 pt 4) (vI r.2 pt 5) (vI r.2 v0 6)) ∧ (r.1 = 1 → vI r.2 it 4 ≤ vI r.2 cu 1) ∧ (∀ a k, ¬ (a = cu ∨ a = it ∨ a = pt ∨ a = v0) → vI r.2 a k = vI h a k) ∧ (∀ a j, 0 ≤ j → ¬ (a = it + 1 ∨ a = it + 2) → vA r.2 a j = vA h a j) ∧ (∀ j, 0 ≤ j → j < vI h it 4 → vA r.2 (it + 1) j = vA h (it + 1) j ∧ vA r.2 (it + 2) j = vA h (it + 2) j) ∧ (vI h it 4 ≤ vI r.2 it 4) ∧ (vI r.2 pt 2 = vI h pt 2)) := by
  have hq := q_qnN hN
  have hr_tx := q_rowhi T ktx
  refine p_Pr_readSet_62_n (q_lo (M := 242) (by decide) (by decide)) N v0 v1 v2 v3 h T kv0 kcu pcu kit pit kpt ppt ktx ptx ctx w0 wc wi wi1 wi2 wi3 wi4 wp J z b0 b1 hN ?_ 
  show 242 - q_n N ≤ _
  rw [hq]
  lia
