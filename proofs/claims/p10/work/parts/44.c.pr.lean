set_option maxHeartbeats 2000000 in
theorem p_Pr_readSet {L : q_L} {W : Nat → Prop} {h0 : z_H} {π : Nat → Nat → Option Nat} {N : Nat} {cu : Nat} {it : Nat} {pt : Nat} {tx : Nat} {h : z_H} {v0 : Nat} (T : q_U L W h0 π h) (kv0 : qκ L v0 = 9) (kcu : qκ L cu = 3) (pcu : π v0 0 = some cu) (kit : qκ L it = 5) (pit : π v0 1 = some it) (kpt : qκ L pt = 8) (ppt : π v0 2 = some pt) (ktx : qκ L tx = 11) (ptx : π cu 0 = some tx) (ctx : qhi L tx 1 = 240) (w0 : W v0) (wc : W cu) (wi : W it) (wi1 : W (it + 1)) (wi2 : W (it + 2)) (wi3 : W (it + 3)) (wi4 : W (it + 4)) (wp : W pt) (J : q_J (vA h (it + 1)) (vA h (it + 2)) (vI h pt 2) (vI h it 4) (vI h pt 6) (vI h v0 5) (vI h v0 4) (vI h pt 4) (vI h pt 5) (vI h v0 6)) (z : vI h it 4 ≤ vI h cu 1) (hat : vI h cu 1 < 240) (hN : 100000 ≤ N) : qk (f_Pr_readSet N v0 h) (fun r => q_U L W h0 π r.2 ∧ (r.1 = 0 ∨ r.1 = 1) ∧ (r.1 = 1 → q_J (vA r.2 (it + 1)) (vA r.2 (it + 2)) (vI r.2 pt 2) (vI r.2 it 4) (vI r.2 pt 6) (vI r.2 v0 5) (vI r.2 v0 4) (vI r.2 pt 4) (vI r.2 pt 5) (vI r.2 v0 6)) ∧ (r.1 = 1 → vI r.2 it 4 ≤ vI r.2 cu 1) ∧ (∀ a k, ¬ (a = cu ∨ a = it ∨ a = pt ∨ a = v0) → vI r.2 a k = vI h a k) ∧ (∀ a j, 0 ≤ j → ¬ (a = it + 1 ∨ a = it + 2) → vA r.2 a j = vA h a j) ∧ (∀ j, 0 ≤ j → j < vI h it 4 → vA r.2 (it + 1) j = vA h (it + 1) j ∧ vA r.2 (it + 2) j = vA h (it + 2) j) ∧ (vI h it 4 ≤ vI r.2 it 4) ∧ (vI r.2 pt 2 = vI h pt 2)) := by
  have hr_tx := q_rowhi T ktx
  have cit := q_CIt T kit
  have ccu := q_CCur T kcu
  unfold q_C_It at cit
  have tit := T.2.2.2.1 it 4
  have tpt := T.2.2.2.1 pt 6
  have tcu := T.2.2.2.1 cu 1
  rw [ccu.1.1, ccu.1.2] at tcu
  rw [cit.1.1, cit.1.2] at tit
  unfold f_Pr_readSet
  refine r_Pr_o T kv0 ?_
  refine c_Pr_addOne (v0 := v0) (cu := cu) (it := it) (pt := pt) (tx := tx) T kv0 kcu pcu kit pit kpt ppt ktx ptx (by first | with_reducible assumption | grind | grind (ematch := 40) (gen := 40) (liaSteps := 300000) | lia) (by first | with_reducible assumption | grind | grind (ematch := 40) (gen := 40) (liaSteps := 300000) | lia) (by first | with_reducible assumption | grind | grind (ematch := 40) (gen := 40) (liaSteps := 300000) | lia) (by first | with_reducible assumption | grind | grind (ematch := 40) (gen := 40) (liaSteps := 300000) | lia) (by first | with_reducible assumption | grind | grind (ematch := 40) (gen := 40) (liaSteps := 300000) | lia) (by first | with_reducible assumption | grind | grind (ematch := 40) (gen := 40) (liaSteps := 300000) | lia) (by first | with_reducible assumption | grind | grind (ematch := 40) (gen := 40) (liaSteps := 300000) | lia) (by first | with_reducible assumption | grind | grind (ematch := 40) (gen := 40) (liaSteps := 300000) | lia) (by first | with_reducible assumption | grind | grind (ematch := 40) (gen := 40) (liaSteps := 300000) | lia) (by first | with_reducible assumption | grind | grind (ematch := 40) (gen := 40) (liaSteps := 300000) | lia) (by first | with_reducible assumption | grind | grind (ematch := 40) (gen := 40) (liaSteps := 300000) | lia) (by first | with_reducible assumption | grind | grind (ematch := 40) (gen := 40) (liaSteps := 300000) | lia) ?_
  intro yr2 hr2 Tr2 gr2_0 gr2_1 gr2_2 gr2_3 gr2_4 gr2_5 gr2_6 gr2_7 gr2_8
  dsimp only
  refine qk_if (fun cc1 => ?_) (fun cc1 => ?_)
  · skip
    refine qk_some ?_
    exact ⟨Tr2, (by first | with_reducible assumption | grind | grind (ematch := 40) (gen := 40) (liaSteps := 300000) | lia), (by first | with_reducible assumption | (intro yy; first | (exact absurd yy (by grind)) | exact q_J_eq J (by grind) (by grind) (by grind) (by grind) (by grind) (by grind) (by grind) (by grind) (by grind) | exact q_J_eq (gr2_1 (by grind)) (by grind) (by grind) (by grind) (by grind) (by grind) (by grind) (by grind) (by grind) (by grind)) | grind), (by intro yy; exact absurd (show (0 : Int32) = 1 from yy) (by decide)), (by first | with_reducible assumption | grind | grind (ematch := 40) (gen := 40) (liaSteps := 300000) | lia), (by first | with_reducible assumption | grind | grind (ematch := 40) (gen := 40) (liaSteps := 300000) | lia), (by first | with_reducible assumption | grind | grind (ematch := 40) (gen := 40) (liaSteps := 300000) | lia), (by first | with_reducible assumption | grind | grind (ematch := 40) (gen := 40) (liaSteps := 300000) | lia), (by first | with_reducible assumption | grind | grind (ematch := 40) (gen := 40) (liaSteps := 300000) | lia)⟩
  · skip
    refine r_Pr_0 Tr2 kv0 pcu ?_
    refine r_Cur_1 Tr2 kcu ?_
    intro x5 ex5 lx5 ux5
    subst ex5
    refine w_Cur_1 Tr2 kcu (by first | with_reducible assumption | grind | grind (ematch := 40) (gen := 40) (liaSteps := 300000) | lia) (q_inc01 (Tr2.2.2.2.1 _ 1) (q_CCur Tr2 kcu)) (by first | exact q_inc1 (by first | with_reducible assumption | grind -lia | grind) (q_inc00 (Tr2.2.2.2.1 _ 1) (q_CCur Tr2 kcu)) | exact q_inc1b (by first | with_reducible assumption | grind -lia | grind) (q_inc00 (Tr2.2.2.2.1 _ 1) (q_CCur Tr2 kcu))) ?_
    intro h6 Th6 ih6 ah6
    refine r_Pr_0 Th6 kv0 pcu ?_
    refine r_Cur_o Th6 kcu ?_
    refine c_Cur_look (v0 := cu) (v1 := 0) (tx := tx) Th6 kcu ktx ptx (by first | with_reducible assumption | grind | grind (ematch := 40) (gen := 40) (liaSteps := 300000) | lia) (by first | with_reducible assumption | grind | grind (ematch := 40) (gen := 40) (liaSteps := 300000) | lia) (by first | with_reducible assumption | grind | grind (ematch := 40) (gen := 40) (liaSteps := 300000) | lia) ?_
    intro yr9 gr9_0 gr9_1 gr9_2 gr9_3 gr9_4
    simp only [Int32.add_zero] at gr9_2 gr9_3 gr9_4
    dsimp only
    refine qk_if (fun cc2 => ?_) (fun cc2 => ?_)
    · skip
      unfold f_Pr_readSet_40
      refine qk_if (fun cc4 => ?_) (fun cc4 => ?_)
      · skip
        unfold f_Pr_readSet_58
        refine qk_mono (p_Pr_readSet_62 (v0 := v0) (v1 := 1) (v2 := 0) (v3 := 0) (cu := cu) (it := it) (pt := pt) (tx := tx) Th6 kv0 kcu pcu kit pit kpt ppt ktx ptx (by first | with_reducible assumption | grind | grind (ematch := 40) (gen := 40) (liaSteps := 300000) | lia) (by first | with_reducible assumption | grind | grind (ematch := 40) (gen := 40) (liaSteps := 300000) | lia) (by first | with_reducible assumption | grind | grind (ematch := 40) (gen := 40) (liaSteps := 300000) | lia) (by first | with_reducible assumption | grind | grind (ematch := 40) (gen := 40) (liaSteps := 300000) | lia) (by first | with_reducible assumption | grind | grind (ematch := 40) (gen := 40) (liaSteps := 300000) | lia) (by first | with_reducible assumption | grind | grind (ematch := 40) (gen := 40) (liaSteps := 300000) | lia) (by first | with_reducible assumption | grind | grind (ematch := 40) (gen := 40) (liaSteps := 300000) | lia) (by first | with_reducible assumption | grind | grind (ematch := 40) (gen := 40) (liaSteps := 300000) | lia) (by first | with_reducible assumption | grind | grind (ematch := 40) (gen := 40) (liaSteps := 300000) | lia) (by first | with_reducible assumption | first | exact q_J_eq J (by grind) (by grind) (by grind) (by grind) (by grind) (by grind) (by grind) (by grind) (by grind) | exact q_J_eq (gr2_1 (by grind)) (by grind) (by grind) (by grind) (by grind) (by grind) (by grind) (by grind) (by grind) (by grind) | grind) (by first | with_reducible assumption | grind | grind (ematch := 40) (gen := 40) (liaSteps := 300000) | lia) (by first | with_reducible assumption | grind | grind (ematch := 40) (gen := 40) (liaSteps := 300000) | lia) (by first | with_reducible assumption | grind | grind (ematch := 40) (gen := 40) (liaSteps := 300000) | lia) (by first | with_reducible assumption | grind | grind (ematch := 40) (gen := 40) (liaSteps := 300000) | lia)) ?_
        rintro ⟨y, hz⟩ ⟨Tz, g0, g1, g2, g3, g4, g5, g6, g7⟩
        try dsimp only at *
        exact ⟨Tz, (by first | with_reducible assumption | grind | grind (ematch := 40) (gen := 40) (liaSteps := 300000) | lia), (by first | with_reducible assumption | (intro yy; first | (exact absurd yy (by grind)) | exact q_J_eq J (by grind) (by grind) (by grind) (by grind) (by grind) (by grind) (by grind) (by grind) (by grind) | exact q_J_eq (gr2_1 (by grind)) (by grind) (by grind) (by grind) (by grind) (by grind) (by grind) (by grind) (by grind) (by grind)) | grind), (by first | with_reducible assumption | grind | grind (ematch := 40) (gen := 40) (liaSteps := 300000) | lia), (by first | with_reducible assumption | grind | grind (ematch := 40) (gen := 40) (liaSteps := 300000) | lia), (by first | with_reducible assumption | grind | grind (ematch := 40) (gen := 40) (liaSteps := 300000) | lia), (by first | with_reducible assumption | grind | grind (ematch := 40) (gen := 40) (liaSteps := 300000) | lia), (by first | with_reducible assumption | grind | grind (ematch := 40) (gen := 40) (liaSteps := 300000) | lia), (by first | with_reducible assumption | grind | grind (ematch := 40) (gen := 40) (liaSteps := 300000) | lia)⟩
      · skip
        refine r_Pr_0 Th6 kv0 pcu ?_
        refine r_Cur_1 Th6 kcu ?_
        intro x3i3 ex3i3 lx3i3 ux3i3
        subst ex3i3
        refine w_Cur_1 Th6 kcu (by first | with_reducible assumption | grind | grind (ematch := 40) (gen := 40) (liaSteps := 300000) | lia) (q_inc01 (Th6.2.2.2.1 _ 1) (q_CCur Th6 kcu)) (by first | exact q_inc1 (by first | with_reducible assumption | grind -lia | grind) (q_inc00 (Th6.2.2.2.1 _ 1) (q_CCur Th6 kcu)) | exact q_inc1b (by first | with_reducible assumption | grind -lia | grind) (q_inc00 (Th6.2.2.2.1 _ 1) (q_CCur Th6 kcu))) ?_
        intro h4i3 Th4i3 ih4i3 ah4i3
        unfold f_Pr_readSet_58
        refine qk_mono (p_Pr_readSet_62 (v0 := v0) (v1 := 1) (v2 := 0) (v3 := 0) (cu := cu) (it := it) (pt := pt) (tx := tx) Th4i3 kv0 kcu pcu kit pit kpt ppt ktx ptx (by first | with_reducible assumption | grind | grind (ematch := 40) (gen := 40) (liaSteps := 300000) | lia) (by first | with_reducible assumption | grind | grind (ematch := 40) (gen := 40) (liaSteps := 300000) | lia) (by first | with_reducible assumption | grind | grind (ematch := 40) (gen := 40) (liaSteps := 300000) | lia) (by first | with_reducible assumption | grind | grind (ematch := 40) (gen := 40) (liaSteps := 300000) | lia) (by first | with_reducible assumption | grind | grind (ematch := 40) (gen := 40) (liaSteps := 300000) | lia) (by first | with_reducible assumption | grind | grind (ematch := 40) (gen := 40) (liaSteps := 300000) | lia) (by first | with_reducible assumption | grind | grind (ematch := 40) (gen := 40) (liaSteps := 300000) | lia) (by first | with_reducible assumption | grind | grind (ematch := 40) (gen := 40) (liaSteps := 300000) | lia) (by first | with_reducible assumption | grind | grind (ematch := 40) (gen := 40) (liaSteps := 300000) | lia) (by first | with_reducible assumption | first | exact q_J_eq J (by grind) (by grind) (by grind) (by grind) (by grind) (by grind) (by grind) (by grind) (by grind) | exact q_J_eq (gr2_1 (by grind)) (by grind) (by grind) (by grind) (by grind) (by grind) (by grind) (by grind) (by grind) (by grind) | grind) (by first | with_reducible assumption | grind | grind (ematch := 40) (gen := 40) (liaSteps := 300000) | lia) (by first | with_reducible assumption | grind | grind (ematch := 40) (gen := 40) (liaSteps := 300000) | lia) (by first | with_reducible assumption | grind | grind (ematch := 40) (gen := 40) (liaSteps := 300000) | lia) (by first | with_reducible assumption | grind | grind (ematch := 40) (gen := 40) (liaSteps := 300000) | lia)) ?_
        rintro ⟨y, hz⟩ ⟨Tz, g0, g1, g2, g3, g4, g5, g6, g7⟩
        try dsimp only at *
        exact ⟨Tz, (by first | with_reducible assumption | grind | grind (ematch := 40) (gen := 40) (liaSteps := 300000) | lia), (by first | with_reducible assumption | (intro yy; first | (exact absurd yy (by grind)) | exact q_J_eq J (by grind) (by grind) (by grind) (by grind) (by grind) (by grind) (by grind) (by grind) (by grind) | exact q_J_eq (gr2_1 (by grind)) (by grind) (by grind) (by grind) (by grind) (by grind) (by grind) (by grind) (by grind) (by grind)) | grind), (by first | with_reducible assumption | grind | grind (ematch := 40) (gen := 40) (liaSteps := 300000) | lia), (by first | with_reducible assumption | grind | grind (ematch := 40) (gen := 40) (liaSteps := 300000) | lia), (by first | with_reducible assumption | grind | grind (ematch := 40) (gen := 40) (liaSteps := 300000) | lia), (by first | with_reducible assumption | grind | grind (ematch := 40) (gen := 40) (liaSteps := 300000) | lia), (by first | with_reducible assumption | grind | grind (ematch := 40) (gen := 40) (liaSteps := 300000) | lia), (by first | with_reducible assumption | grind | grind (ematch := 40) (gen := 40) (liaSteps := 300000) | lia)⟩
    · skip
      unfold f_Pr_readSet_40
      refine qk_if (fun cc10 => ?_) (fun cc10 => ?_)
      · skip
        unfold f_Pr_readSet_58
        refine qk_mono (p_Pr_readSet_62 (v0 := v0) (v1 := 0) (v2 := 0) (v3 := 0) (cu := cu) (it := it) (pt := pt) (tx := tx) Th6 kv0 kcu pcu kit pit kpt ppt ktx ptx (by first | with_reducible assumption | grind | grind (ematch := 40) (gen := 40) (liaSteps := 300000) | lia) (by first | with_reducible assumption | grind | grind (ematch := 40) (gen := 40) (liaSteps := 300000) | lia) (by first | with_reducible assumption | grind | grind (ematch := 40) (gen := 40) (liaSteps := 300000) | lia) (by first | with_reducible assumption | grind | grind (ematch := 40) (gen := 40) (liaSteps := 300000) | lia) (by first | with_reducible assumption | grind | grind (ematch := 40) (gen := 40) (liaSteps := 300000) | lia) (by first | with_reducible assumption | grind | grind (ematch := 40) (gen := 40) (liaSteps := 300000) | lia) (by first | with_reducible assumption | grind | grind (ematch := 40) (gen := 40) (liaSteps := 300000) | lia) (by first | with_reducible assumption | grind | grind (ematch := 40) (gen := 40) (liaSteps := 300000) | lia) (by first | with_reducible assumption | grind | grind (ematch := 40) (gen := 40) (liaSteps := 300000) | lia) (by first | with_reducible assumption | first | exact q_J_eq J (by grind) (by grind) (by grind) (by grind) (by grind) (by grind) (by grind) (by grind) (by grind) | exact q_J_eq (gr2_1 (by grind)) (by grind) (by grind) (by grind) (by grind) (by grind) (by grind) (by grind) (by grind) (by grind) | grind) (by first | with_reducible assumption | grind | grind (ematch := 40) (gen := 40) (liaSteps := 300000) | lia) (by first | with_reducible assumption | grind | grind (ematch := 40) (gen := 40) (liaSteps := 300000) | lia) (by first | with_reducible assumption | grind | grind (ematch := 40) (gen := 40) (liaSteps := 300000) | lia) (by first | with_reducible assumption | grind | grind (ematch := 40) (gen := 40) (liaSteps := 300000) | lia)) ?_
        rintro ⟨y, hz⟩ ⟨Tz, g0, g1, g2, g3, g4, g5, g6, g7⟩
        try dsimp only at *
        exact ⟨Tz, (by first | with_reducible assumption | grind | grind (ematch := 40) (gen := 40) (liaSteps := 300000) | lia), (by first | with_reducible assumption | (intro yy; first | (exact absurd yy (by grind)) | exact q_J_eq J (by grind) (by grind) (by grind) (by grind) (by grind) (by grind) (by grind) (by grind) (by grind) | exact q_J_eq (gr2_1 (by grind)) (by grind) (by grind) (by grind) (by grind) (by grind) (by grind) (by grind) (by grind) (by grind)) | grind), (by first | with_reducible assumption | grind | grind (ematch := 40) (gen := 40) (liaSteps := 300000) | lia), (by first | with_reducible assumption | grind | grind (ematch := 40) (gen := 40) (liaSteps := 300000) | lia), (by first | with_reducible assumption | grind | grind (ematch := 40) (gen := 40) (liaSteps := 300000) | lia), (by first | with_reducible assumption | grind | grind (ematch := 40) (gen := 40) (liaSteps := 300000) | lia), (by first | with_reducible assumption | grind | grind (ematch := 40) (gen := 40) (liaSteps := 300000) | lia), (by first | with_reducible assumption | grind | grind (ematch := 40) (gen := 40) (liaSteps := 300000) | lia)⟩
      · skip
        refine r_Pr_0 Th6 kv0 pcu ?_
        refine r_Cur_1 Th6 kcu ?_
        intro x3i9 ex3i9 lx3i9 ux3i9
        subst ex3i9
        refine w_Cur_1 Th6 kcu (by first | with_reducible assumption | grind | grind (ematch := 40) (gen := 40) (liaSteps := 300000) | lia) (q_inc01 (Th6.2.2.2.1 _ 1) (q_CCur Th6 kcu)) (by first | exact q_inc1 (by first | with_reducible assumption | grind -lia | grind) (q_inc00 (Th6.2.2.2.1 _ 1) (q_CCur Th6 kcu)) | exact q_inc1b (by first | with_reducible assumption | grind -lia | grind) (q_inc00 (Th6.2.2.2.1 _ 1) (q_CCur Th6 kcu))) ?_
        intro h4i9 Th4i9 ih4i9 ah4i9
        unfold f_Pr_readSet_58
        refine qk_mono (p_Pr_readSet_62 (v0 := v0) (v1 := 0) (v2 := 0) (v3 := 0) (cu := cu) (it := it) (pt := pt) (tx := tx) Th4i9 kv0 kcu pcu kit pit kpt ppt ktx ptx (by first | with_reducible assumption | grind | grind (ematch := 40) (gen := 40) (liaSteps := 300000) | lia) (by first | with_reducible assumption | grind | grind (ematch := 40) (gen := 40) (liaSteps := 300000) | lia) (by first | with_reducible assumption | grind | grind (ematch := 40) (gen := 40) (liaSteps := 300000) | lia) (by first | with_reducible assumption | grind | grind (ematch := 40) (gen := 40) (liaSteps := 300000) | lia) (by first | with_reducible assumption | grind | grind (ematch := 40) (gen := 40) (liaSteps := 300000) | lia) (by first | with_reducible assumption | grind | grind (ematch := 40) (gen := 40) (liaSteps := 300000) | lia) (by first | with_reducible assumption | grind | grind (ematch := 40) (gen := 40) (liaSteps := 300000) | lia) (by first | with_reducible assumption | grind | grind (ematch := 40) (gen := 40) (liaSteps := 300000) | lia) (by first | with_reducible assumption | grind | grind (ematch := 40) (gen := 40) (liaSteps := 300000) | lia) (by first | with_reducible assumption | first | exact q_J_eq J (by grind) (by grind) (by grind) (by grind) (by grind) (by grind) (by grind) (by grind) (by grind) | exact q_J_eq (gr2_1 (by grind)) (by grind) (by grind) (by grind) (by grind) (by grind) (by grind) (by grind) (by grind) (by grind) | grind) (by first | with_reducible assumption | grind | grind (ematch := 40) (gen := 40) (liaSteps := 300000) | lia) (by first | with_reducible assumption | grind | grind (ematch := 40) (gen := 40) (liaSteps := 300000) | lia) (by first | with_reducible assumption | grind | grind (ematch := 40) (gen := 40) (liaSteps := 300000) | lia) (by first | with_reducible assumption | grind | grind (ematch := 40) (gen := 40) (liaSteps := 300000) | lia)) ?_
        rintro ⟨y, hz⟩ ⟨Tz, g0, g1, g2, g3, g4, g5, g6, g7⟩
        try dsimp only at *
        exact ⟨Tz, (by first | with_reducible assumption | grind | grind (ematch := 40) (gen := 40) (liaSteps := 300000) | lia), (by first | with_reducible assumption | (intro yy; first | (exact absurd yy (by grind)) | exact q_J_eq J (by grind) (by grind) (by grind) (by grind) (by grind) (by grind) (by grind) (by grind) (by grind) | exact q_J_eq (gr2_1 (by grind)) (by grind) (by grind) (by grind) (by grind) (by grind) (by grind) (by grind) (by grind) (by grind)) | grind), (by first | with_reducible assumption | grind | grind (ematch := 40) (gen := 40) (liaSteps := 300000) | lia), (by first | with_reducible assumption | grind | grind (ematch := 40) (gen := 40) (liaSteps := 300000) | lia), (by first | with_reducible assumption | grind | grind (ematch := 40) (gen := 40) (liaSteps := 300000) | lia), (by first | with_reducible assumption | grind | grind (ematch := 40) (gen := 40) (liaSteps := 300000) | lia), (by first | with_reducible assumption | grind | grind (ematch := 40) (gen := 40) (liaSteps := 300000) | lia), (by first | with_reducible assumption | grind | grind (ematch := 40) (gen := 40) (liaSteps := 300000) | lia)⟩
theorem c_Pr_readSet {L : q_L} {W : Nat → Prop} {h0 : z_H} {π : Nat → Nat → Option Nat} {N : Nat} {cu : Nat} {it : Nat} {pt : Nat} {tx : Nat} {h : z_H} {v0 : Nat} {β : Type} {f : Int32 × z_H → Option β} {Q : β → Prop} (T : q_U L W h0 π h) (kv0 : qκ L v0 = 9) (kcu : qκ L cu = 3) (pcu : π v0 0 = some cu) (kit : qκ L it = 5) (pit : π v0 1 = some it) (kpt : qκ L pt = 8) (ppt : π v0 2 = some pt) (ktx : qκ L tx = 11) (ptx : π cu 0 = some tx) (ctx : qhi L tx 1 = 240) (w0 : W v0) (wc : W cu) (wi : W it) (wi1 : W (it + 1)) (wi2 : W (it + 2)) (wi3 : W (it + 3)) (wi4 : W (it + 4)) (wp : W pt) (J : q_J (vA h (it + 1)) (vA h (it + 2)) (vI h pt 2) (vI h it 4) (vI h pt 6) (vI h v0 5) (vI h v0 4) (vI h pt 4) (vI h pt 5) (vI h v0 6)) (z : vI h it 4 ≤ vI h cu 1) (hat : vI h cu 1 < 240) (hN : 100000 ≤ N) (H : ∀ y h', q_U L W h0 π h' → (y = 0 ∨ y = 1) → (y = 1 → q_J (vA h' (it + 1)) (vA h' (it + 2)) (vI h' pt 2) (vI h' it 4) (vI h' pt 6) (vI h' v0 5) (vI h' v0 4) (vI h' pt 4) (vI h' pt 5) (vI h' v0 6)) → (y = 1 → vI h' it 4 ≤ vI h' cu 1) → (∀ a k, ¬ (a = cu ∨ a = it ∨ a = pt ∨ a = v0) → vI h' a k = vI h a k) → (∀ a j, 0 ≤ j → ¬ (a = it + 1 ∨ a = it + 2) → vA h' a j = vA h a j) → (∀ j, 0 ≤ j → j < vI h it 4 → vA h' (it + 1) j = vA h (it + 1) j ∧ vA h' (it + 2) j = vA h (it + 2) j) → (vI h it 4 ≤ vI h' it 4) → (vI h' pt 2 = vI h pt 2) → qk (f (y, h')) Q) : qk (z_b (f_Pr_readSet N v0 h) f) Q := by
  refine qk_b (p_Pr_readSet T kv0 kcu pcu kit pit kpt ppt ktx ptx ctx w0 wc wi wi1 wi2 wi3 wi4 wp J z hat hN) ?_
  rintro ⟨y, hz⟩ ⟨Tz, g0, g1, g2, g3, g4, g5, g6, g7⟩
  exact H y hz Tz g0 g1 g2 g3 g4 g5 g6 g7

set_option maxHeartbeats 1000000 in
theorem p_Pr_mayEnd {L : q_L} {W : Nat → Prop} {h0 : z_H} {π : Nat → Nat → Option Nat} {N : Nat} {cu : Nat} {tx : Nat} {h : z_H} {v0 : Nat} (T : q_U L W h0 π h) (kv0 : qκ L v0 = 9) (kcu : qκ L cu = 3) (pcu : π v0 0 = some cu) (ktx : qκ L tx = 11) (ptx : π cu 0 = some tx) (ctx : qhi L tx 1 = 240) : qk (f_Pr_mayEnd N v0 h) (fun r => r.2 = h ∧ (r.1 = 0 ∨ r.1 = 1)) := by
  have hr_tx := q_rowhi T ktx
  unfold f_Pr_mayEnd
  refine r_Pr_0 T kv0 pcu ?_
  refine r_Cur_o T kcu ?_
  refine c_Cur_look (v0 := cu) (v1 := 1) (tx := tx) T kcu ktx ptx (by first | with_reducible assumption | grind | grind (ematch := 40) (gen := 40) (liaSteps := 300000) | lia) (by first | with_reducible assumption | grind | grind (ematch := 40) (gen := 40) (liaSteps := 300000) | lia) (by first | with_reducible assumption | grind | grind (ematch := 40) (gen := 40) (liaSteps := 300000) | lia) ?_
  intro yr3 gr3_0 gr3_1 gr3_2 gr3_3 gr3_4
  dsimp only
  refine qk_bs ?_
  refine r_Pr_5 T kv0 ?_
  intro x5 ex5
  subst ex5
  refine qk_if (fun cc1 => ?_) (fun cc1 => ?_)
  · skip
    refine qk_if (fun cc2 => ?_) (fun cc2 => ?_)
    · skip
      refine qk_some ?_
      exact ⟨rfl, (by first | with_reducible assumption | grind | grind (ematch := 40) (gen := 40) (liaSteps := 300000) | lia)⟩
    · skip
      refine qk_if (fun cc3 => ?_) (fun cc3 => ?_)
      · skip
        refine qk_some ?_
        exact ⟨rfl, (by first | with_reducible assumption | grind | grind (ematch := 40) (gen := 40) (liaSteps := 300000) | lia)⟩
      · skip
        refine qk_some ?_
        exact ⟨rfl, (by first | with_reducible assumption | grind | grind (ematch := 40) (gen := 40) (liaSteps := 300000) | lia)⟩
  · skip
    refine qk_some ?_
    exact ⟨rfl, (by first | with_reducible assumption | grind | grind (ematch := 40) (gen := 40) (liaSteps := 300000) | lia)⟩
theorem c_Pr_mayEnd {L : q_L} {W : Nat → Prop} {h0 : z_H} {π : Nat → Nat → Option Nat} {N : Nat} {cu : Nat} {tx : Nat} {h : z_H} {v0 : Nat} {β : Type} {f : Int32 × z_H → Option β} {Q : β → Prop} (T : q_U L W h0 π h) (kv0 : qκ L v0 = 9) (kcu : qκ L cu = 3) (pcu : π v0 0 = some cu) (ktx : qκ L tx = 11) (ptx : π cu 0 = some tx) (ctx : qhi L tx 1 = 240) (H : ∀ y, (y = 0 ∨ y = 1) → qk (f (y, h)) Q) : qk (z_b (f_Pr_mayEnd N v0 h) f) Q := by
  refine qk_b (p_Pr_mayEnd T kv0 kcu pcu ktx ptx ctx) ?_
  rintro ⟨y, hz⟩ ⟨hy, g0⟩
  try dsimp only at *
  subst hy
  exact H y g0

set_option maxHeartbeats 2000000 in
theorem p_Pr_readEnd {L : q_L} {W : Nat → Prop} {h0 : z_H} {π : Nat → Nat → Option Nat} {N : Nat} {cu : Nat} {it : Nat} {pt : Nat} {tx : Nat} {h : z_H} {v0 : Nat} (T : q_U L W h0 π h) (kv0 : qκ L v0 = 9) (kcu : qκ L cu = 3) (pcu : π v0 0 = some cu) (kit : qκ L it = 5) (pit : π v0 1 = some it) (kpt : qκ L pt = 8) (ppt : π v0 2 = some pt) (ktx : qκ L tx = 11) (ptx : π cu 0 = some tx) (ctx : qhi L tx 1 = 240) (w0 : W v0) (wc : W cu) (wi : W it) (wi1 : W (it + 1)) (wi2 : W (it + 2)) (wi3 : W (it + 3)) (wi4 : W (it + 4)) (wp : W pt) (J : q_J (vA h (it + 1)) (vA h (it + 2)) (vI h pt 2) (vI h it 4) (vI h pt 6) (vI h v0 5) (vI h v0 4) (vI h pt 4) (vI h pt 5) (vI h v0 6)) (z : vI h it 4 ≤ vI h cu 1) (hat : vI h cu 1 < 240) : qk (f_Pr_readEnd N v0 h) (fun r => q_U L W h0 π r.2 ∧ (r.1 = 0 ∨ r.1 = 1) ∧ (r.1 = 1 → q_J (vA r.2 (it + 1)) (vA r.2 (it + 2)) (vI r.2 pt 2) (vI r.2 it 4) (vI r.2 pt 6) (vI r.2 v0 5) (vI r.2 v0 4) (vI r.2 pt 4) (vI r.2 pt 5) (vI r.2 v0 6)) ∧ (r.1 = 1 → vI r.2 it 4 ≤ vI r.2 cu 1) ∧ (∀ a k, ¬ (a = cu ∨ a = it ∨ a = pt ∨ a = v0) → vI r.2 a k = vI h a k) ∧ (∀ a j, 0 ≤ j → ¬ (a = it + 1 ∨ a = it + 2) → vA r.2 a j = vA h a j) ∧ (∀ j, 0 ≤ j → j < vI h it 4 → vA r.2 (it + 1) j = vA h (it + 1) j ∧ vA r.2 (it + 2) j = vA h (it + 2) j) ∧ (vI h it 4 ≤ vI r.2 it 4) ∧ (vI r.2 pt 2 = vI h pt 2)) := by
  have hr_tx := q_rowhi T ktx
  have cit := q_CIt T kit
  have ccu := q_CCur T kcu
  unfold q_C_It at cit
  have tit := T.2.2.2.1 it 4
  have tpt := T.2.2.2.1 pt 6
  have tcu := T.2.2.2.1 cu 1
  rw [ccu.1.1, ccu.1.2] at tcu
  rw [cit.1.1, cit.1.2] at tit
  unfold f_Pr_readEnd
  refine r_Pr_2 T kv0 ppt ?_
  refine w_Pt_1 T kpt (by first | with_reducible assumption | grind | grind (ematch := 40) (gen := 40) (liaSteps := 300000) | lia) ?_
  intro h2 Th2 ih2 ah2
  refine r_Pr_0 Th2 kv0 pcu ?_
  refine r_Cur_1 Th2 kcu ?_
  intro x4 ex4 lx4 ux4
  subst ex4
  refine w_Cur_1 Th2 kcu (by first | with_reducible assumption | grind | grind (ematch := 40) (gen := 40) (liaSteps := 300000) | lia) (q_inc01 (Th2.2.2.2.1 _ 1) (q_CCur Th2 kcu)) (by first | exact q_inc1 (by first | with_reducible assumption | grind -lia | grind) (q_inc00 (Th2.2.2.2.1 _ 1) (q_CCur Th2 kcu)) | exact q_inc1b (by first | with_reducible assumption | grind -lia | grind) (q_inc00 (Th2.2.2.2.1 _ 1) (q_CCur Th2 kcu))) ?_
  intro h5 Th5 ih5 ah5
  refine qk_some ?_
  exact ⟨Th5, (by first | with_reducible assumption | grind | grind (ematch := 40) (gen := 40) (liaSteps := 300000) | lia), (by first | with_reducible assumption | (intro yy; first | (exact absurd yy (by grind)) | exact q_J_eq J (by grind) (by grind) (by grind) (by grind) (by grind) (by grind) (by grind) (by grind) (by grind)) | grind), (by intro yy; exact q_zz (by grind -lia) (by first | grind -lia | grind) z (by first | with_reducible assumption | exact q_lt1 hat (by grind -lia) (by grind -lia) | grind -lia | grind) (by first | grind -lia | grind)), (by first | with_reducible assumption | grind | grind (ematch := 40) (gen := 40) (liaSteps := 300000) | lia), (by first | with_reducible assumption | grind | grind (ematch := 40) (gen := 40) (liaSteps := 300000) | lia), (by first | with_reducible assumption | grind | grind (ematch := 40) (gen := 40) (liaSteps := 300000) | lia), (by first | with_reducible assumption | grind | grind (ematch := 40) (gen := 40) (liaSteps := 300000) | lia), (by first | with_reducible assumption | grind | grind (ematch := 40) (gen := 40) (liaSteps := 300000) | lia)⟩
theorem c_Pr_readEnd {L : q_L} {W : Nat → Prop} {h0 : z_H} {π : Nat → Nat → Option Nat} {N : Nat} {cu : Nat} {it : Nat} {pt : Nat} {tx : Nat} {h : z_H} {v0 : Nat} {β : Type} {f : Int32 × z_H → Option β} {Q : β → Prop} (T : q_U L W h0 π h) (kv0 : qκ L v0 = 9) (kcu : qκ L cu = 3) (pcu : π v0 0 = some cu) (kit : qκ L it = 5) (pit : π v0 1 = some it) (kpt : qκ L pt = 8) (ppt : π v0 2 = some pt) (ktx : qκ L tx = 11) (ptx : π cu 0 = some tx) (ctx : qhi L tx 1 = 240) (w0 : W v0) (wc : W cu) (wi : W it) (wi1 : W (it + 1)) (wi2 : W (it + 2)) (wi3 : W (it + 3)) (wi4 : W (it + 4)) (wp : W pt) (J : q_J (vA h (it + 1)) (vA h (it + 2)) (vI h pt 2) (vI h it 4) (vI h pt 6) (vI h v0 5) (vI h v0 4) (vI h pt 4) (vI h pt 5) (vI h v0 6)) (z : vI h it 4 ≤ vI h cu 1) (hat : vI h cu 1 < 240) (H : ∀ y h', q_U L W h0 π h' → (y = 0 ∨ y = 1) → (y = 1 → q_J (vA h' (it + 1)) (vA h' (it + 2)) (vI h' pt 2) (vI h' it 4) (vI h' pt 6) (vI h' v0 5) (vI h' v0 4) (vI h' pt 4) (vI h' pt 5) (vI h' v0 6)) → (y = 1 → vI h' it 4 ≤ vI h' cu 1) → (∀ a k, ¬ (a = cu ∨ a = it ∨ a = pt ∨ a = v0) → vI h' a k = vI h a k) → (∀ a j, 0 ≤ j → ¬ (a = it + 1 ∨ a = it + 2) → vA h' a j = vA h a j) → (∀ j, 0 ≤ j → j < vI h it 4 → vA h' (it + 1) j = vA h (it + 1) j ∧ vA h' (it + 2) j = vA h (it + 2) j) → (vI h it 4 ≤ vI h' it 4) → (vI h' pt 2 = vI h pt 2) → qk (f (y, h')) Q) : qk (z_b (f_Pr_readEnd N v0 h) f) Q := by
  refine qk_b (p_Pr_readEnd T kv0 kcu pcu kit pit kpt ppt ktx ptx ctx w0 wc wi wi1 wi2 wi3 wi4 wp J z hat) ?_
  rintro ⟨y, hz⟩ ⟨Tz, g0, g1, g2, g3, g4, g5, g6, g7⟩
  exact H y hz Tz g0 g1 g2 g3 g4 g5 g6 g7

set_option maxHeartbeats 2000000 in
theorem p_Pr_readPlain {L : q_L} {W : Nat → Prop} {h0 : z_H} {π : Nat → Nat → Option Nat} {N : Nat} {cu : Nat} {it : Nat} {pt : Nat} {tx : Nat} {h : z_H} {v0 : Nat} (T : q_U L W h0 π h) (kv0 : qκ L v0 = 9) (kcu : qκ L cu = 3) (pcu : π v0 0 = some cu) (kit : qκ L it = 5) (pit : π v0 1 = some it) (kpt : qκ L pt = 8) (ppt : π v0 2 = some pt) (ktx : qκ L tx = 11) (ptx : π cu 0 = some tx) (ctx : qhi L tx 1 = 240) (w0 : W v0) (wc : W cu) (wi : W it) (wi1 : W (it + 1)) (wi2 : W (it + 2)) (wi3 : W (it + 3)) (wi4 : W (it + 4)) (wp : W pt) (J : q_J (vA h (it + 1)) (vA h (it + 2)) (vI h pt 2) (vI h it 4) (vI h pt 6) (vI h v0 5) (vI h v0 4) (vI h pt 4) (vI h pt 5) (vI h v0 6)) (z : vI h it 4 ≤ vI h cu 1) (hN : 100000 ≤ N) : qk (f_Pr_readPlain N v0 h) (fun r => q_U L W h0 π r.2 ∧ (r.1 = 0 ∨ r.1 = 1) ∧ (r.1 = 1 → q_J (vA r.2 (it + 1)) (vA r.2 (it + 2)) (vI r.2 pt 2) (vI r.2 it 4) (vI r.2 pt 6) (vI r.2 v0 5) (vI r.2 v0 4) (vI r.2 pt 4) (vI r.2 pt 5) (vI r.2 v0 6)) ∧ (r.1 = 1 → vI r.2 it 4 ≤ vI r.2 cu 1) ∧ (∀ a k, ¬ (a = cu ∨ a = it ∨ a = pt ∨ a = v0) → vI r.2 a k = vI h a k) ∧ (∀ a j, 0 ≤ j → ¬ (a = it + 1 ∨ a = it + 2) → vA r.2 a j = vA h a j) ∧ (∀ j, 0 ≤ j → j < vI h it 4 → vA r.2 (it + 1) j = vA h (it + 1) j ∧ vA r.2 (it + 2) j = vA h (it + 2) j) ∧ (vI h it 4 ≤ vI r.2 it 4) ∧ (vI r.2 pt 2 = vI h pt 2)) := by
  have hr_tx := q_rowhi T ktx
  have cit := q_CIt T kit
  have ccu := q_CCur T kcu
  unfold q_C_It at cit
  have tit := T.2.2.2.1 it 4
  have tpt := T.2.2.2.1 pt 6
  have tcu := T.2.2.2.1 cu 1
  rw [ccu.1.1, ccu.1.2] at tcu
  rw [cit.1.1, cit.1.2] at tit
  unfold f_Pr_readPlain
  refine r_Pr_0 T kv0 pcu ?_
  refine r_Cur_o T kcu ?_
  refine c_Cur_look (v0 := cu) (v1 := 0) (tx := tx) T kcu ktx ptx (by first | with_reducible assumption | grind | grind (ematch := 40) (gen := 40) (liaSteps := 300000) | lia) (by first | with_reducible assumption | grind | grind (ematch := 40) (gen := 40) (liaSteps := 300000) | lia) (by first | with_reducible assumption | grind | grind (ematch := 40) (gen := 40) (liaSteps := 300000) | lia) ?_
  intro yr3 gr3_0 gr3_1 gr3_2 gr3_3 gr3_4
  simp only [Int32.add_zero] at gr3_2 gr3_3 gr3_4
  dsimp only
  refine qk_bs ?_
  refine qk_if (fun cc1 => ?_) (fun cc1 => ?_)
  · skip
    unfold f_Pr_readPlain_20
    refine r_Pr_0 T kv0 pcu ?_
    refine r_Cur_o T kcu ?_
    refine c_Cur_refuse (v0 := cu) (v1 := 0) T kcu (by first | with_reducible assumption | grind | grind (ematch := 40) (gen := 40) (liaSteps := 300000) | lia) ?_
    intro yr3i2 hr3i2 Tr3i2 gr3i2_0 gr3i2_1 gr3i2_2
    dsimp only
    refine qk_zB (by first | with_reducible assumption | grind | grind (ematch := 40) (gen := 40) (liaSteps := 300000) | lia) ?_
    refine qk_some ?_
    exact ⟨Tr3i2, (by first | with_reducible assumption | grind | grind (ematch := 40) (gen := 40) (liaSteps := 300000) | lia), (by first | with_reducible assumption | (intro yy; first | (exact absurd yy (by grind)) | exact q_J_eq J (by grind) (by grind) (by grind) (by grind) (by grind) (by grind) (by grind) (by grind) (by grind)) | grind), (by first | with_reducible assumption | grind | grind (ematch := 40) (gen := 40) (liaSteps := 300000) | lia), (by first | with_reducible assumption | grind | grind (ematch := 40) (gen := 40) (liaSteps := 300000) | lia), (by first | with_reducible assumption | grind | grind (ematch := 40) (gen := 40) (liaSteps := 300000) | lia), (by first | with_reducible assumption | grind | grind (ematch := 40) (gen := 40) (liaSteps := 300000) | lia), (by first | with_reducible assumption | grind | grind (ematch := 40) (gen := 40) (liaSteps := 300000) | lia), (by first | with_reducible assumption | grind | grind (ematch := 40) (gen := 40) (liaSteps := 300000) | lia)⟩
  · skip
    refine qk_if (fun cc3 => ?_) (fun cc3 => ?_)
    · skip
      unfold f_Pr_readPlain_20
      refine r_Pr_0 T kv0 pcu ?_
      refine r_Cur_o T kcu ?_
      refine c_Cur_refuse (v0 := cu) (v1 := 0) T kcu (by first | with_reducible assumption | grind | grind (ematch := 40) (gen := 40) (liaSteps := 300000) | lia) ?_
      intro yr3i4 hr3i4 Tr3i4 gr3i4_0 gr3i4_1 gr3i4_2
      dsimp only
      refine qk_zB (by first | with_reducible assumption | grind | grind (ematch := 40) (gen := 40) (liaSteps := 300000) | lia) ?_
      refine qk_some ?_
      exact ⟨Tr3i4, (by first | with_reducible assumption | grind | grind (ematch := 40) (gen := 40) (liaSteps := 300000) | lia), (by first | with_reducible assumption | (intro yy; first | (exact absurd yy (by grind)) | exact q_J_eq J (by grind) (by grind) (by grind) (by grind) (by grind) (by grind) (by grind) (by grind) (by grind)) | grind), (by first | with_reducible assumption | grind | grind (ematch := 40) (gen := 40) (liaSteps := 300000) | lia), (by first | with_reducible assumption | grind | grind (ematch := 40) (gen := 40) (liaSteps := 300000) | lia), (by first | with_reducible assumption | grind | grind (ematch := 40) (gen := 40) (liaSteps := 300000) | lia), (by first | with_reducible assumption | grind | grind (ematch := 40) (gen := 40) (liaSteps := 300000) | lia), (by first | with_reducible assumption | grind | grind (ematch := 40) (gen := 40) (liaSteps := 300000) | lia), (by first | with_reducible assumption | grind | grind (ematch := 40) (gen := 40) (liaSteps := 300000) | lia)⟩
    · skip
      refine r_Pr_o T kv0 ?_
      refine c_Pr_addOne (v0 := v0) (cu := cu) (it := it) (pt := pt) (tx := tx) T kv0 kcu pcu kit pit kpt ppt ktx ptx (by first | with_reducible assumption | grind | grind (ematch := 40) (gen := 40) (liaSteps := 300000) | lia) (by first | with_reducible assumption | grind | grind (ematch := 40) (gen := 40) (liaSteps := 300000) | lia) (by first | with_reducible assumption | grind | grind (ematch := 40) (gen := 40) (liaSteps := 300000) | lia) (by first | with_reducible assumption | grind | grind (ematch := 40) (gen := 40) (liaSteps := 300000) | lia) (by first | with_reducible assumption | grind | grind (ematch := 40) (gen := 40) (liaSteps := 300000) | lia) (by first | with_reducible assumption | grind | grind (ematch := 40) (gen := 40) (liaSteps := 300000) | lia) (by first | with_reducible assumption | grind | grind (ematch := 40) (gen := 40) (liaSteps := 300000) | lia) (by first | with_reducible assumption | grind | grind (ematch := 40) (gen := 40) (liaSteps := 300000) | lia) (by first | with_reducible assumption | grind | grind (ematch := 40) (gen := 40) (liaSteps := 300000) | lia) (by first | with_reducible assumption | grind | grind (ematch := 40) (gen := 40) (liaSteps := 300000) | lia) (by first | with_reducible assumption | grind | grind (ematch := 40) (gen := 40) (liaSteps := 300000) | lia) (by first | with_reducible assumption | grind | grind (ematch := 40) (gen := 40) (liaSteps := 300000) | lia) ?_
      intro yr8 hr8 Tr8 gr8_0 gr8_1 gr8_2 gr8_3 gr8_4 gr8_5 gr8_6 gr8_7 gr8_8
      dsimp only
      refine qk_if (fun cc5 => ?_) (fun cc5 => ?_)
      · skip
        refine qk_some ?_
        exact ⟨Tr8, (by first | with_reducible assumption | grind | grind (ematch := 40) (gen := 40) (liaSteps := 300000) | lia), (by first | with_reducible assumption | (intro yy; first | (exact absurd yy (by grind)) | exact q_J_eq J (by grind) (by grind) (by grind) (by grind) (by grind) (by grind) (by grind) (by grind) (by grind) | exact q_J_eq (gr8_1 (by grind)) (by grind) (by grind) (by grind) (by grind) (by grind) (by grind) (by grind) (by grind) (by grind)) | grind), (by intro yy; exact absurd (show (0 : Int32) = 1 from yy) (by decide)), (by first | with_reducible assumption | grind | grind (ematch := 40) (gen := 40) (liaSteps := 300000) | lia), (by first | with_reducible assumption | grind | grind (ematch := 40) (gen := 40) (liaSteps := 300000) | lia), (by first | with_reducible assumption | grind | grind (ematch := 40) (gen := 40) (liaSteps := 300000) | lia), (by first | with_reducible assumption | grind | grind (ematch := 40) (gen := 40) (liaSteps := 300000) | lia), (by first | with_reducible assumption | grind | grind (ematch := 40) (gen := 40) (liaSteps := 300000) | lia)⟩
      · skip
        refine qk_if (fun cc6 => ?_) (fun cc6 => ?_)
        · skip
          refine r_Pr_1 Tr8 kv0 pit ?_
          refine r_It_o Tr8 kit ?_
          refine c_It_turn (v0 := it) Tr8 kit (by first | with_reducible assumption | grind | grind (ematch := 40) (gen := 40) (liaSteps := 300000) | lia) (by first | with_reducible assumption | grind | grind (ematch := 40) (gen := 40) (liaSteps := 300000) | lia) ?_
          intro r16 Tr16 gr16_0 gr16_1
          unfold f_Pr_readPlain_63
          refine r_Pr_0 Tr16 kv0 pcu ?_
          refine r_Cur_1 Tr16 kcu ?_
          intro x2i7 ex2i7 lx2i7 ux2i7
          subst ex2i7
          refine w_Cur_1 Tr16 kcu (by first | with_reducible assumption | grind | grind (ematch := 40) (gen := 40) (liaSteps := 300000) | lia) (q_inc01 (Tr16.2.2.2.1 _ 1) (q_CCur Tr16 kcu)) (by first | exact q_inc1 (by first | with_reducible assumption | grind -lia | grind) (q_inc00 (Tr16.2.2.2.1 _ 1) (q_CCur Tr16 kcu)) | exact q_inc1b (by first | with_reducible assumption | grind -lia | grind) (q_inc00 (Tr16.2.2.2.1 _ 1) (q_CCur Tr16 kcu))) ?_
          intro h3i7 Th3i7 ih3i7 ah3i7
          refine qk_some ?_
          exact ⟨Th3i7, (by first | with_reducible assumption | grind | grind (ematch := 40) (gen := 40) (liaSteps := 300000) | lia), (by first | with_reducible assumption | (intro yy; first | (exact absurd yy (by grind)) | exact q_J_eq J (by grind) (by grind) (by grind) (by grind) (by grind) (by grind) (by grind) (by grind) (by grind) | exact q_J_eq (gr8_1 (by grind)) (by grind) (by grind) (by grind) (by grind) (by grind) (by grind) (by grind) (by grind) (by grind)) | grind), (by intro yy; exact q_zz (by grind -lia) (by first | grind -lia | grind) z (by first | with_reducible assumption | exact q_lt1 hat (by grind -lia) (by grind -lia) | grind -lia | grind) (by first | grind -lia | grind)), (by first | with_reducible assumption | grind | grind (ematch := 40) (gen := 40) (liaSteps := 300000) | lia), (by first | with_reducible assumption | grind | grind (ematch := 40) (gen := 40) (liaSteps := 300000) | lia), (by first | with_reducible assumption | grind | grind (ematch := 40) (gen := 40) (liaSteps := 300000) | lia), (by first | with_reducible assumption | grind | grind (ematch := 40) (gen := 40) (liaSteps := 300000) | lia), (by first | with_reducible assumption | grind | grind (ematch := 40) (gen := 40) (liaSteps := 300000) | lia)⟩
        · skip
          refine r_Pr_1 Tr8 kv0 pit ?_
          refine r_It_o Tr8 kit ?_
          refine c_It_allow (v0 := it) (v1 := (yr3)) (v2 := (yr3)) Tr8 kit (by first | with_reducible assumption | grind | grind (ematch := 40) (gen := 40) (liaSteps := 300000) | lia) (by first | with_reducible assumption | grind | grind (ematch := 40) (gen := 40) (liaSteps := 300000) | lia) (by first | with_reducible assumption | grind | grind (ematch := 40) (gen := 40) (liaSteps := 300000) | lia) (by first | with_reducible assumption | grind | grind (ematch := 40) (gen := 40) (liaSteps := 300000) | lia) (by first | with_reducible assumption | grind | grind (ematch := 40) (gen := 40) (liaSteps := 300000) | lia) (by first | with_reducible assumption | grind | grind (ematch := 40) (gen := 40) (liaSteps := 300000) | lia) ?_
          intro r13 Tr13 gr13_0 gr13_1
          unfold f_Pr_readPlain_63
          refine r_Pr_0 Tr13 kv0 pcu ?_
          refine r_Cur_1 Tr13 kcu ?_
          intro x2i8 ex2i8 lx2i8 ux2i8
          subst ex2i8
          refine w_Cur_1 Tr13 kcu (by first | with_reducible assumption | grind | grind (ematch := 40) (gen := 40) (liaSteps := 300000) | lia) (q_inc01 (Tr13.2.2.2.1 _ 1) (q_CCur Tr13 kcu)) (by first | exact q_inc1 (by first | with_reducible assumption | grind -lia | grind) (q_inc00 (Tr13.2.2.2.1 _ 1) (q_CCur Tr13 kcu)) | exact q_inc1b (by first | with_reducible assumption | grind -lia | grind) (q_inc00 (Tr13.2.2.2.1 _ 1) (q_CCur Tr13 kcu))) ?_
          intro h3i8 Th3i8 ih3i8 ah3i8
          refine qk_some ?_
          exact ⟨Th3i8, (by first | with_reducible assumption | grind | grind (ematch := 40) (gen := 40) (liaSteps := 300000) | lia), (by first | with_reducible assumption | (intro yy; first | (exact absurd yy (by grind)) | exact q_J_eq J (by grind) (by grind) (by grind) (by grind) (by grind) (by grind) (by grind) (by grind) (by grind) | exact q_J_eq (gr8_1 (by grind)) (by grind) (by grind) (by grind) (by grind) (by grind) (by grind) (by grind) (by grind) (by grind)) | grind), (by intro yy; exact q_zz (by grind -lia) (by first | grind -lia | grind) z (by first | with_reducible assumption | exact q_lt1 hat (by grind -lia) (by grind -lia) | grind -lia | grind) (by first | grind -lia | grind)), (by first | with_reducible assumption | grind | grind (ematch := 40) (gen := 40) (liaSteps := 300000) | lia), (by first | with_reducible assumption | grind | grind (ematch := 40) (gen := 40) (liaSteps := 300000) | lia), (by first | with_reducible assumption | grind | grind (ematch := 40) (gen := 40) (liaSteps := 300000) | lia), (by first | with_reducible assumption | grind | grind (ematch := 40) (gen := 40) (liaSteps := 300000) | lia), (by first | with_reducible assumption | grind | grind (ematch := 40) (gen := 40) (liaSteps := 300000) | lia)⟩
theorem c_Pr_readPlain {L : q_L} {W : Nat → Prop} {h0 : z_H} {π : Nat → Nat → Option Nat} {N : Nat} {cu : Nat} {it : Nat} {pt : Nat} {tx : Nat} {h : z_H} {v0 : Nat} {β : Type} {f : Int32 × z_H → Option β} {Q : β → Prop} (T : q_U L W h0 π h) (kv0 : qκ L v0 = 9) (kcu : qκ L cu = 3) (pcu : π v0 0 = some cu) (kit : qκ L it = 5) (pit : π v0 1 = some it) (kpt : qκ L pt = 8) (ppt : π v0 2 = some pt) (ktx : qκ L tx = 11) (ptx : π cu 0 = some tx) (ctx : qhi L tx 1 = 240) (w0 : W v0) (wc : W cu) (wi : W it) (wi1 : W (it + 1)) (wi2 : W (it + 2)) (wi3 : W (it + 3)) (wi4 : W (it + 4)) (wp : W pt) (J : q_J (vA h (it + 1)) (vA h (it + 2)) (vI h pt 2) (vI h it 4) (vI h pt 6) (vI h v0 5) (vI h v0 4) (vI h pt 4) (vI h pt 5) (vI h v0 6)) (z : vI h it 4 ≤ vI h cu 1) (hN : 100000 ≤ N) (H : ∀ y h', q_U L W h0 π h' → (y = 0 ∨ y = 1) → (y = 1 → q_J (vA h' (it + 1)) (vA h' (it + 2)) (vI h' pt 2) (vI h' it 4) (vI h' pt 6) (vI h' v0 5) (vI h' v0 4) (vI h' pt 4) (vI h' pt 5) (vI h' v0 6)) → (y = 1 → vI h' it 4 ≤ vI h' cu 1) → (∀ a k, ¬ (a = cu ∨ a = it ∨ a = pt ∨ a = v0) → vI h' a k = vI h a k) → (∀ a j, 0 ≤ j → ¬ (a = it + 1 ∨ a = it + 2) → vA h' a j = vA h a j) → (∀ j, 0 ≤ j → j < vI h it 4 → vA h' (it + 1) j = vA h (it + 1) j ∧ vA h' (it + 2) j = vA h (it + 2) j) → (vI h it 4 ≤ vI h' it 4) → (vI h' pt 2 = vI h pt 2) → qk (f (y, h')) Q) : qk (z_b (f_Pr_readPlain N v0 h) f) Q := by
  refine qk_b (p_Pr_readPlain T kv0 kcu pcu kit pit kpt ppt ktx ptx ctx w0 wc wi wi1 wi2 wi3 wi4 wp J z hN) ?_
  rintro ⟨y, hz⟩ ⟨Tz, g0, g1, g2, g3, g4, g5, g6, g7⟩
  exact H y hz Tz g0 g1 g2 g3 g4 g5 g6 g7
