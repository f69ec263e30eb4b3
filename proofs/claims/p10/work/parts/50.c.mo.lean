theorem q_okb {x nl : Int32} (h : x = 0 ∨ (32 ≤ x ∧ x ≤ 126) ∨ (nl ≠ 0 ∧ x = 10)) (c : ¬ x = 0) : 0 ≤ x ∧ x ≤ 126 := by
  rcases h with h | h | h
  · exact absurd h c
  · exact ⟨by lia, h.2⟩
  · rw [h.2]; decide
theorem q_oks_1 {w : Int64} {nl : Int32} (h : q_okc w nl 1 = 1) : (q_by w 7 = 0 ∨ (32 ≤ q_by w 7 ∧ q_by w 7 ≤ 126) ∨ (nl ≠ 0 ∧ q_by w 7 = 10)) ∧ q_okc w nl 0 = 1 := by
  rw [q_okc_1] at h
  split at h
  · next z => exact ⟨z, h⟩
  · exact absurd h (by decide)
theorem q_oks_2 {w : Int64} {nl : Int32} (h : q_okc w nl 2 = 1) : (q_by w 6 = 0 ∨ (32 ≤ q_by w 6 ∧ q_by w 6 ≤ 126) ∨ (nl ≠ 0 ∧ q_by w 6 = 10)) ∧ q_okc w nl 1 = 1 := by
  rw [q_okc_2] at h
  split at h
  · next z => exact ⟨z, h⟩
  · exact absurd h (by decide)
theorem q_oks_3 {w : Int64} {nl : Int32} (h : q_okc w nl 3 = 1) : (q_by w 5 = 0 ∨ (32 ≤ q_by w 5 ∧ q_by w 5 ≤ 126) ∨ (nl ≠ 0 ∧ q_by w 5 = 10)) ∧ q_okc w nl 2 = 1 := by
  rw [q_okc_3] at h
  split at h
  · next z => exact ⟨z, h⟩
  · exact absurd h (by decide)
theorem q_oks_4 {w : Int64} {nl : Int32} (h : q_okc w nl 4 = 1) : (q_by w 4 = 0 ∨ (32 ≤ q_by w 4 ∧ q_by w 4 ≤ 126) ∨ (nl ≠ 0 ∧ q_by w 4 = 10)) ∧ q_okc w nl 3 = 1 := by
  rw [q_okc_4] at h
  split at h
  · next z => exact ⟨z, h⟩
  · exact absurd h (by decide)
theorem q_oks_5 {w : Int64} {nl : Int32} (h : q_okc w nl 5 = 1) : (q_by w 3 = 0 ∨ (32 ≤ q_by w 3 ∧ q_by w 3 ≤ 126) ∨ (nl ≠ 0 ∧ q_by w 3 = 10)) ∧ q_okc w nl 4 = 1 := by
  rw [q_okc_5] at h
  split at h
  · next z => exact ⟨z, h⟩
  · exact absurd h (by decide)
theorem q_oks_6 {w : Int64} {nl : Int32} (h : q_okc w nl 6 = 1) : (q_by w 2 = 0 ∨ (32 ≤ q_by w 2 ∧ q_by w 2 ≤ 126) ∨ (nl ≠ 0 ∧ q_by w 2 = 10)) ∧ q_okc w nl 5 = 1 := by
  rw [q_okc_6] at h
  split at h
  · next z => exact ⟨z, h⟩
  · exact absurd h (by decide)
theorem q_oks_7 {w : Int64} {nl : Int32} (h : q_okc w nl 7 = 1) : (q_by w 1 = 0 ∨ (32 ≤ q_by w 1 ∧ q_by w 1 ≤ 126) ∨ (nl ≠ 0 ∧ q_by w 1 = 10)) ∧ q_okc w nl 6 = 1 := by
  rw [q_okc_7] at h
  split at h
  · next z => exact ⟨z, h⟩
  · exact absurd h (by decide)
theorem q_oks_8 {w : Int64} {nl : Int32} (h : q_okc w nl 8 = 1) : (q_by w 0 = 0 ∨ (32 ≤ q_by w 0 ∧ q_by w 0 ≤ 126) ∨ (nl ≠ 0 ∧ q_by w 0 = 10)) ∧ q_okc w nl 7 = 1 := by
  rw [q_okc_8] at h
  split at h
  · next z => exact ⟨z, h⟩
  · exact absurd h (by decide)
theorem q_sc_0 {L : q_L} {W : Nat → Prop} {h0 : z_H} {π : Nat → Nat → Option Nat} {N n v0 : Nat} {w : Int64} {h : z_H} (T : q_U L W h0 π h) (kv0 : q_M L π v0) (wM : ∀ a, v0 ≤ a → a < v0 + 46 → W a) (ok : q_okc w 1 0 = 1) (rm : vI h v0 3 + q_cn w 0 ≤ 240) : qk (f_Mod_script_43 N (n + 1) v0 w (-8) h) (fun r => q_U L W h0 π r.2 ∧ r.1 = vI h v0 3 + q_cn w 0 ∧ (∀ a k, vI r.2 a k = if a = v0 ∧ k = 3 then vI h v0 3 + q_cn w 0 else vI h a k) ∧ (∀ a j, 0 ≤ j → a ≠ v0 + 1 → vA r.2 a j = vA h a j)) := by
  rw [f_Mod_script_43, if_pos (by decide)]
  refine r_Mo_3 T kv0 ?_
  intro x ex l u
  subst ex
  refine qk_some ⟨T, ?_, ?_, fun _ _ _ _ => rfl⟩
  · rw [q_cn_0, Int32.add_zero]
  · intro a k; rw [q_cn_0, Int32.add_zero]; split
    · next z => rw [z.1, z.2]
    · rfl
theorem q_sc_1 {L : q_L} {W : Nat → Prop} {h0 : z_H} {π : Nat → Nat → Option Nat} {N n v0 : Nat} {w : Int64} {h : z_H} (T : q_U L W h0 π h) (kv0 : q_M L π v0) (wM : ∀ a, v0 ≤ a → a < v0 + 46 → W a) (ok : q_okc w 1 1 = 1) (rm : vI h v0 3 + q_cn w 1 ≤ 240) : qk (f_Mod_script_43 N (n + 2) v0 w 0 h) (fun r => q_U L W h0 π r.2 ∧ r.1 = vI h v0 3 + q_cn w 1 ∧ (∀ a k, vI r.2 a k = if a = v0 ∧ k = 3 then vI h v0 3 + q_cn w 1 else vI h a k) ∧ (∀ a j, 0 ≤ j → a ≠ v0 + 1 → vA r.2 a j = vA h a j)) := by
  have eb : (Int64.toInt32 (w >>> (Int32.toInt64 0 &&& 63))) &&& 255 = q_by w 7 := rfl
  have d : (0 : Int32) + (-8) = (-8) := by decide
  obtain ⟨o1, o2⟩ := q_oks_1 ok
  have hc := q_cnr_0 w
  have hr := g_Mo_3 T kv0
  rw [q_cn_1] at rm ⊢
  rw [f_Mod_script_43, if_neg (by decide), eb]
  refine qk_bs ?_
  refine qk_if (fun c => ?_) (fun c => ?_)
  · rw [if_pos c] at rm ⊢; refine qk_bs ?_; rw [d]; exact q_sc_0 T kv0 wM o2 rm
  · rw [if_neg c] at rm ⊢
    have ob := q_okb o1 c
    generalize hy : q_cn w 0 = y at *
    refine r_Mo_0 T kv0 ?_
    refine r_Mo_3 T kv0 ?_
    intro x6 ex6 l6 u6
    subst ex6
    refine w_Mo_e1 T kv0 (wM _ (by omega) (by omega)) l6 (by lia) ob.1 ob.2 ?_
    intro h7 T7 i7 a7
    refine r_Mo_3 T7 kv0 ?_
    intro x8 ex8 l8 u8
    subst ex8
    rw [i7]
    refine w_Mo_3 T7 kv0 (wM _ (by omega) (by omega)) (by lia) (by lia) ?_
    intro h9 T9 i9 a9
    refine qk_bs ?_
    rw [d]
    have e9 : vI h9 v0 3 = vI h v0 3 + 1 := by rw [i9, if_pos ⟨rfl, rfl⟩]
    refine qk_mono (q_sc_0 T9 kv0 wM o2 (by rw [e9, hy]; lia)) ?_
    rintro ⟨z, hz⟩ ⟨g1, g2, g3, g4⟩
    dsimp only at *
    rw [e9, hy] at g2
    refine ⟨g1, by rw [g2]; grind, fun a k => ?_, fun a j j0 ja => ?_⟩
    · rw [g3, e9, hy, i9, i7]; split
      · grind
      · rfl
    · rw [g4 a j j0 ja, a9, a7 a j j0, if_neg (fun z => ja z.1)]
theorem q_sc_2 {L : q_L} {W : Nat → Prop} {h0 : z_H} {π : Nat → Nat → Option Nat} {N n v0 : Nat} {w : Int64} {h : z_H} (T : q_U L W h0 π h) (kv0 : q_M L π v0) (wM : ∀ a, v0 ≤ a → a < v0 + 46 → W a) (ok : q_okc w 1 2 = 1) (rm : vI h v0 3 + q_cn w 2 ≤ 240) : qk (f_Mod_script_43 N (n + 3) v0 w 8 h) (fun r => q_U L W h0 π r.2 ∧ r.1 = vI h v0 3 + q_cn w 2 ∧ (∀ a k, vI r.2 a k = if a = v0 ∧ k = 3 then vI h v0 3 + q_cn w 2 else vI h a k) ∧ (∀ a j, 0 ≤ j → a ≠ v0 + 1 → vA r.2 a j = vA h a j)) := by
  have eb : (Int64.toInt32 (w >>> (Int32.toInt64 8 &&& 63))) &&& 255 = q_by w 6 := rfl
  have d : (8 : Int32) + (-8) = 0 := by decide
  obtain ⟨o1, o2⟩ := q_oks_2 ok
  have hc := q_cnr_1 w
  have hr := g_Mo_3 T kv0
  rw [q_cn_2] at rm ⊢
  rw [f_Mod_script_43, if_neg (by decide), eb]
  refine qk_bs ?_
  refine qk_if (fun c => ?_) (fun c => ?_)
  · rw [if_pos c] at rm ⊢; refine qk_bs ?_; rw [d]; exact q_sc_1 T kv0 wM o2 rm
  · rw [if_neg c] at rm ⊢
    have ob := q_okb o1 c
    generalize hy : q_cn w 1 = y at *
    refine r_Mo_0 T kv0 ?_
    refine r_Mo_3 T kv0 ?_
    intro x6 ex6 l6 u6
    subst ex6
    refine w_Mo_e1 T kv0 (wM _ (by omega) (by omega)) l6 (by lia) ob.1 ob.2 ?_
    intro h7 T7 i7 a7
    refine r_Mo_3 T7 kv0 ?_
    intro x8 ex8 l8 u8
    subst ex8
    rw [i7]
    refine w_Mo_3 T7 kv0 (wM _ (by omega) (by omega)) (by lia) (by lia) ?_
    intro h9 T9 i9 a9
    refine qk_bs ?_
    rw [d]
    have e9 : vI h9 v0 3 = vI h v0 3 + 1 := by rw [i9, if_pos ⟨rfl, rfl⟩]
    refine qk_mono (q_sc_1 T9 kv0 wM o2 (by rw [e9, hy]; lia)) ?_
    rintro ⟨z, hz⟩ ⟨g1, g2, g3, g4⟩
    dsimp only at *
    rw [e9, hy] at g2
    refine ⟨g1, by rw [g2]; grind, fun a k => ?_, fun a j j0 ja => ?_⟩
    · rw [g3, e9, hy, i9, i7]; split
      · grind
      · rfl
    · rw [g4 a j j0 ja, a9, a7 a j j0, if_neg (fun z => ja z.1)]
theorem q_sc_3 {L : q_L} {W : Nat → Prop} {h0 : z_H} {π : Nat → Nat → Option Nat} {N n v0 : Nat} {w : Int64} {h : z_H} (T : q_U L W h0 π h) (kv0 : q_M L π v0) (wM : ∀ a, v0 ≤ a → a < v0 + 46 → W a) (ok : q_okc w 1 3 = 1) (rm : vI h v0 3 + q_cn w 3 ≤ 240) : qk (f_Mod_script_43 N (n + 4) v0 w 16 h) (fun r => q_U L W h0 π r.2 ∧ r.1 = vI h v0 3 + q_cn w 3 ∧ (∀ a k, vI r.2 a k = if a = v0 ∧ k = 3 then vI h v0 3 + q_cn w 3 else vI h a k) ∧ (∀ a j, 0 ≤ j → a ≠ v0 + 1 → vA r.2 a j = vA h a j)) := by
  have eb : (Int64.toInt32 (w >>> (Int32.toInt64 16 &&& 63))) &&& 255 = q_by w 5 := rfl
  have d : (16 : Int32) + (-8) = 8 := by decide
  obtain ⟨o1, o2⟩ := q_oks_3 ok
  have hc := q_cnr_2 w
  have hr := g_Mo_3 T kv0
  rw [q_cn_3] at rm ⊢
  rw [f_Mod_script_43, if_neg (by decide), eb]
  refine qk_bs ?_
  refine qk_if (fun c => ?_) (fun c => ?_)
  · rw [if_pos c] at rm ⊢; refine qk_bs ?_; rw [d]; exact q_sc_2 T kv0 wM o2 rm
  · rw [if_neg c] at rm ⊢
    have ob := q_okb o1 c
    generalize hy : q_cn w 2 = y at *
    refine r_Mo_0 T kv0 ?_
    refine r_Mo_3 T kv0 ?_
    intro x6 ex6 l6 u6
    subst ex6
    refine w_Mo_e1 T kv0 (wM _ (by omega) (by omega)) l6 (by lia) ob.1 ob.2 ?_
    intro h7 T7 i7 a7
    refine r_Mo_3 T7 kv0 ?_
    intro x8 ex8 l8 u8
    subst ex8
    rw [i7]
    refine w_Mo_3 T7 kv0 (wM _ (by omega) (by omega)) (by lia) (by lia) ?_
    intro h9 T9 i9 a9
    refine qk_bs ?_
    rw [d]
    have e9 : vI h9 v0 3 = vI h v0 3 + 1 := by rw [i9, if_pos ⟨rfl, rfl⟩]
    refine qk_mono (q_sc_2 T9 kv0 wM o2 (by rw [e9, hy]; lia)) ?_
    rintro ⟨z, hz⟩ ⟨g1, g2, g3, g4⟩
    dsimp only at *
    rw [e9, hy] at g2
    refine ⟨g1, by rw [g2]; grind, fun a k => ?_, fun a j j0 ja => ?_⟩
    · rw [g3, e9, hy, i9, i7]; split
      · grind
      · rfl
    · rw [g4 a j j0 ja, a9, a7 a j j0, if_neg (fun z => ja z.1)]
theorem q_sc_4 {L : q_L} {W : Nat → Prop} {h0 : z_H} {π : Nat → Nat → Option Nat} {N n v0 : Nat} {w : Int64} {h : z_H} (T : q_U L W h0 π h) (kv0 : q_M L π v0) (wM : ∀ a, v0 ≤ a → a < v0 + 46 → W a) (ok : q_okc w 1 4 = 1) (rm : vI h v0 3 + q_cn w 4 ≤ 240) : qk (f_Mod_script_43 N (n + 5) v0 w 24 h) (fun r => q_U L W h0 π r.2 ∧ r.1 = vI h v0 3 + q_cn w 4 ∧ (∀ a k, vI r.2 a k = if a = v0 ∧ k = 3 then vI h v0 3 + q_cn w 4 else vI h a k) ∧ (∀ a j, 0 ≤ j → a ≠ v0 + 1 → vA r.2 a j = vA h a j)) := by
  have eb : (Int64.toInt32 (w >>> (Int32.toInt64 24 &&& 63))) &&& 255 = q_by w 4 := rfl
  have d : (24 : Int32) + (-8) = 16 := by decide
  obtain ⟨o1, o2⟩ := q_oks_4 ok
  have hc := q_cnr_3 w
  have hr := g_Mo_3 T kv0
  rw [q_cn_4] at rm ⊢
  rw [f_Mod_script_43, if_neg (by decide), eb]
  refine qk_bs ?_
  refine qk_if (fun c => ?_) (fun c => ?_)
  · rw [if_pos c] at rm ⊢; refine qk_bs ?_; rw [d]; exact q_sc_3 T kv0 wM o2 rm
  · rw [if_neg c] at rm ⊢
    have ob := q_okb o1 c
    generalize hy : q_cn w 3 = y at *
    refine r_Mo_0 T kv0 ?_
    refine r_Mo_3 T kv0 ?_
    intro x6 ex6 l6 u6
    subst ex6
    refine w_Mo_e1 T kv0 (wM _ (by omega) (by omega)) l6 (by lia) ob.1 ob.2 ?_
    intro h7 T7 i7 a7
    refine r_Mo_3 T7 kv0 ?_
    intro x8 ex8 l8 u8
    subst ex8
    rw [i7]
    refine w_Mo_3 T7 kv0 (wM _ (by omega) (by omega)) (by lia) (by lia) ?_
    intro h9 T9 i9 a9
    refine qk_bs ?_
    rw [d]
    have e9 : vI h9 v0 3 = vI h v0 3 + 1 := by rw [i9, if_pos ⟨rfl, rfl⟩]
    refine qk_mono (q_sc_3 T9 kv0 wM o2 (by rw [e9, hy]; lia)) ?_
    rintro ⟨z, hz⟩ ⟨g1, g2, g3, g4⟩
    dsimp only at *
    rw [e9, hy] at g2
    refine ⟨g1, by rw [g2]; grind, fun a k => ?_, fun a j j0 ja => ?_⟩
    · rw [g3, e9, hy, i9, i7]; split
      · grind
      · rfl
    · rw [g4 a j j0 ja, a9, a7 a j j0, if_neg (fun z => ja z.1)]
theorem q_sc_5 {L : q_L} {W : Nat → Prop} {h0 : z_H} {π : Nat → Nat → Option Nat} {N n v0 : Nat} {w : Int64} {h : z_H} (T : q_U L W h0 π h) (kv0 : q_M L π v0) (wM : ∀ a, v0 ≤ a → a < v0 + 46 → W a) (ok : q_okc w 1 5 = 1) (rm : vI h v0 3 + q_cn w 5 ≤ 240) : qk (f_Mod_script_43 N (n + 6) v0 w 32 h) (fun r => q_U L W h0 π r.2 ∧ r.1 = vI h v0 3 + q_cn w 5 ∧ (∀ a k, vI r.2 a k = if a = v0 ∧ k = 3 then vI h v0 3 + q_cn w 5 else vI h a k) ∧ (∀ a j, 0 ≤ j → a ≠ v0 + 1 → vA r.2 a j = vA h a j)) := by
  have eb : (Int64.toInt32 (w >>> (Int32.toInt64 32 &&& 63))) &&& 255 = q_by w 3 := rfl
  have d : (32 : Int32) + (-8) = 24 := by decide
  obtain ⟨o1, o2⟩ := q_oks_5 ok
  have hc := q_cnr_4 w
  have hr := g_Mo_3 T kv0
  rw [q_cn_5] at rm ⊢
  rw [f_Mod_script_43, if_neg (by decide), eb]
  refine qk_bs ?_
  refine qk_if (fun c => ?_) (fun c => ?_)
  · rw [if_pos c] at rm ⊢; refine qk_bs ?_; rw [d]; exact q_sc_4 T kv0 wM o2 rm
  · rw [if_neg c] at rm ⊢
    have ob := q_okb o1 c
    generalize hy : q_cn w 4 = y at *
    refine r_Mo_0 T kv0 ?_
    refine r_Mo_3 T kv0 ?_
    intro x6 ex6 l6 u6
    subst ex6
    refine w_Mo_e1 T kv0 (wM _ (by omega) (by omega)) l6 (by lia) ob.1 ob.2 ?_
    intro h7 T7 i7 a7
    refine r_Mo_3 T7 kv0 ?_
    intro x8 ex8 l8 u8
    subst ex8
    rw [i7]
    refine w_Mo_3 T7 kv0 (wM _ (by omega) (by omega)) (by lia) (by lia) ?_
    intro h9 T9 i9 a9
    refine qk_bs ?_
    rw [d]
    have e9 : vI h9 v0 3 = vI h v0 3 + 1 := by rw [i9, if_pos ⟨rfl, rfl⟩]
    refine qk_mono (q_sc_4 T9 kv0 wM o2 (by rw [e9, hy]; lia)) ?_
    rintro ⟨z, hz⟩ ⟨g1, g2, g3, g4⟩
    dsimp only at *
    rw [e9, hy] at g2
    refine ⟨g1, by rw [g2]; grind, fun a k => ?_, fun a j j0 ja => ?_⟩
    · rw [g3, e9, hy, i9, i7]; split
      · grind
      · rfl
    · rw [g4 a j j0 ja, a9, a7 a j j0, if_neg (fun z => ja z.1)]
theorem q_sc_6 {L : q_L} {W : Nat → Prop} {h0 : z_H} {π : Nat → Nat → Option Nat} {N n v0 : Nat} {w : Int64} {h : z_H} (T : q_U L W h0 π h) (kv0 : q_M L π v0) (wM : ∀ a, v0 ≤ a → a < v0 + 46 → W a) (ok : q_okc w 1 6 = 1) (rm : vI h v0 3 + q_cn w 6 ≤ 240) : qk (f_Mod_script_43 N (n + 7) v0 w 40 h) (fun r => q_U L W h0 π r.2 ∧ r.1 = vI h v0 3 + q_cn w 6 ∧ (∀ a k, vI r.2 a k = if a = v0 ∧ k = 3 then vI h v0 3 + q_cn w 6 else vI h a k) ∧ (∀ a j, 0 ≤ j → a ≠ v0 + 1 → vA r.2 a j = vA h a j)) := by
  have eb : (Int64.toInt32 (w >>> (Int32.toInt64 40 &&& 63))) &&& 255 = q_by w 2 := rfl
  have d : (40 : Int32) + (-8) = 32 := by decide
  obtain ⟨o1, o2⟩ := q_oks_6 ok
  have hc := q_cnr_5 w
  have hr := g_Mo_3 T kv0
  rw [q_cn_6] at rm ⊢
  rw [f_Mod_script_43, if_neg (by decide), eb]
  refine qk_bs ?_
  refine qk_if (fun c => ?_) (fun c => ?_)
  · rw [if_pos c] at rm ⊢; refine qk_bs ?_; rw [d]; exact q_sc_5 T kv0 wM o2 rm
  · rw [if_neg c] at rm ⊢
    have ob := q_okb o1 c
    generalize hy : q_cn w 5 = y at *
    refine r_Mo_0 T kv0 ?_
    refine r_Mo_3 T kv0 ?_
    intro x6 ex6 l6 u6
    subst ex6
    refine w_Mo_e1 T kv0 (wM _ (by omega) (by omega)) l6 (by lia) ob.1 ob.2 ?_
    intro h7 T7 i7 a7
    refine r_Mo_3 T7 kv0 ?_
    intro x8 ex8 l8 u8
    subst ex8
    rw [i7]
    refine w_Mo_3 T7 kv0 (wM _ (by omega) (by omega)) (by lia) (by lia) ?_
    intro h9 T9 i9 a9
    refine qk_bs ?_
    rw [d]
    have e9 : vI h9 v0 3 = vI h v0 3 + 1 := by rw [i9, if_pos ⟨rfl, rfl⟩]
    refine qk_mono (q_sc_5 T9 kv0 wM o2 (by rw [e9, hy]; lia)) ?_
    rintro ⟨z, hz⟩ ⟨g1, g2, g3, g4⟩
    dsimp only at *
    rw [e9, hy] at g2
    refine ⟨g1, by rw [g2]; grind, fun a k => ?_, fun a j j0 ja => ?_⟩
    · rw [g3, e9, hy, i9, i7]; split
      · grind
      · rfl
    · rw [g4 a j j0 ja, a9, a7 a j j0, if_neg (fun z => ja z.1)]
theorem q_sc_7 {L : q_L} {W : Nat → Prop} {h0 : z_H} {π : Nat → Nat → Option Nat} {N n v0 : Nat} {w : Int64} {h : z_H} (T : q_U L W h0 π h) (kv0 : q_M L π v0) (wM : ∀ a, v0 ≤ a → a < v0 + 46 → W a) (ok : q_okc w 1 7 = 1) (rm : vI h v0 3 + q_cn w 7 ≤ 240) : qk (f_Mod_script_43 N (n + 8) v0 w 48 h) (fun r => q_U L W h0 π r.2 ∧ r.1 = vI h v0 3 + q_cn w 7 ∧ (∀ a k, vI r.2 a k = if a = v0 ∧ k = 3 then vI h v0 3 + q_cn w 7 else vI h a k) ∧ (∀ a j, 0 ≤ j → a ≠ v0 + 1 → vA r.2 a j = vA h a j)) := by
  have eb : (Int64.toInt32 (w >>> (Int32.toInt64 48 &&& 63))) &&& 255 = q_by w 1 := rfl
  have d : (48 : Int32) + (-8) = 40 := by decide
  obtain ⟨o1, o2⟩ := q_oks_7 ok
  have hc := q_cnr_6 w
  have hr := g_Mo_3 T kv0
  rw [q_cn_7] at rm ⊢
  rw [f_Mod_script_43, if_neg (by decide), eb]
  refine qk_bs ?_
  refine qk_if (fun c => ?_) (fun c => ?_)
  · rw [if_pos c] at rm ⊢; refine qk_bs ?_; rw [d]; exact q_sc_6 T kv0 wM o2 rm
  · rw [if_neg c] at rm ⊢
    have ob := q_okb o1 c
    generalize hy : q_cn w 6 = y at *
    refine r_Mo_0 T kv0 ?_
    refine r_Mo_3 T kv0 ?_
    intro x6 ex6 l6 u6
    subst ex6
    refine w_Mo_e1 T kv0 (wM _ (by omega) (by omega)) l6 (by lia) ob.1 ob.2 ?_
    intro h7 T7 i7 a7
    refine r_Mo_3 T7 kv0 ?_
    intro x8 ex8 l8 u8
    subst ex8
    rw [i7]
    refine w_Mo_3 T7 kv0 (wM _ (by omega) (by omega)) (by lia) (by lia) ?_
    intro h9 T9 i9 a9
    refine qk_bs ?_
    rw [d]
    have e9 : vI h9 v0 3 = vI h v0 3 + 1 := by rw [i9, if_pos ⟨rfl, rfl⟩]
    refine qk_mono (q_sc_6 T9 kv0 wM o2 (by rw [e9, hy]; lia)) ?_
    rintro ⟨z, hz⟩ ⟨g1, g2, g3, g4⟩
    dsimp only at *
    rw [e9, hy] at g2
    refine ⟨g1, by rw [g2]; grind, fun a k => ?_, fun a j j0 ja => ?_⟩
    · rw [g3, e9, hy, i9, i7]; split
      · grind
      · rfl
    · rw [g4 a j j0 ja, a9, a7 a j j0, if_neg (fun z => ja z.1)]
theorem q_sc_8 {L : q_L} {W : Nat → Prop} {h0 : z_H} {π : Nat → Nat → Option Nat} {N n v0 : Nat} {w : Int64} {h : z_H} (T : q_U L W h0 π h) (kv0 : q_M L π v0) (wM : ∀ a, v0 ≤ a → a < v0 + 46 → W a) (ok : q_okc w 1 8 = 1) (rm : vI h v0 3 + q_cn w 8 ≤ 240) : qk (f_Mod_script_43 N (n + 9) v0 w 56 h) (fun r => q_U L W h0 π r.2 ∧ r.1 = vI h v0 3 + q_cn w 8 ∧ (∀ a k, vI r.2 a k = if a = v0 ∧ k = 3 then vI h v0 3 + q_cn w 8 else vI h a k) ∧ (∀ a j, 0 ≤ j → a ≠ v0 + 1 → vA r.2 a j = vA h a j)) := by
  have eb : (Int64.toInt32 (w >>> (Int32.toInt64 56 &&& 63))) &&& 255 = q_by w 0 := rfl
  have d : (56 : Int32) + (-8) = 48 := by decide
  obtain ⟨o1, o2⟩ := q_oks_8 ok
  have hc := q_cnr_7 w
  have hr := g_Mo_3 T kv0
  rw [q_cn_8] at rm ⊢
  rw [f_Mod_script_43, if_neg (by decide), eb]
  refine qk_bs ?_
  refine qk_if (fun c => ?_) (fun c => ?_)
  · rw [if_pos c] at rm ⊢; refine qk_bs ?_; rw [d]; exact q_sc_7 T kv0 wM o2 rm
  · rw [if_neg c] at rm ⊢
    have ob := q_okb o1 c
    generalize hy : q_cn w 7 = y at *
    refine r_Mo_0 T kv0 ?_
    refine r_Mo_3 T kv0 ?_
    intro x6 ex6 l6 u6
    subst ex6
    refine w_Mo_e1 T kv0 (wM _ (by omega) (by omega)) l6 (by lia) ob.1 ob.2 ?_
    intro h7 T7 i7 a7
    refine r_Mo_3 T7 kv0 ?_
    intro x8 ex8 l8 u8
    subst ex8
    rw [i7]
    refine w_Mo_3 T7 kv0 (wM _ (by omega) (by omega)) (by lia) (by lia) ?_
    intro h9 T9 i9 a9
    refine qk_bs ?_
    rw [d]
    have e9 : vI h9 v0 3 = vI h v0 3 + 1 := by rw [i9, if_pos ⟨rfl, rfl⟩]
    refine qk_mono (q_sc_7 T9 kv0 wM o2 (by rw [e9, hy]; lia)) ?_
    rintro ⟨z, hz⟩ ⟨g1, g2, g3, g4⟩
    dsimp only at *
    rw [e9, hy] at g2
    refine ⟨g1, by rw [g2]; grind, fun a k => ?_, fun a j j0 ja => ?_⟩
    · rw [g3, e9, hy, i9, i7]; split
      · grind
      · rfl
    · rw [g4 a j j0 ja, a9, a7 a j j0, if_neg (fun z => ja z.1)]
theorem q_ad_0 {L : q_L} {W : Nat → Prop} {h0 : z_H} {π : Nat → Nat → Option Nat} {N n v0 : Nat} {v1 : Int32} {w : Int64} {h : z_H} (T : q_U L W h0 π h) (kv0 : q_M L π v0) (wM : ∀ a, v0 ≤ a → a < v0 + 46 → W a) (b0 : 0 ≤ v1) (b1 : v1 < 12) (rm : vA h (v0 + 2) v1 + q_cn w 0 ≤ 24) : qk (f_Mod_addTo_4 N (n + 1) v0 v1 w (-8) h) (fun r => q_U L W h0 π r ∧ (∀ a k, vI r a k = vI h a k) ∧ (∀ a j, 0 ≤ j → a ≠ v0 + 3 → vA r a j = if a = v0 + 2 ∧ j = v1 then vA h (v0 + 2) v1 + q_cn w 0 else vA h a j)) := by
  rw [f_Mod_addTo_4, if_pos (by decide)]
  refine qk_some ⟨T, fun _ _ => rfl, fun a j _ _ => ?_⟩
  rw [q_cn_0, Int32.add_zero]; split
  · next z => rw [z.1, z.2]
  · rfl
theorem q_ad_1 {L : q_L} {W : Nat → Prop} {h0 : z_H} {π : Nat → Nat → Option Nat} {N n v0 : Nat} {v1 : Int32} {w : Int64} {h : z_H} (T : q_U L W h0 π h) (kv0 : q_M L π v0) (wM : ∀ a, v0 ≤ a → a < v0 + 46 → W a) (b0 : 0 ≤ v1) (b1 : v1 < 12) (rm : vA h (v0 + 2) v1 + q_cn w 1 ≤ 24) : qk (f_Mod_addTo_4 N (n + 2) v0 v1 w 0 h) (fun r => q_U L W h0 π r ∧ (∀ a k, vI r a k = vI h a k) ∧ (∀ a j, 0 ≤ j → a ≠ v0 + 3 → vA r a j = if a = v0 + 2 ∧ j = v1 then vA h (v0 + 2) v1 + q_cn w 1 else vA h a j)) := by
  have eb : (Int64.toInt32 (w >>> (Int32.toInt64 0 &&& 63))) &&& 255 = q_by w 7 := rfl
  have d : (0 : Int32) + (-8) = (-8) := by decide
  have hc := q_cnr_0 w
  have hr := g_Mo_e2 T kv0 v1
  rw [q_cn_1] at rm ⊢
  rw [f_Mod_addTo_4, if_neg (by decide), eb]
  refine qk_bs ?_
  refine qk_if (fun c => ?_) (fun c => ?_)
  · rw [if_pos c] at rm ⊢; refine qk_bs ?_; rw [d]; exact q_ad_0 T kv0 wM b0 b1 rm
  · rw [if_neg c] at rm ⊢
    generalize hy : q_cn w 0 = y at *
    refine r_Mo_2 T kv0 ?_
    refine r_Mo_1 T kv0 ?_
    refine r_Mo_e2 T kv0 b0 b1 ?_
    intro x6 ex6 l6 u6
    subst ex6
    refine w_Mo_e3 T kv0 (wM _ (by omega) (by omega)) (by lia) (by lia) ?_
    intro h7 T7 i7 a7
    refine r_Mo_1 T7 kv0 ?_
    refine r_Mo_e2 T7 kv0 b0 b1 ?_
    intro x9 ex9 l9 u9
    subst ex9
    rw [a7 (v0 + 2) v1 b0, if_neg (fun z => absurd z.1 (by omega))]
    refine w_Mo_e2 T7 kv0 (wM _ (by omega) (by omega)) b0 b1 (by lia) (by lia) ?_
    intro h10 T10 i10 a10
    refine qk_bs ?_
    rw [d]
    have e10 : vA h10 (v0 + 2) v1 = vA h (v0 + 2) v1 + 1 := by rw [a10 _ _ b0, if_pos ⟨rfl, rfl⟩]
    refine qk_mono (q_ad_0 T10 kv0 wM b0 b1 (by rw [e10, hy]; lia)) ?_
    rintro hz ⟨g1, g3, g4⟩
    refine ⟨g1, fun a k => by rw [g3, i10, i7], fun a j j0 ja => ?_⟩
    rw [g4 a j j0 ja, e10, hy, a10 a j j0, a7 a j j0, if_neg (c := a = v0 + 3 ∧ _) (fun z => ja z.1)]; split
    · grind
    · rfl
theorem q_ad_2 {L : q_L} {W : Nat → Prop} {h0 : z_H} {π : Nat → Nat → Option Nat} {N n v0 : Nat} {v1 : Int32} {w : Int64} {h : z_H} (T : q_U L W h0 π h) (kv0 : q_M L π v0) (wM : ∀ a, v0 ≤ a → a < v0 + 46 → W a) (b0 : 0 ≤ v1) (b1 : v1 < 12) (rm : vA h (v0 + 2) v1 + q_cn w 2 ≤ 24) : qk (f_Mod_addTo_4 N (n + 3) v0 v1 w 8 h) (fun r => q_U L W h0 π r ∧ (∀ a k, vI r a k = vI h a k) ∧ (∀ a j, 0 ≤ j → a ≠ v0 + 3 → vA r a j = if a = v0 + 2 ∧ j = v1 then vA h (v0 + 2) v1 + q_cn w 2 else vA h a j)) := by
  have eb : (Int64.toInt32 (w >>> (Int32.toInt64 8 &&& 63))) &&& 255 = q_by w 6 := rfl
  have d : (8 : Int32) + (-8) = 0 := by decide
  have hc := q_cnr_1 w
  have hr := g_Mo_e2 T kv0 v1
  rw [q_cn_2] at rm ⊢
  rw [f_Mod_addTo_4, if_neg (by decide), eb]
  refine qk_bs ?_
  refine qk_if (fun c => ?_) (fun c => ?_)
  · rw [if_pos c] at rm ⊢; refine qk_bs ?_; rw [d]; exact q_ad_1 T kv0 wM b0 b1 rm
  · rw [if_neg c] at rm ⊢
    generalize hy : q_cn w 1 = y at *
    refine r_Mo_2 T kv0 ?_
    refine r_Mo_1 T kv0 ?_
    refine r_Mo_e2 T kv0 b0 b1 ?_
    intro x6 ex6 l6 u6
    subst ex6
    refine w_Mo_e3 T kv0 (wM _ (by omega) (by omega)) (by lia) (by lia) ?_
    intro h7 T7 i7 a7
    refine r_Mo_1 T7 kv0 ?_
    refine r_Mo_e2 T7 kv0 b0 b1 ?_
    intro x9 ex9 l9 u9
    subst ex9
    rw [a7 (v0 + 2) v1 b0, if_neg (fun z => absurd z.1 (by omega))]
    refine w_Mo_e2 T7 kv0 (wM _ (by omega) (by omega)) b0 b1 (by lia) (by lia) ?_
    intro h10 T10 i10 a10
    refine qk_bs ?_
    rw [d]
    have e10 : vA h10 (v0 + 2) v1 = vA h (v0 + 2) v1 + 1 := by rw [a10 _ _ b0, if_pos ⟨rfl, rfl⟩]
    refine qk_mono (q_ad_1 T10 kv0 wM b0 b1 (by rw [e10, hy]; lia)) ?_
    rintro hz ⟨g1, g3, g4⟩
    refine ⟨g1, fun a k => by rw [g3, i10, i7], fun a j j0 ja => ?_⟩
    rw [g4 a j j0 ja, e10, hy, a10 a j j0, a7 a j j0, if_neg (c := a = v0 + 3 ∧ _) (fun z => ja z.1)]; split
    · grind
    · rfl
theorem q_ad_3 {L : q_L} {W : Nat → Prop} {h0 : z_H} {π : Nat → Nat → Option Nat} {N n v0 : Nat} {v1 : Int32} {w : Int64} {h : z_H} (T : q_U L W h0 π h) (kv0 : q_M L π v0) (wM : ∀ a, v0 ≤ a → a < v0 + 46 → W a) (b0 : 0 ≤ v1) (b1 : v1 < 12) (rm : vA h (v0 + 2) v1 + q_cn w 3 ≤ 24) : qk (f_Mod_addTo_4 N (n + 4) v0 v1 w 16 h) (fun r => q_U L W h0 π r ∧ (∀ a k, vI r a k = vI h a k) ∧ (∀ a j, 0 ≤ j → a ≠ v0 + 3 → vA r a j = if a = v0 + 2 ∧ j = v1 then vA h (v0 + 2) v1 + q_cn w 3 else vA h a j)) := by
  have eb : (Int64.toInt32 (w >>> (Int32.toInt64 16 &&& 63))) &&& 255 = q_by w 5 := rfl
  have d : (16 : Int32) + (-8) = 8 := by decide
  have hc := q_cnr_2 w
  have hr := g_Mo_e2 T kv0 v1
  rw [q_cn_3] at rm ⊢
  rw [f_Mod_addTo_4, if_neg (by decide), eb]
  refine qk_bs ?_
  refine qk_if (fun c => ?_) (fun c => ?_)
  · rw [if_pos c] at rm ⊢; refine qk_bs ?_; rw [d]; exact q_ad_2 T kv0 wM b0 b1 rm
  · rw [if_neg c] at rm ⊢
    generalize hy : q_cn w 2 = y at *
    refine r_Mo_2 T kv0 ?_
    refine r_Mo_1 T kv0 ?_
    refine r_Mo_e2 T kv0 b0 b1 ?_
    intro x6 ex6 l6 u6
    subst ex6
    refine w_Mo_e3 T kv0 (wM _ (by omega) (by omega)) (by lia) (by lia) ?_
    intro h7 T7 i7 a7
    refine r_Mo_1 T7 kv0 ?_
    refine r_Mo_e2 T7 kv0 b0 b1 ?_
    intro x9 ex9 l9 u9
    subst ex9
    rw [a7 (v0 + 2) v1 b0, if_neg (fun z => absurd z.1 (by omega))]
    refine w_Mo_e2 T7 kv0 (wM _ (by omega) (by omega)) b0 b1 (by lia) (by lia) ?_
    intro h10 T10 i10 a10
    refine qk_bs ?_
    rw [d]
    have e10 : vA h10 (v0 + 2) v1 = vA h (v0 + 2) v1 + 1 := by rw [a10 _ _ b0, if_pos ⟨rfl, rfl⟩]
    refine qk_mono (q_ad_2 T10 kv0 wM b0 b1 (by rw [e10, hy]; lia)) ?_
    rintro hz ⟨g1, g3, g4⟩
    refine ⟨g1, fun a k => by rw [g3, i10, i7], fun a j j0 ja => ?_⟩
    rw [g4 a j j0 ja, e10, hy, a10 a j j0, a7 a j j0, if_neg (c := a = v0 + 3 ∧ _) (fun z => ja z.1)]; split
    · grind
    · rfl
theorem q_ad_4 {L : q_L} {W : Nat → Prop} {h0 : z_H} {π : Nat → Nat → Option Nat} {N n v0 : Nat} {v1 : Int32} {w : Int64} {h : z_H} (T : q_U L W h0 π h) (kv0 : q_M L π v0) (wM : ∀ a, v0 ≤ a → a < v0 + 46 → W a) (b0 : 0 ≤ v1) (b1 : v1 < 12) (rm : vA h (v0 + 2) v1 + q_cn w 4 ≤ 24) : qk (f_Mod_addTo_4 N (n + 5) v0 v1 w 24 h) (fun r => q_U L W h0 π r ∧ (∀ a k, vI r a k = vI h a k) ∧ (∀ a j, 0 ≤ j → a ≠ v0 + 3 → vA r a j = if a = v0 + 2 ∧ j = v1 then vA h (v0 + 2) v1 + q_cn w 4 else vA h a j)) := by
  have eb : (Int64.toInt32 (w >>> (Int32.toInt64 24 &&& 63))) &&& 255 = q_by w 4 := rfl
  have d : (24 : Int32) + (-8) = 16 := by decide
  have hc := q_cnr_3 w
  have hr := g_Mo_e2 T kv0 v1
  rw [q_cn_4] at rm ⊢
  rw [f_Mod_addTo_4, if_neg (by decide), eb]
  refine qk_bs ?_
  refine qk_if (fun c => ?_) (fun c => ?_)
  · rw [if_pos c] at rm ⊢; refine qk_bs ?_; rw [d]; exact q_ad_3 T kv0 wM b0 b1 rm
  · rw [if_neg c] at rm ⊢
    generalize hy : q_cn w 3 = y at *
    refine r_Mo_2 T kv0 ?_
    refine r_Mo_1 T kv0 ?_
    refine r_Mo_e2 T kv0 b0 b1 ?_
    intro x6 ex6 l6 u6
    subst ex6
    refine w_Mo_e3 T kv0 (wM _ (by omega) (by omega)) (by lia) (by lia) ?_
    intro h7 T7 i7 a7
    refine r_Mo_1 T7 kv0 ?_
    refine r_Mo_e2 T7 kv0 b0 b1 ?_
    intro x9 ex9 l9 u9
    subst ex9
    rw [a7 (v0 + 2) v1 b0, if_neg (fun z => absurd z.1 (by omega))]
    refine w_Mo_e2 T7 kv0 (wM _ (by omega) (by omega)) b0 b1 (by lia) (by lia) ?_
    intro h10 T10 i10 a10
    refine qk_bs ?_
    rw [d]
    have e10 : vA h10 (v0 + 2) v1 = vA h (v0 + 2) v1 + 1 := by rw [a10 _ _ b0, if_pos ⟨rfl, rfl⟩]
    refine qk_mono (q_ad_3 T10 kv0 wM b0 b1 (by rw [e10, hy]; lia)) ?_
    rintro hz ⟨g1, g3, g4⟩
    refine ⟨g1, fun a k => by rw [g3, i10, i7], fun a j j0 ja => ?_⟩
    rw [g4 a j j0 ja, e10, hy, a10 a j j0, a7 a j j0, if_neg (c := a = v0 + 3 ∧ _) (fun z => ja z.1)]; split
    · grind
    · rfl
theorem q_ad_5 {L : q_L} {W : Nat → Prop} {h0 : z_H} {π : Nat → Nat → Option Nat} {N n v0 : Nat} {v1 : Int32} {w : Int64} {h : z_H} (T : q_U L W h0 π h) (kv0 : q_M L π v0) (wM : ∀ a, v0 ≤ a → a < v0 + 46 → W a) (b0 : 0 ≤ v1) (b1 : v1 < 12) (rm : vA h (v0 + 2) v1 + q_cn w 5 ≤ 24) : qk (f_Mod_addTo_4 N (n + 6) v0 v1 w 32 h) (fun r => q_U L W h0 π r ∧ (∀ a k, vI r a k = vI h a k) ∧ (∀ a j, 0 ≤ j → a ≠ v0 + 3 → vA r a j = if a = v0 + 2 ∧ j = v1 then vA h (v0 + 2) v1 + q_cn w 5 else vA h a j)) := by
  have eb : (Int64.toInt32 (w >>> (Int32.toInt64 32 &&& 63))) &&& 255 = q_by w 3 := rfl
  have d : (32 : Int32) + (-8) = 24 := by decide
  have hc := q_cnr_4 w
  have hr := g_Mo_e2 T kv0 v1
  rw [q_cn_5] at rm ⊢
  rw [f_Mod_addTo_4, if_neg (by decide), eb]
  refine qk_bs ?_
  refine qk_if (fun c => ?_) (fun c => ?_)
  · rw [if_pos c] at rm ⊢; refine qk_bs ?_; rw [d]; exact q_ad_4 T kv0 wM b0 b1 rm
  · rw [if_neg c] at rm ⊢
    generalize hy : q_cn w 4 = y at *
    refine r_Mo_2 T kv0 ?_
    refine r_Mo_1 T kv0 ?_
    refine r_Mo_e2 T kv0 b0 b1 ?_
    intro x6 ex6 l6 u6
    subst ex6
    refine w_Mo_e3 T kv0 (wM _ (by omega) (by omega)) (by lia) (by lia) ?_
    intro h7 T7 i7 a7
    refine r_Mo_1 T7 kv0 ?_
    refine r_Mo_e2 T7 kv0 b0 b1 ?_
    intro x9 ex9 l9 u9
    subst ex9
    rw [a7 (v0 + 2) v1 b0, if_neg (fun z => absurd z.1 (by omega))]
    refine w_Mo_e2 T7 kv0 (wM _ (by omega) (by omega)) b0 b1 (by lia) (by lia) ?_
    intro h10 T10 i10 a10
    refine qk_bs ?_
    rw [d]
    have e10 : vA h10 (v0 + 2) v1 = vA h (v0 + 2) v1 + 1 := by rw [a10 _ _ b0, if_pos ⟨rfl, rfl⟩]
    refine qk_mono (q_ad_4 T10 kv0 wM b0 b1 (by rw [e10, hy]; lia)) ?_
    rintro hz ⟨g1, g3, g4⟩
    refine ⟨g1, fun a k => by rw [g3, i10, i7], fun a j j0 ja => ?_⟩
    rw [g4 a j j0 ja, e10, hy, a10 a j j0, a7 a j j0, if_neg (c := a = v0 + 3 ∧ _) (fun z => ja z.1)]; split
    · grind
    · rfl
theorem q_ad_6 {L : q_L} {W : Nat → Prop} {h0 : z_H} {π : Nat → Nat → Option Nat} {N n v0 : Nat} {v1 : Int32} {w : Int64} {h : z_H} (T : q_U L W h0 π h) (kv0 : q_M L π v0) (wM : ∀ a, v0 ≤ a → a < v0 + 46 → W a) (b0 : 0 ≤ v1) (b1 : v1 < 12) (rm : vA h (v0 + 2) v1 + q_cn w 6 ≤ 24) : qk (f_Mod_addTo_4 N (n + 7) v0 v1 w 40 h) (fun r => q_U L W h0 π r ∧ (∀ a k, vI r a k = vI h a k) ∧ (∀ a j, 0 ≤ j → a ≠ v0 + 3 → vA r a j = if a = v0 + 2 ∧ j = v1 then vA h (v0 + 2) v1 + q_cn w 6 else vA h a j)) := by
  have eb : (Int64.toInt32 (w >>> (Int32.toInt64 40 &&& 63))) &&& 255 = q_by w 2 := rfl
  have d : (40 : Int32) + (-8) = 32 := by decide
  have hc := q_cnr_5 w
  have hr := g_Mo_e2 T kv0 v1
  rw [q_cn_6] at rm ⊢
  rw [f_Mod_addTo_4, if_neg (by decide), eb]
  refine qk_bs ?_
  refine qk_if (fun c => ?_) (fun c => ?_)
  · rw [if_pos c] at rm ⊢; refine qk_bs ?_; rw [d]; exact q_ad_5 T kv0 wM b0 b1 rm
  · rw [if_neg c] at rm ⊢
    generalize hy : q_cn w 5 = y at *
    refine r_Mo_2 T kv0 ?_
    refine r_Mo_1 T kv0 ?_
    refine r_Mo_e2 T kv0 b0 b1 ?_
    intro x6 ex6 l6 u6
    subst ex6
    refine w_Mo_e3 T kv0 (wM _ (by omega) (by omega)) (by lia) (by lia) ?_
    intro h7 T7 i7 a7
    refine r_Mo_1 T7 kv0 ?_
    refine r_Mo_e2 T7 kv0 b0 b1 ?_
    intro x9 ex9 l9 u9
    subst ex9
    rw [a7 (v0 + 2) v1 b0, if_neg (fun z => absurd z.1 (by omega))]
    refine w_Mo_e2 T7 kv0 (wM _ (by omega) (by omega)) b0 b1 (by lia) (by lia) ?_
    intro h10 T10 i10 a10
    refine qk_bs ?_
    rw [d]
    have e10 : vA h10 (v0 + 2) v1 = vA h (v0 + 2) v1 + 1 := by rw [a10 _ _ b0, if_pos ⟨rfl, rfl⟩]
    refine qk_mono (q_ad_5 T10 kv0 wM b0 b1 (by rw [e10, hy]; lia)) ?_
    rintro hz ⟨g1, g3, g4⟩
    refine ⟨g1, fun a k => by rw [g3, i10, i7], fun a j j0 ja => ?_⟩
    rw [g4 a j j0 ja, e10, hy, a10 a j j0, a7 a j j0, if_neg (c := a = v0 + 3 ∧ _) (fun z => ja z.1)]; split
    · grind
    · rfl
theorem q_ad_7 {L : q_L} {W : Nat → Prop} {h0 : z_H} {π : Nat → Nat → Option Nat} {N n v0 : Nat} {v1 : Int32} {w : Int64} {h : z_H} (T : q_U L W h0 π h) (kv0 : q_M L π v0) (wM : ∀ a, v0 ≤ a → a < v0 + 46 → W a) (b0 : 0 ≤ v1) (b1 : v1 < 12) (rm : vA h (v0 + 2) v1 + q_cn w 7 ≤ 24) : qk (f_Mod_addTo_4 N (n + 8) v0 v1 w 48 h) (fun r => q_U L W h0 π r ∧ (∀ a k, vI r a k = vI h a k) ∧ (∀ a j, 0 ≤ j → a ≠ v0 + 3 → vA r a j = if a = v0 + 2 ∧ j = v1 then vA h (v0 + 2) v1 + q_cn w 7 else vA h a j)) := by
  have eb : (Int64.toInt32 (w >>> (Int32.toInt64 48 &&& 63))) &&& 255 = q_by w 1 := rfl
  have d : (48 : Int32) + (-8) = 40 := by decide
  have hc := q_cnr_6 w
  have hr := g_Mo_e2 T kv0 v1
  rw [q_cn_7] at rm ⊢
  rw [f_Mod_addTo_4, if_neg (by decide), eb]
  refine qk_bs ?_
  refine qk_if (fun c => ?_) (fun c => ?_)
  · rw [if_pos c] at rm ⊢; refine qk_bs ?_; rw [d]; exact q_ad_6 T kv0 wM b0 b1 rm
  · rw [if_neg c] at rm ⊢
    generalize hy : q_cn w 6 = y at *
    refine r_Mo_2 T kv0 ?_
    refine r_Mo_1 T kv0 ?_
    refine r_Mo_e2 T kv0 b0 b1 ?_
    intro x6 ex6 l6 u6
    subst ex6
    refine w_Mo_e3 T kv0 (wM _ (by omega) (by omega)) (by lia) (by lia) ?_
    intro h7 T7 i7 a7
    refine r_Mo_1 T7 kv0 ?_
    refine r_Mo_e2 T7 kv0 b0 b1 ?_
    intro x9 ex9 l9 u9
    subst ex9
    rw [a7 (v0 + 2) v1 b0, if_neg (fun z => absurd z.1 (by omega))]
    refine w_Mo_e2 T7 kv0 (wM _ (by omega) (by omega)) b0 b1 (by lia) (by lia) ?_
    intro h10 T10 i10 a10
    refine qk_bs ?_
    rw [d]
    have e10 : vA h10 (v0 + 2) v1 = vA h (v0 + 2) v1 + 1 := by rw [a10 _ _ b0, if_pos ⟨rfl, rfl⟩]
    refine qk_mono (q_ad_6 T10 kv0 wM b0 b1 (by rw [e10, hy]; lia)) ?_
    rintro hz ⟨g1, g3, g4⟩
    refine ⟨g1, fun a k => by rw [g3, i10, i7], fun a j j0 ja => ?_⟩
    rw [g4 a j j0 ja, e10, hy, a10 a j j0, a7 a j j0, if_neg (c := a = v0 + 3 ∧ _) (fun z => ja z.1)]; split
    · grind
    · rfl
theorem q_ad_8 {L : q_L} {W : Nat → Prop} {h0 : z_H} {π : Nat → Nat → Option Nat} {N n v0 : Nat} {v1 : Int32} {w : Int64} {h : z_H} (T : q_U L W h0 π h) (kv0 : q_M L π v0) (wM : ∀ a, v0 ≤ a → a < v0 + 46 → W a) (b0 : 0 ≤ v1) (b1 : v1 < 12) (rm : vA h (v0 + 2) v1 + q_cn w 8 ≤ 24) : qk (f_Mod_addTo_4 N (n + 9) v0 v1 w 56 h) (fun r => q_U L W h0 π r ∧ (∀ a k, vI r a k = vI h a k) ∧ (∀ a j, 0 ≤ j → a ≠ v0 + 3 → vA r a j = if a = v0 + 2 ∧ j = v1 then vA h (v0 + 2) v1 + q_cn w 8 else vA h a j)) := by
  have eb : (Int64.toInt32 (w >>> (Int32.toInt64 56 &&& 63))) &&& 255 = q_by w 0 := rfl
  have d : (56 : Int32) + (-8) = 48 := by decide
  have hc := q_cnr_7 w
  have hr := g_Mo_e2 T kv0 v1
  rw [q_cn_8] at rm ⊢
  rw [f_Mod_addTo_4, if_neg (by decide), eb]
  refine qk_bs ?_
  refine qk_if (fun c => ?_) (fun c => ?_)
  · rw [if_pos c] at rm ⊢; refine qk_bs ?_; rw [d]; exact q_ad_7 T kv0 wM b0 b1 rm
  · rw [if_neg c] at rm ⊢
    generalize hy : q_cn w 7 = y at *
    refine r_Mo_2 T kv0 ?_
    refine r_Mo_1 T kv0 ?_
    refine r_Mo_e2 T kv0 b0 b1 ?_
    intro x6 ex6 l6 u6
    subst ex6
    refine w_Mo_e3 T kv0 (wM _ (by omega) (by omega)) (by lia) (by lia) ?_
    intro h7 T7 i7 a7
    refine r_Mo_1 T7 kv0 ?_
    refine r_Mo_e2 T7 kv0 b0 b1 ?_
    intro x9 ex9 l9 u9
    subst ex9
    rw [a7 (v0 + 2) v1 b0, if_neg (fun z => absurd z.1 (by omega))]
    refine w_Mo_e2 T7 kv0 (wM _ (by omega) (by omega)) b0 b1 (by lia) (by lia) ?_
    intro h10 T10 i10 a10
    refine qk_bs ?_
    rw [d]
    have e10 : vA h10 (v0 + 2) v1 = vA h (v0 + 2) v1 + 1 := by rw [a10 _ _ b0, if_pos ⟨rfl, rfl⟩]
    refine qk_mono (q_ad_7 T10 kv0 wM b0 b1 (by rw [e10, hy]; lia)) ?_
    rintro hz ⟨g1, g3, g4⟩
    refine ⟨g1, fun a k => by rw [g3, i10, i7], fun a j j0 ja => ?_⟩
    rw [g4 a j j0 ja, e10, hy, a10 a j j0, a7 a j j0, if_neg (c := a = v0 + 3 ∧ _) (fun z => ja z.1)]; split
    · grind
    · rfl
theorem p_Mod_measure {L : q_L} {W : Nat → Prop} {h0 : z_H} {π : Nat → Nat → Option Nat} {N : Nat} {h : z_H} {v0 : Int64} {v2 : Int32} (T : q_U L W h0 π h) (hN : 100000 ≤ N) : qk (f_Mod_measure N v0 v2 h) (fun r => r.2 = h ∧ (r.1 = if q_okc v0 v2 8 = 1 then q_cn v0 8 else -1)) := ⟨_, q_measure hN v0 v2 h, rfl, rfl⟩
theorem p_Mod_addTo {L : q_L} {W : Nat → Prop} {h0 : z_H} {π : Nat → Nat → Option Nat} {N : Nat} {h : z_H} {v0 : Nat} {v1 : Int32} {v2 : Int64} (T : q_U L W h0 π h) (kv0 : q_M L π v0) (wM : ∀ a, v0 ≤ a → a < v0 + 46 → W a) (b0 : 0 ≤ v1) (b1 : v1 < 12) (rm : vA h (v0 + 2) v1 + q_cn v2 8 ≤ 24) (hN : 100000 ≤ N) : qk (f_Mod_addTo N v0 v1 v2 h) (fun r => q_U L W h0 π r ∧ (∀ a k, vI r a k = vI h a k) ∧ (∀ a j, 0 ≤ j → a ≠ v0 + 3 → vA r a j = if a = v0 + 2 ∧ j = v1 then vA h (v0 + 2) v1 + q_cn v2 8 else vA h a j)) := by
  obtain ⟨n, rfl⟩ : ∃ n, N = n + 9 := ⟨N - 9, by omega⟩
  exact q_ad_8 T kv0 wM b0 b1 rm
theorem p_Mod_script_43 {L : q_L} {W : Nat → Prop} {h0 : z_H} {π : Nat → Nat → Option Nat} {N : Nat} {h : z_H} {v0 : Nat} {v1 : Int64} (T : q_U L W h0 π h) (kv0 : q_M L π v0) (wM : ∀ a, v0 ≤ a → a < v0 + 46 → W a) (ok : q_okc v1 1 8 = 1) (rm : vI h v0 3 + q_cn v1 8 ≤ 240) (hN : 100000 ≤ N) : qk (f_Mod_script_43 N N v0 v1 56 h) (fun r => q_U L W h0 π r.2 ∧ r.1 = vI h v0 3 + q_cn v1 8 ∧ (∀ a k, vI r.2 a k = if a = v0 ∧ k = 3 then vI h v0 3 + q_cn v1 8 else vI h a k) ∧ (∀ a j, 0 ≤ j → a ≠ v0 + 1 → vA r.2 a j = vA h a j)) := by
  obtain ⟨n, rfl⟩ : ∃ n, N = n + 9 := ⟨N - 9, by omega⟩
  exact q_sc_8 T kv0 wM ok rm
