/-! class and reference: items take the same characters -/
theorem x_lg0 {x y : Int64} : lg_cmp x y = 0 ↔ x = y := lg_cmp_eq x y
theorem x_tk44 {N : Nat} {h : z_H} {w : Int64} {k : Int32} (k0 : 0 ≤ k) (k1 : k < 64) : qi (f_It_takes_44 N ((Int64.toUInt64 w >>> (Int64.toUInt64 (Int32.toInt64 k) &&& Int64.toUInt64 63)).toInt64) h) (fun r => r.1 = if x_bt w k = true then 1 else 0) := by
  unfold f_It_takes_44
  have e := x_bt_u (w := w) k0 k1
  refine qi_if (fun q => qi_some ?_) (fun q => qi_some ?_)
  · have z := x_an8.1.mp (x_lg0.mp q)
    rw [e] at z
    show (0 : Int32) = _
    rw [z]
    rfl
  · have z : x_bt w k = true := by
      cases hb : x_bt w k with
      | true => rfl
      | false => exact absurd (x_lg0.mpr (x_an8.1.mpr (e.trans hb))) q
    show (1 : Int32) = _
    rw [z]
    rfl
theorem x_tf65 {N : Nat} {h : z_H} {w : Int64} {k : Int32} (k0 : 0 ≤ k) (k1 : k < 64) : qi (f_Mod_fits_65 N (w >>> (Int32.toInt64 k &&& 63)) h) (fun r => r.1 = if x_bt w k = true then 1 else 0) := by
  unfold f_Mod_fits_65
  have e := x_bt_s (w := w) k0 k1
  refine qi_if (fun q => qi_some ?_) (fun q => qi_some ?_)
  · have z := x_an8.2.mp (x_lg0.mp q)
    rw [e] at z
    show (1 : Int32) = _
    rw [z]
    rfl
  · have z : x_bt w k = false := by
      cases hb : x_bt w k with
      | false => rfl
      | true => exact absurd (x_lg0.mpr (x_an8.2.mpr (e.trans hb))) q
    show (0 : Int32) = _
    rw [z]
    rfl
section U1
variable {L : q_L} {π : Nat → Nat → Option Nat} {N it v0 : Nat} {h h0 : z_H} {i c : Int32} {W : Nat → Prop}
theorem x_tk_q (T : x_U L π h) (k : qκ L it = 5) (kc : x_kc c) : qi (f_It_takes N it i c h) (fun r => r.1 = if x_mb (vL h (it + 3) i) (vL h (it + 4) i) c = true then 1 else 0) := by
  unfold f_It_takes x_mb
  refine qi_if (fun q => ?_) (fun q => ?_)
  · rw [if_pos q]
    unfold f_It_takes_15
    refine qi_if (fun _ => ?_) (fun z => absurd (by decide) z)
    refine l_gR T (d_It_3 T k) ?_
    refine l_aLc (e := vL h (it + 4) i) rfl (fun _ => ?_)
    exact x_tk44 (k := 31) (by decide) (by decide)
  · rw [if_neg q]
    obtain ⟨c0, c1⟩ := kc.resolve_left q
    unfold f_It_takes_15
    refine qi_if (fun z => ?_) (fun z => ?_)
    · refine l_gR T (d_It_3 T k) ?_
      refine l_aLc (e := vL h (it + 4) i) rfl (fun _ => ?_)
      rw [if_pos (show 96 ≤ c by lia), show c - 32 - 64 = c - 96 by lia]
      exact x_tk44 (by lia) (by lia)
    · refine l_gR T (d_It_2 T k) ?_
      refine l_aLc (e := vL h (it + 3) i) rfl (fun _ => ?_)
      rw [if_neg (show ¬ 96 ≤ c by lia)]
      exact x_tk44 (by lia) (by lia)
theorem x_tf_q (T : x_U L π h) (M : q_M L π v0) (kc : x_kc c) : qi (f_Mod_fits N v0 i c h) (fun r => r.1 = if r_tb h v0 i c = true then 1 else 0) := by
  have c127 : 0 ≤ c ∧ c ≤ 126 := by
    rcases kc with z | ⟨z1, z2⟩
    · rw [z]; exact ⟨by decide, by decide⟩
    · exact ⟨Int32.le_trans (by decide) z1, z2⟩
  obtain ⟨c0, c1⟩ := c127
  unfold f_Mod_fits r_tb
  refine l_gR T (d_Mo_31 M) ?_
  refine l_aI (e := vA h (v0 + 26) i) (fun _ => rfl) (fun _ => ?_)
  refine qi_if (fun q => qi_some ?_) (fun q => ?_)
  · rw [if_pos q]; rfl
  · rw [if_neg q]
    refine l_gR T (d_Mo_31 M) ?_
    refine l_aI (e := vA h (v0 + 26) i) (fun _ => rfl) (fun _ => ?_)
    refine qi_if (fun q2 => ?_) (fun q2 => ?_)
    · rw [if_pos q2]
      refine l_gR T (d_Mo_32 M) ?_
      refine l_aI (e := vA h (v0 + 27) i) (fun _ => rfl) (fun _ => ?_)
      refine qi_if (fun q3 => qi_some ?_) (fun q3 => qi_some ?_)
      · show (1 : Int32) = _
        rw [decide_eq_true q3]
        rfl
      · show (0 : Int32) = _
        rw [decide_eq_false q3]
        rfl
    · rw [if_neg q2]
      unfold x_mr
      refine qi_if (fun z => ?_) (fun z => ?_)
      · rw [if_pos z]
        refine l_gR T (d_Mo_38 M) ?_
        refine l_aLc (e := vL h (v0 + 33) i) rfl (fun _ => ?_)
        exact x_tf65 (by lia) (by lia)
      · rw [if_neg z]
        refine l_gR T (d_Mo_37 M) ?_
        refine l_aLc (e := vL h (v0 + 32) i) rfl (fun _ => ?_)
        exact x_tf65 c0 (Int32.not_le.mp z)
theorem x_tk_v (T : q_U L W h0 π h) (k : qκ L it = 5) (b0 : 0 ≤ i) (b1 : i < 240) (kc : x_kc c) : x_tk h it i c = if x_mb (vL h (it + 3) i) (vL h (it + 4) i) c = true then 1 else 0 := by
  obtain ⟨r, e, -⟩ := p_It_takes (N := 0) (v2 := c) T k b0 b1
  have z := x_tk_q (x_U_of T) k kc r e
  have w := (x_tk_s e).1
  rw [← z, w]
theorem x_tf_v (T : q_U L W h0 π h) (M : q_M L π v0) (b0 : 0 ≤ i) (b1 : i < 520) (kc : x_kc c) : x_tf h v0 i c = if r_tb h v0 i c = true then 1 else 0 := by
  obtain ⟨r, e, -⟩ := p_Mod_fits (N := 0) (v2 := c) T M b0 b1
  have z := x_tf_q (x_U_of T) M kc r e
  have w := (x_tf_s e).1
  rw [← z, w]
end U1
