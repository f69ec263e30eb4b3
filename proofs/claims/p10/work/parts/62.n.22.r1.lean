/-! reference: telling -/
theorem x_sl_u {f f' : Int32 → Int32} {m x : Int32} (m0 : 0 ≤ m) (m1 : m < 2000000) (u : ∀ j, 0 ≤ j → f' j = if j = m then x else f j) : x_sl f' 0 (m + 1) = x_sl f 0 m ++ [x] := by
  rw [x_sl_q m0 (Int32.le_refl 0) m1, u m m0, if_pos rfl]
  congr 1
  refine x_sl_e (Int32.le_refl 0) m0 (fun j j0 jn => ?_)
  rw [u j j0, if_neg (by lia)]
/-- a text of the reference: its length in the field k, its characters in the row a -/
def r_l (h : z_H) (v0 k a : Nat) : List Int32 := x_sl (vA h (v0 + a)) 0 (vI h v0 k)
theorem r_l_c {h h' : z_H} {v0 k a : Nat} (e : vI h' v0 k = vI h v0 k) (e1 : h' (v0 + a) = h (v0 + a)) : r_l h' v0 k a = r_l h v0 k a := by unfold r_l; rw [e, x_vA_c e1]
theorem r_l_len {h : z_H} {v0 k a : Nat} : (r_l h v0 k a).length = x_ct 0 (vI h v0 k) := x_sl_len
section RT
variable {L : q_L} {π : Nat → Nat → Option Nat} {N v0 : Nat} {h : z_H}
theorem y_full (T : x_U L π h) (M : q_M L π v0) : qi (f_Mod_full N v0 h) (fun r => r.1 = 0 ∧ x_U L π r.2 ∧ (∀ b, b ≠ v0 → r.2 b = h b) ∧ ∀ k, vI r.2 v0 k = if k = 76 then 1 else if k = 6 then 2 else vI h v0 k) := by
  unfold f_Mod_full
  refine l_sIc T M.1 (by decide) rfl ?_
  intro h1 T1 c1 u1
  refine l_sIc T1 M.1 (by decide) rfl ?_
  intro h2 T2 c2 u2
  exact qi_some ⟨rfl, T2, fun b hb => (c2 b hb).trans (c1 b hb), fun k => by rw [u2 k, u1 k]⟩
theorem y_tell24 (M : q_M L π v0) {n w : Int32} {O : List Int32} {W : Int32 → Int32} (n0 : 0 ≤ n) (n1 : n ≤ 600) (w0 : 0 ≤ w) (w1 : w ≤ 600) : ∀ (m : Nat) (i : Int32) (h : z_H), x_U L π h → vI h v0 69 = n → vI h v0 67 = w → vA h (v0 + 41) = W → 0 ≤ i → i ≤ w → x_sl (vA h (v0 + 43)) 0 (n + i) = O ++ x_sl W 0 i → qi (f_Mod_tell_24 N m v0 i h) (fun r => r.1 = 1 ∧ x_U L π r.2 ∧ (∀ b, b ≠ v0 → b ≠ v0 + 43 → r.2 b = h b) ∧ (∀ k, k ≠ 69 → vI r.2 v0 k = vI h v0 k) ∧ vI r.2 v0 69 = n + (w + 1) ∧ r_l r.2 v0 69 43 = O ++ x_sl W 0 w ++ [10]) := by
  intro m
  induction m with
  | zero => intro i h T e1 e2 e3 i0 iw I r e; rw [f_Mod_tell_24] at e; cases e
  | succ m ih =>
    intro i h T e1 e2 e3 i0 iw I
    rw [f_Mod_tell_24]
    refine l_gI (e := w) e2 ?_
    refine qi_if (fun c => ?_) (fun c => ?_)
    · have ei : i = w := Int32.le_antisymm iw c
      subst ei
      refine l_gR T (d_Mo_62 M) (l_gI (e := n) e1 (l_gI (e := i) e2 (l_uIc T ?_)))
      intro h1 T1 j1 c1 u1
      refine l_gI (e := n) (by rw [x_vI_c (c1 v0 (by omega)), e1]) (l_gI (e := i) (by rw [x_vI_c (c1 v0 (by omega)), e2]) (l_sIc T1 M.1 (by decide) rfl ?_))
      intro h2 T2 c2 u2
      have e69 : vI h2 v0 69 = n + (i + 1) := by rw [u2 69, if_pos rfl]
      refine qi_some ⟨rfl, T2, fun b b1 b2 => (c2 b b1).trans (c1 b b2), fun k hk => by rw [u2 k, if_neg hk, x_vI_c (c1 v0 (by omega))], e69, ?_⟩
      unfold r_l
      rw [e69, x_vA_c (c2 (v0 + 43) (by omega)), show n + (i + 1) = n + i + 1 from by grind, x_sl_u (by lia) (by lia) u1, I]
    · have cl := Int32.not_le.mp c
      refine l_gR T (d_Mo_62 M) (l_gI (e := n) e1 (l_gR T (d_Mo_60 M) (l_aI (e := W i) (fun _ => by rw [e3]) (fun _ => l_uIc T ?_))))
      intro h1 T1 j1 c1 u1
      refine qi_bs (qi_mono (ih (i + 1) h1 T1 (by rw [x_vI_c (c1 v0 (by omega)), e1]) (by rw [x_vI_c (c1 v0 (by omega)), e2]) (by rw [x_vA_c (c1 (v0 + 41) (by omega)), e3]) (by lia) (by lia) ?_) ?_)
      · rw [show n + (i + 1) = n + i + 1 from by grind, x_sl_u (by lia) (by lia) u1, I, x_sl_q i0 (Int32.le_refl 0) (by lia), List.append_assoc]
      · rintro r ⟨t1, t2, t3, t4, t5, t6⟩
        exact ⟨t1, t2, fun b b1 b2 => (t3 b b1 b2).trans (c1 b b2), fun k hk => by rw [t4 k hk, x_vI_c (c1 v0 (by omega))], t5, t6⟩
/-- what tell of the reference leaves -/
def y_TR (L : q_L) (π : Nat → Nat → Option Nat) (v0 : Nat) (h : z_H) (O W : List Int32) (r : Int32 × z_H) : Prop := x_U L π r.2 ∧ (∀ b, b ≠ v0 → b ≠ v0 + 43 → r.2 b = h b) ∧ (∀ k, k ≠ 69 → k ≠ 76 → k ≠ 6 → vI r.2 v0 k = vI h v0 k) ∧ (0 ≤ vI r.2 v0 69 ∧ vI r.2 v0 69 ≤ 600) ∧ ((r.1 = 1 ∧ O.length + W.length + 1 ≤ 600 ∧ r_l r.2 v0 69 43 = O ++ W ++ [10] ∧ vI r.2 v0 76 = vI h v0 76 ∧ vI r.2 v0 6 = vI h v0 6) ∨ (r.1 = 0 ∧ ¬ O.length + W.length + 1 ≤ 600 ∧ r_l r.2 v0 69 43 = O ∧ vI r.2 v0 76 = 1 ∧ vI r.2 v0 6 = 2))
theorem y_tellM (T : x_U L π h) (M : q_M L π v0) (n0 : 0 ≤ vI h v0 69) (n1 : vI h v0 69 ≤ 600) (w0 : 0 ≤ vI h v0 67) (w1 : vI h v0 67 ≤ 400) : qi (f_Mod_tell N v0 h) (y_TR L π v0 h (r_l h v0 69 43) (r_l h v0 67 41)) := by
  have C : ((vI h v0 69 + vI h v0 67) + 1 ≤ 600) ↔ (r_l h v0 69 43).length + (r_l h v0 67 41).length + 1 ≤ 600 := by
    rw [r_l_len, r_l_len]
    have q1 := x_ct_t n0 (Int32.le_refl 0)
    have q2 := x_ct_t w0 (Int32.le_refl 0)
    have z : (0 : Int32).toInt = 0 := rfl
    have z6 : (600 : Int32).toInt = 600 := rfl
    rw [z] at q1 q2
    have e1 : (vI h v0 69 + vI h v0 67).toInt = (vI h v0 69).toInt + (vI h v0 67).toInt := by
      have a1 := Int32.le_iff_toInt_le.mp n0
      have a2 := Int32.le_iff_toInt_le.mp n1
      have a3 := Int32.le_iff_toInt_le.mp w0
      have a4 := Int32.le_iff_toInt_le.mp w1
      have z4 : (400 : Int32).toInt = 400 := rfl
      rw [z] at a1 a3
      rw [z6] at a2
      rw [z4] at a4
      rw [Int32.toInt_add]; exact Int.bmod_eq_of_le_mul_two (by omega) (by omega)
    rw [Int32.le_iff_toInt_le, x_ti_1 (by lia) (by lia), e1, z6]
    omega
  unfold f_Mod_tell
  refine l_gI (e := vI h v0 69) rfl (l_gI (e := vI h v0 67) rfl ?_)
  refine qi_if (fun c => ?_) (fun c => ?_)
  · refine qi_mono (y_tell24 (N := N) M (O := r_l h v0 69 43) (W := vA h (v0 + 41)) n0 n1 w0 (by lia) N 0 h T rfl rfl rfl (by decide) w0 ?_) ?_
    · rw [Int32.add_zero, x_sl_0 (Int32.le_refl _) (by decide) (by decide), List.append_nil]; rfl
    · rintro r ⟨t1, t2, t3, t4, t5, t6⟩
      exact ⟨t2, t3, fun k k1 _ _ => t4 k k1, by rw [t5]; constructor <;> lia, Or.inl ⟨t1, C.mp c, t6, t4 76 (by decide), t4 6 (by decide)⟩⟩
  · refine l_gO (qi_b (y_full (N := N) T M) ?_)
    rintro ⟨y, h1⟩ ⟨t1, t2, t3, t4⟩
    dsimp only at t1 t2 t3 t4 ⊢
    rw [t1]
    refine qi_zB (fun _ => qi_some ⟨t2, fun b b1 _ => t3 b b1, fun k k1 k2 k3 => by rw [t4 k, if_neg k2, if_neg k3], ?_, Or.inr ⟨rfl, fun z => c (C.mpr z), ?_, ?_, ?_⟩⟩)
    · show 0 ≤ vI h1 v0 69 ∧ vI h1 v0 69 ≤ 600
      rw [t4 69, if_neg (by decide), if_neg (by decide)]; exact ⟨n0, n1⟩
    · exact r_l_c (by rw [t4 69, if_neg (by decide), if_neg (by decide)]) (t3 (v0 + 43) (by omega))
    · show vI h1 v0 76 = 1
      rw [t4 76, if_pos rfl]
    · show vI h1 v0 6 = 2
      rw [t4 6, if_neg (by decide), if_pos rfl]
end RT
