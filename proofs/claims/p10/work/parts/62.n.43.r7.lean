/-! reference: H, G, a, y -/
theorem x_rmm {a b : Int32} {X Y : List Int32} (a0 : 0 ≤ a) (a1 : a ≤ 60) (b0 : 0 ≤ b) (b1 : b ≤ 60) (ha : X.length = x_ct 0 a) (hb : Y.length = x_ct 0 b) : (a + b + 1 ≤ 60) ↔ X.length + Y.length + 1 ≤ 60 := by
  have RM := x_rm (a := 0) a0 a1 (by decide : (60 : Int32) ≤ 1000) (Int32.le_refl 0) b0 (by lia)
  rw [← ha, ← hb, show x_ct 0 60 = 60 from by decide] at RM
  rw [← RM]
  constructor <;> intro _ <;> lia
section R7
variable {L : q_L} {π : Nat → Nat → Option Nat} {N v0 : Nat} {h h1 : z_H} {O S H A : List Int32} {lc rd cy rp sm nx : Int32}
theorem r_fullP {y : Int32} {h2 : z_H} (s : r_S L π v0 h O S H A) (n : r_N h v0 rd cy rp sm) (t2 : x_U L π h2) (t3 : ∀ b, b ≠ v0 → h2 b = h b) (t4 : ∀ k, vI h2 v0 k = if k = 76 then 1 else if k = 6 then 2 else vI h v0 k) : r_P L π v0 h (0, O, S, H, A, rd, cy, rp, sm, nx, 0) y h2 := by
  obtain ⟨⟨T, M⟩, a1, a2, a3, a4⟩ := id s
  have J : ∀ k, k ≠ 76 → k ≠ 6 → vI h2 v0 k = vI h v0 k := fun k k1 k2 => by rw [t4 k, if_neg k1, if_neg k2]
  exact r_P0 n ⟨fun a _ hn => t3 a hn, fun k hk hn => J k (by omega) hn⟩ (fun k hk hn => J k hn (by omega)) ⟨⟨t2, M⟩, r_R1_c a1 (J 69 (by decide) (by decide)) (t3 _ (by omega)), r_R1_c a2 (J 65 (by decide) (by decide)) (t3 _ (by omega)), r_R1_c a3 (J 66 (by decide) (by decide)) (t3 _ (by omega)), r_R1_c a4 (J 68 (by decide) (by decide)) (t3 _ (by omega))⟩ ⟨by rw [t4 76, if_pos rfl], by rw [t4 6]; rfl⟩
/-- H -/
theorem r_pH (s : r_S L π v0 h O S H A) (n : r_N h v0 rd cy rp sm) : qi (f_Mod_holds N v0 72 h) (fun r => r_P L π v0 h (if H.length + S.length + 1 ≤ 60 then (1, O, S, H ++ [10] ++ S, A, rd, cy, rp, sm, nx, 0) else (0, O, S, H, A, rd, cy, rp, sm, nx, 0)) nx r.2) := by
  obtain ⟨⟨T, M⟩, a1, a2, a3, a4⟩ := id s
  have p0 := a2.2.1.1
  have p1 := a2.2.1.2
  have q0 := a3.2.1.1
  have q1 := a3.2.1.2
  have RM := x_rmm p0 p1 q0 q1 (r_R1_len a2) (r_R1_len a3)
  unfold f_Mod_holds
  rw [if_neg (by decide), if_neg (by decide), if_neg (by decide)]
  refine l_gI (e := vI h v0 65) rfl (l_gI (e := vI h v0 66) rfl ?_)
  refine qi_if (fun c => ?_) (fun c => ?_)
  · have rm := RM.mp c
    rw [if_pos (show H.length + S.length + 1 ≤ 60 from by omega)]
    rw [if_pos rfl]
    refine l_gR T (d_Mo_59 M) (l_gI (e := vI h v0 66) rfl (l_uIc T ?_))
    intro h3 T3 j3 c3 u3
    have LOOP : ∀ (m : Nat) (i : Int32) (h1 : z_H), x_U L π h1 → (∀ b, b ≠ v0 + 40 → h1 b = h b) → 0 ≤ i → i ≤ vI h v0 65 → x_sl (vA h1 (v0 + 40)) 0 (vI h v0 66 + 1 + i) = H ++ [10] ++ x_sl (vA h (v0 + 39)) 0 i → qi (f_Mod_holds_197 N m v0 i h1) (fun r => r_P L π v0 h (1, O, S, H ++ [10] ++ S, A, rd, cy, rp, sm, nx, 0) nx r.2) := by
      intro m
      induction m with
      | zero => intro i h1 _ _ _ _ _ r e; rw [f_Mod_holds_197] at e; cases e
      | succ m ih =>
        intro i h1 T1 F i0 i1 EQ
        have V : ∀ k, vI h1 v0 k = vI h v0 k := fun k => x_vI_c (F v0 (by omega))
        rw [f_Mod_holds_197]
        refine l_gI (e := vI h v0 65) (V 65) ?_
        refine qi_if (fun c => ?_) (fun c => ?_)
        · have ei : i = vI h v0 65 := Int32.le_antisymm i1 c
          refine l_gI (e := vI h v0 66) (V 66) (l_gI (e := vI h v0 65) (V 65) (l_sIc T1 M.1 (by decide) rfl ?_))
          intro h2 T2 c2 u2
          have J : ∀ k, k ≠ 66 → vI h2 v0 k = vI h v0 k := fun k hk => by rw [u2 k, if_neg hk, V]
          have C : ∀ b, b ≠ v0 → b ≠ v0 + 40 → h2 b = h b := fun b b1 b2 => (c2 b b1).trans (F b b2)
          have e66 : vI h2 v0 66 = vI h v0 66 + (vI h v0 65 + 1) := by rw [u2 66, if_pos rfl]
          refine qi_some (r_P1 n ⟨fun a ha hn => C a hn (by omega), fun k hk hn => J k (by omega)⟩ (fun k hk hn => J k (by omega)) ⟨⟨T2, M⟩, r_R1_c a1 (J 69 (by decide)) (C _ (by omega) (by omega)), r_R1_c a2 (J 65 (by decide)) (C _ (by omega) (by omega)), ⟨?_, ?_, x_kt_a (x_kt_a a3.2.2 (x_kt_1 x_kc10)) a2.2.2⟩, r_R1_c a4 (J 68 (by decide)) (C _ (by omega) (by omega))⟩ ⟨J 76 (by decide), J 6 (by decide)⟩)
          · unfold r_l
            rw [e66, x_vA_c (c2 (v0 + 40) (by omega)), show vI h v0 66 + (vI h v0 65 + 1) = vI h v0 66 + 1 + vI h v0 65 from by grind, ← ei, EQ, ei]
            congr 1
            exact a2.1
          · rw [e66]; constructor <;> lia
        · have cl := Int32.not_le.mp c
          refine l_gR T1 (d_Mo_59 M) (l_gI (e := vI h v0 66) (V 66) (l_gR T1 (d_Mo_58 M) (l_aI (e := vA h (v0 + 39) i) (fun _ => by rw [x_vA_c (F (v0 + 39) (by omega))]) (fun _ => l_uIc T1 ?_))))
          intro h2 T2 j2 c2 u2
          refine qi_bs (ih (i + 1) h2 T2 (fun b hb => (c2 b hb).trans (F b hb)) (by lia) (by lia) ?_)
          rw [show vI h v0 66 + 1 + (i + 1) = vI h v0 66 + 1 + i + 1 from by grind, x_sl_u (by lia) (by lia) u2, EQ, x_sl_q i0 (Int32.le_refl 0) (by lia), List.append_assoc]
    refine LOOP N 0 h3 T3 c3 (Int32.le_refl 0) p0 ?_
    rw [Int32.add_zero, x_sl_u q0 (by lia) u3, x_sl_0 (Int32.le_refl 0) (by decide) (by decide), List.append_nil]
    congr 1
    exact a3.1
  · rw [if_neg (fun z => c (RM.mpr (by omega)))]
    refine l_gO (qi_b (y_full (N := N) T M) ?_)
    rintro ⟨y, h2⟩ ⟨t1, t2, t3, t4⟩
    dsimp only at t1 t2 t3 t4 ⊢
    exact qi_zB (fun _ => qi_some (r_fullP s n t2 t3 t4))
/-- G -/
theorem r_pG (s : r_S L π v0 h O S H A) (n : r_N h v0 rd cy rp sm) : qi (f_Mod_holds N v0 71 h) (fun r => r_P L π v0 h (if S.length + H.length + 1 ≤ 60 then (1, O, S ++ [10] ++ H, H, A, rd, cy, rp, sm, nx, 0) else (0, O, S, H, A, rd, cy, rp, sm, nx, 0)) nx r.2) := by
  obtain ⟨⟨T, M⟩, a1, a2, a3, a4⟩ := id s
  have p0 := a2.2.1.1
  have p1 := a2.2.1.2
  have q0 := a3.2.1.1
  have q1 := a3.2.1.2
  have RM := x_rmm p0 p1 q0 q1 (r_R1_len a2) (r_R1_len a3)
  unfold f_Mod_holds
  rw [if_neg (by decide), if_neg (by decide), if_neg (by decide)]
  refine l_gI (e := vI h v0 65) rfl (l_gI (e := vI h v0 66) rfl ?_)
  refine qi_if (fun c => ?_) (fun c => ?_)
  · rw [if_pos (RM.mp c)]
    rw [if_neg (by decide)]
    refine l_gR T (d_Mo_58 M) (l_gI (e := vI h v0 65) rfl (l_uIc T ?_))
    intro h3 T3 j3 c3 u3
    have LOOP : ∀ (m : Nat) (i : Int32) (h1 : z_H), x_U L π h1 → (∀ b, b ≠ v0 + 39 → h1 b = h b) → 0 ≤ i → i ≤ vI h v0 66 → x_sl (vA h1 (v0 + 39)) 0 (vI h v0 65 + 1 + i) = S ++ [10] ++ x_sl (vA h (v0 + 40)) 0 i → qi (f_Mod_holds_261 N m v0 i h1) (fun r => r_P L π v0 h (1, O, S ++ [10] ++ H, H, A, rd, cy, rp, sm, nx, 0) nx r.2) := by
      intro m
      induction m with
      | zero => intro i h1 _ _ _ _ _ r e; rw [f_Mod_holds_261] at e; cases e
      | succ m ih =>
        intro i h1 T1 F i0 i1 EQ
        have V : ∀ k, vI h1 v0 k = vI h v0 k := fun k => x_vI_c (F v0 (by omega))
        rw [f_Mod_holds_261]
        refine l_gI (e := vI h v0 66) (V 66) ?_
        refine qi_if (fun c => ?_) (fun c => ?_)
        · have ei : i = vI h v0 66 := Int32.le_antisymm i1 c
          refine l_gI (e := vI h v0 65) (V 65) (l_gI (e := vI h v0 66) (V 66) (l_sIc T1 M.1 (by decide) rfl ?_))
          intro h2 T2 c2 u2
          have J : ∀ k, k ≠ 65 → vI h2 v0 k = vI h v0 k := fun k hk => by rw [u2 k, if_neg hk, V]
          have C : ∀ b, b ≠ v0 → b ≠ v0 + 39 → h2 b = h b := fun b b1 b2 => (c2 b b1).trans (F b b2)
          have e66 : vI h2 v0 65 = vI h v0 65 + (vI h v0 66 + 1) := by rw [u2 65, if_pos rfl]
          refine qi_some (r_P1 n ⟨fun a ha hn => C a hn (by omega), fun k hk hn => J k (by omega)⟩ (fun k hk hn => J k (by omega)) ⟨⟨T2, M⟩, r_R1_c a1 (J 69 (by decide)) (C _ (by omega) (by omega)), ⟨?_, ?_, x_kt_a (x_kt_a a2.2.2 (x_kt_1 x_kc10)) a3.2.2⟩, r_R1_c a3 (J 66 (by decide)) (C _ (by omega) (by omega)), r_R1_c a4 (J 68 (by decide)) (C _ (by omega) (by omega))⟩ ⟨J 76 (by decide), J 6 (by decide)⟩)
          · unfold r_l
            rw [e66, x_vA_c (c2 (v0 + 39) (by omega)), show vI h v0 65 + (vI h v0 66 + 1) = vI h v0 65 + 1 + vI h v0 66 from by grind, ← ei, EQ, ei]
            congr 1
            exact a3.1
          · rw [e66]; constructor <;> lia
        · have cl := Int32.not_le.mp c
          refine l_gR T1 (d_Mo_58 M) (l_gI (e := vI h v0 65) (V 65) (l_gR T1 (d_Mo_59 M) (l_aI (e := vA h (v0 + 40) i) (fun _ => by rw [x_vA_c (F (v0 + 40) (by omega))]) (fun _ => l_uIc T1 ?_))))
          intro h2 T2 j2 c2 u2
          refine qi_bs (ih (i + 1) h2 T2 (fun b hb => (c2 b hb).trans (F b hb)) (by lia) (by lia) ?_)
          rw [show vI h v0 65 + 1 + (i + 1) = vI h v0 65 + 1 + i + 1 from by grind, x_sl_u (by lia) (by lia) u2, EQ, x_sl_q i0 (Int32.le_refl 0) (by lia), List.append_assoc]
    refine LOOP N 0 h3 T3 c3 (Int32.le_refl 0) q0 ?_
    rw [Int32.add_zero, x_sl_u p0 (by lia) u3, x_sl_0 (Int32.le_refl 0) (by decide) (by decide), List.append_nil]
    congr 1
    exact a2.1
  · rw [if_neg (fun z => c (RM.mpr z))]
    refine l_gO (qi_b (y_full (N := N) T M) ?_)
    rintro ⟨y, h2⟩ ⟨t1, t2, t3, t4⟩
    dsimp only at t1 t2 t3 t4 ⊢
    exact qi_zB (fun _ => qi_some (r_fullP s n t2 t3 t4))
/-- a -/
theorem r_pa {q fr to : Int32} (s : r_S L π v0 h O S H A) (n : r_N h v0 rd cy rp sm) (hf : vA h (v0 + 10) q = fr) (ht : vA h (v0 + 11) q = to) (f0 : 0 ≤ fr) (ab : fr ≤ to) (f6 : to ≤ 600) (kc : ∀ j, fr ≤ j → j < to → x_kc (vA h (v0 + 28) j)) : qi (f_Mod_append N v0 q h) (fun r => r_P L π v0 h (x_aE (x_sl (vA h (v0 + 28)) fr to) O S H A rd cy rp sm nx) nx r.2) := by
  obtain ⟨⟨T, M⟩, a1, a2, a3, a4⟩ := id s
  have p0 := a4.2.1.1
  have p1 := a4.2.1.2
  have RM := x_rm p0 p1 (by decide : (200 : Int32) ≤ 1000) f0 ab (by lia)
  rw [← r_R1_len a4, show x_ct 0 200 = 200 from by decide] at RM
  have RC : (vI h v0 68 + (to - fr + 1) ≤ 200) ↔ A.length + x_ct fr to + 1 ≤ 200 := by
    rw [← RM]
    constructor <;> intro _ <;> lia
  unfold f_Mod_append x_aE
  rw [x_sl_len]
  refine l_gR T (d_Mo_16 M) (l_aI (e := to) (fun _ => ht) (fun _ => l_gR T (d_Mo_15 M) (l_aI (e := fr) (fun _ => hf) (fun _ => qi_bs (l_gI (e := vI h v0 68) rfl ?_)))))
  refine qi_if (fun c => ?_) (fun c => ?_)
  · rw [if_pos (RC.mp c)]
    refine l_gR T (d_Mo_15 M) (l_aI (e := fr) (fun _ => hf) (fun _ => ?_))
    have LOOP : ∀ (m : Nat) (k : Int32) (h1 : z_H), x_U L π h1 → (∀ b, b ≠ v0 → b ≠ v0 + 42 → h1 b = h b) → (∀ k, k ≠ 68 → vI h1 v0 k = vI h v0 k) → fr ≤ k → k ≤ to → vI h1 v0 68 = vI h v0 68 + (k - fr) → r_l h1 v0 68 42 = A ++ x_sl (vA h (v0 + 28)) fr k → qi (f_Mod_append_40 N m v0 q k h1) (fun r => r_P L π v0 h (1, O, S, H, A ++ x_sl (vA h (v0 + 28)) fr to ++ [10], rd, cy, rp, sm, nx, 0) nx r.2) := by
      intro m
      induction m with
      | zero => intro k h1 _ _ _ _ _ _ _ r e; rw [f_Mod_append_40] at e; cases e
      | succ m ih =>
        intro k h1 T1 F I k0 k1 e68 EQ
        rw [f_Mod_append_40]
        refine l_gR T1 (d_Mo_16 M) (l_aI (e := to) (fun _ => by rw [x_vA_c (F (v0 + 11) (by omega) (by omega)), ht]) (fun _ => ?_))
        have PUSH : ∀ (h2 h3 : z_H) (x : Int32), (∀ b, b ≠ v0 → h2 b = h1 b) → (∀ k', vI h2 v0 k' = if k' = 68 then vI h1 v0 68 + 1 else vI h1 v0 k') → (∀ b, b ≠ v0 + 42 → h3 b = h2 b) → (∀ j, 0 ≤ j → vA h3 (v0 + 42) j = if j = vI h1 v0 68 then x else vA h2 (v0 + 42) j) → r_l h3 v0 68 42 = A ++ x_sl (vA h (v0 + 28)) fr k ++ [x] ∧ vI h3 v0 68 = vI h1 v0 68 + 1 := by
          intro h2 h3 x c2 u2 c3 u3
          have e3 : vI h3 v0 68 = vI h1 v0 68 + 1 := by rw [x_vI_c (c3 v0 (by omega)), u2 68, if_pos rfl]
          refine ⟨?_, e3⟩
          unfold r_l
          rw [e3, x_sl_u (by rw [e68]; lia) (by rw [e68]; lia) u3, x_vA_c (c2 (v0 + 42) (by omega))]
          unfold r_l at EQ
          rw [EQ]
        refine qi_if (fun c => ?_) (fun c => ?_)
        · have ek : k = to := Int32.le_antisymm k1 c
          subst ek
          refine l_gR T1 (d_Mo_61 M) (l_gI (e := vI h1 v0 68) rfl (l_sIc T1 M.1 (by decide) rfl ?_))
          intro h2 T2 c2 u2
          refine l_uIc T2 ?_
          intro h3 T3 j3 c3 u3
          obtain ⟨P1, P2⟩ := PUSH h2 h3 10 c2 u2 c3 u3
          have J : ∀ k', k' ≠ 68 → vI h3 v0 k' = vI h v0 k' := fun k' hk => by rw [x_vI_c (c3 v0 (by omega)), u2 k', if_neg hk, I k' hk]
          have C : ∀ b, b ≠ v0 → b ≠ v0 + 42 → h3 b = h b := fun b b1 b2 => (c3 b b2).trans ((c2 b b1).trans (F b b1 b2))
          refine qi_some (r_P1 n ⟨fun a ha hn => C a hn (by omega), fun k hk hn => J k (by omega)⟩ (fun k hk hn => J k (by omega)) ⟨⟨T3, M⟩, r_R1_c a1 (J 69 (by decide)) (C _ (by omega) (by omega)), r_R1_c a2 (J 65 (by decide)) (C _ (by omega) (by omega)), r_R1_c a3 (J 66 (by decide)) (C _ (by omega) (by omega)), P1, ?_, x_kt_a (x_kt_a a4.2.2 (x_kt_f f0 ab kc)) (x_kt_1 x_kc10)⟩ ⟨J 76 (by decide), J 6 (by decide)⟩)
          rw [P2, e68]; constructor <;> lia
        · have cl := Int32.not_le.mp c
          refine l_gR T1 (d_Mo_61 M) (l_gI (e := vI h1 v0 68) rfl (l_sIc T1 M.1 (by decide) rfl ?_))
          intro h2 T2 c2 u2
          refine l_gR T2 (d_Mo_33 M) (l_aI (e := vA h (v0 + 28) k) (fun _ => by rw [x_vA_c (c2 (v0 + 28) (by omega)), x_vA_c (F (v0 + 28) (by omega) (by omega))]) (fun _ => l_uIc T2 ?_))
          intro h3 T3 j3 c3 u3
          obtain ⟨P1, P2⟩ := PUSH h2 h3 _ c2 u2 c3 u3
          refine qi_bs (ih (k + 1) h3 T3 (fun b b1 b2 => (c3 b b2).trans ((c2 b b1).trans (F b b1 b2))) (fun k' hk => by rw [x_vI_c (c3 v0 (by omega)), u2 k', if_neg hk, I k' hk]) (by lia) (by lia) (by rw [P2, e68]; grind) ?_)
          rw [P1, x_sl_q k0 f0 (by lia), List.append_assoc]
    refine LOOP N fr h T (fun _ _ _ => rfl) (fun _ _ => rfl) (Int32.le_refl _) ab (by grind) ?_
    rw [x_sl_0 (Int32.le_refl _) f0 f0, List.append_nil]
    exact a4.1
  · rw [if_neg (fun z => c (RC.mpr z))]
    refine l_gO (qi_b (y_full (N := N) T M) ?_)
    rintro ⟨y, h2⟩ ⟨t1, t2, t3, t4⟩
    dsimp only at t1 t2 t3 t4 ⊢
    exact qi_zB (fun _ => qi_some (r_fullP s n t2 t3 t4))
end R7
