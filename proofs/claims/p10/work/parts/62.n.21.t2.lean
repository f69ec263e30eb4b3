/-! the editor: telling -/
theorem x_ti_s {a b : Int32} (a0 : 0 ≤ a) (b0 : 0 ≤ b) : (b - a).toInt = b.toInt - a.toInt := by
  have e1 := Int32.le_iff_toInt_le.mp a0
  have e2 := Int32.le_iff_toInt_le.mp b0
  have z : (0 : Int32).toInt = 0 := rfl
  rw [z] at e1 e2
  have l1 := b.toInt_lt
  have l2 := a.toInt_lt
  rw [Int32.toInt_sub]; exact Int.bmod_eq_of_le_mul_two (by omega) (by omega)
theorem x_ti_1 {a : Int32} (a0 : -1000000 ≤ a) (a1 : a ≤ 1000000) : (a + 1).toInt = a.toInt + 1 := by
  have e1 := Int32.le_iff_toInt_le.mp a0
  have e2 := Int32.le_iff_toInt_le.mp a1
  have z : (1 : Int32).toInt = 1 := rfl
  have z1 : (-1000000 : Int32).toInt = -1000000 := rfl
  have z2 : (1000000 : Int32).toInt = 1000000 := rfl
  rw [z1] at e1
  rw [z2] at e2
  rw [Int32.toInt_add, z]; exact Int.bmod_eq_of_le_mul_two (by omega) (by omega)
/-- whether a text finds room -/
theorem x_rm {n a b c : Int32} (n0 : 0 ≤ n) (nc : n ≤ c) (c1 : c ≤ 1000) (a0 : 0 ≤ a) (ab : a ≤ b) (b1 : b ≤ 1000) : (b - a) + 1 ≤ c - n ↔ x_ct 0 n + x_ct a b + 1 ≤ x_ct 0 c := by
  have q1 := x_ct_t n0 (Int32.le_refl 0)
  have q2 := x_ct_t ab a0
  have q3 := x_ct_t (Int32.le_trans n0 nc) (Int32.le_refl 0)
  have z : (0 : Int32).toInt = 0 := rfl
  rw [z] at q1 q3
  have e1 : (b - a).toInt = b.toInt - a.toInt := x_ti_s a0 (Int32.le_trans a0 ab)
  have e2 : ((b - a) + 1).toInt = b.toInt - a.toInt + 1 := by rw [x_ti_1 (by lia) (by lia), e1]
  have e3 : (c - n).toInt = c.toInt - n.toInt := x_ti_s n0 (Int32.le_trans n0 nc)
  rw [Int32.le_iff_toInt_le, e2, e3]
  omega
theorem qi_zx {α β : Type} {y : α ⊕ String} {h : z_H} {k : α → z_H → Option ((β ⊕ String) × z_H)} {Q : (β ⊕ String) × z_H → Prop} (h1 : ∀ x, y = .inl x → qi (k x h) Q) (h2 : ∀ E, y = .inr E → Q (.inr E, h)) : qi (zx_k (y, h) k) Q := by
  cases y with
  | inl x => exact h1 x rfl
  | inr E => exact qi_some (h2 E rfl)
/-- what is appended comes out, text by text: what has come out, and whether all of it -/
def x_ta : List Int32 → List Int32 → List Int32 → List Int32 × Int32
  | O, _, [] => (O, 1)
  | O, cur, c :: r => if c = 10 then (if O.length + cur.length + 1 ≤ 600 then x_ta (O ++ cur ++ [10]) [] r else (O, 0)) else x_ta O (cur ++ [c]) r
section TELL
variable {L : q_L} {π : Nat → Nat → Option Nat} {N e o : Nat} {h : z_H}
set_option maxHeartbeats 1000000 in
theorem y_tell {v2 v3 : Int32} (T : x_U L π h) (ke : qκ L e = 4) (k1 : qκ L (e + 1) = 11) (ko : qκ L o = 11) (D : e + 2 < o ∨ o + 1 < e + 1) (cp : qhi L (e + 1) 1 = 600) (n0 : 0 ≤ vI h (e + 1) 1) (n1 : vI h (e + 1) 1 ≤ 600) (a0 : 0 ≤ v2) (ab : v2 ≤ v3) (bo : v3 ≤ vI h o 1) (oo : vI h o 1 ≤ 1000) (ok : x_kt (x_rw h o)) : qi (f_Ed_tell N e o v2 v3 h) (fun r => (r.1 = .inl () ∧ (x_rw h (e + 1)).length + x_ct v2 v3 + 1 ≤ 600 ∧ x_U L π r.2 ∧ (∀ b, b ≠ e + 1 → b ≠ e + 2 → r.2 b = h b) ∧ x_rw r.2 (e + 1) = x_rw h (e + 1) ++ x_sl (vA h (o + 1)) v2 v3 ++ [10] ∧ 0 ≤ vI r.2 (e + 1) 1 ∧ vI r.2 (e + 1) 1 ≤ 600) ∨ (r.1 = .inr xE3 ∧ ¬ (x_rw h (e + 1)).length + x_ct v2 v3 + 1 ≤ 600 ∧ r.2 = h)) := by
  have RM := x_rm n0 n1 (by decide : (600 : Int32) ≤ 1000) a0 ab (Int32.le_trans bo oo)
  have L0 : (x_rw h (e + 1)).length = x_ct 0 (vI h (e + 1) 1) := x_sl_len
  have c6 : x_ct 0 600 = 600 := by decide
  rw [c6, ← L0] at RM
  unfold f_Ed_tell
  refine l_gR T (d_Ed_0 T ke) (l_gO (qi_b (y_hr (N := N) T k1) ?_))
  rintro ⟨y, h1⟩ ⟨e1, q⟩
  dsimp only at e1 q ⊢
  subst e1
  rw [cp] at q
  rcases q with ⟨q1, q2⟩ | ⟨q1, q2⟩
  · rw [q1, if_neg (by decide)]
    refine l_gR T (d_Ed_0 T ke) (l_gO (qi_b (y_ap (N := N) T k1 ko (by omega) a0 ab bo oo n0 (by rw [cp]; exact n1) (by rw [cp]; lia) (by rw [cp]; decide) ok) ?_))
    rintro h2 ⟨T2, f2, i2, w2⟩
    refine l_gR T2 (d_Ed_0 T2 ke) (l_gO (qi_b (y_ad (N := N) (c := 10) T2 k1 (by decide) (by rw [i2]; lia) (by rw [i2, cp]; lia) (by rw [i2]; lia)) ?_))
    rintro h3 ⟨T3, f3, i3, w3⟩
    refine qi_some (Or.inl ⟨rfl, RM.mp q2, T3, fun b b1 b2 => (f3 b b1 b2).trans (f2 b b1 b2), ?_, ?_, ?_⟩)
    · show x_rw h3 (e + 1) = _
      rw [w3, w2]
    · show 0 ≤ vI h3 (e + 1) 1
      rw [i3, i2]; lia
    · show vI h3 (e + 1) 1 ≤ 600
      rw [i3, i2]; lia
  · rw [q1, if_pos rfl]
    exact qi_some (Or.inr ⟨rfl, fun z => absurd (RM.mpr z) (Int32.not_le.mpr q2), rfl⟩)
set_option maxHeartbeats 2000000 in
theorem y_tA4 (ke : qκ L e = 4) (k1 : qκ L (e + 1) = 11) (k7 : qκ L (e + 7) = 11) (cp : qhi L (e + 1) 1 = 600) {A : Int32 → Int32} {n : Int32} (nn : n ≤ 200) (Ak : ∀ j, 0 ≤ j → j < n → x_kc (A j)) : ∀ (m : Nat) (f i : Int32) (h : z_H), x_U L π h → vI h (e + 7) 1 = n → vA h (e + 8) = A → 0 ≤ f → f ≤ i → i ≤ n → 0 ≤ vI h (e + 1) 1 → vI h (e + 1) 1 ≤ 600 → qi (f_Ed_tellAppended_4 N m e f i h) (fun r => x_U L π r.2 ∧ (∀ b, b ≠ e + 1 → b ≠ e + 2 → b ≠ e + 7 → r.2 b = h b) ∧ 0 ≤ vI r.2 (e + 1) 1 ∧ vI r.2 (e + 1) 1 ≤ 600 ∧ x_rw r.2 (e + 1) = (x_ta (x_rw h (e + 1)) (x_sl A f i) (x_sl A i n)).1 ∧ ((r.1 = .inl () ∧ (x_ta (x_rw h (e + 1)) (x_sl A f i) (x_sl A i n)).2 = 1 ∧ vI r.2 (e + 7) 1 = 0) ∨ (r.1 = .inr xE3 ∧ (x_ta (x_rw h (e + 1)) (x_sl A f i) (x_sl A i n)).2 = 0 ∧ vI r.2 (e + 7) 1 = n))) := by
  intro m
  induction m with
  | zero => intro f i h T hn hA f0 fi i_n n0 n1 r e; rw [f_Ed_tellAppended_4] at e; cases e
  | succ m ih =>
    intro f i h T hn hA f0 fi i_n n0 n1
    have i0 : 0 ≤ i := Int32.le_trans f0 fi
    rw [f_Ed_tellAppended_4]
    refine l_gR T (d_Ed_7 T ke) (l_gI (e := n) hn ?_)
    refine qi_if (fun c => ?_) (fun c => ?_)
    · have ei : i = n := Int32.le_antisymm i_n c
      subst ei
      refine l_gR T (d_Ed_7 T ke) (l_gO (qi_b (y_em (N := N) T k7) ?_))
      rintro h1 ⟨T1, c1, e1, _⟩
      rw [x_sl_0 (Int32.le_refl _) i0 i0, x_ta]
      refine qi_some ⟨T1, fun b b1 b2 b3 => c1 b b3, ?_, ?_, ?_, Or.inl ⟨rfl, rfl, e1⟩⟩
      · rw [x_vI_c (c1 (e + 1) (by omega))]; exact n0
      · rw [x_vI_c (c1 (e + 1) (by omega))]; exact n1
      · exact x_rw_c (c1 (e + 1) (by omega)) (c1 (e + 1 + 1) (by omega))
    · have cl := Int32.not_le.mp c
      rw [x_sl_1 cl i0]
      refine l_gR T (d_Ed_7 T ke) (l_gR T (d_Row_0 T k7) (l_aI (e := A i) (fun _ => by rw [show e + 7 + 1 = e + 8 from rfl, hA]) (fun _ => ?_)))
      refine qi_if (fun c1 => ?_) (fun c1 => ?_)
      · have ok : x_kt (x_rw h (e + 7)) := by
          unfold x_rw
          rw [show e + 7 + 1 = e + 8 from rfl, hA, hn]
          exact x_kt_f (Int32.le_refl 0) (Int32.le_trans i0 i_n) Ak
        refine l_gR T (d_Ed_7 T ke) (l_gO (qi_b (y_tell (N := N) T ke k1 k7 (by omega) cp n0 n1 f0 fi (by rw [hn]; exact i_n) (by rw [hn]; lia) ok) ?_))
        rw [show e + 7 + 1 = e + 8 from rfl, hA]
        rw [x_ta, if_pos c1, x_sl_len]
        rintro ⟨y, h1⟩ (⟨q1, q2, T1, f1, w1, m0, m1⟩ | ⟨q1, q2, q3⟩)
        · dsimp only at q1 T1 f1 w1 m0 m1 ⊢
          rw [if_pos q2]
          refine qi_zx (fun x _ => ?_) (fun E eE => by rw [q1] at eE; cases eE)
          refine qi_bs (qi_bs (qi_mono (ih (i + 1) (i + 1) h1 T1 (by rw [x_vI_c (f1 (e + 7) (by omega) (by omega)), hn]) (by rw [x_vA_c (f1 (e + 8) (by omega) (by omega)), hA]) (by lia) (Int32.le_refl _) (by lia) m0 m1) ?_))
          rw [w1, x_sl_0 (Int32.le_refl _) (by lia) (by lia)]
          rintro r ⟨t1, t2, t3⟩
          exact ⟨t1, fun b b1 b2 b3 => (t2 b b1 b2 b3).trans (f1 b b1 b2), t3⟩
        · dsimp only at q1 q3 ⊢
          rw [if_neg q2]
          refine qi_zx (fun x ex => by rw [q1] at ex; cases ex) (fun E eE => ?_)
          rw [q1] at eE
          cases eE
          rw [q3]
          exact ⟨T, fun _ _ _ _ => rfl, n0, n1, rfl, Or.inr ⟨rfl, rfl, hn⟩⟩
      · rw [x_ta, if_neg c1]
        refine qi_bs (qi_mono (ih f (i + 1) h T hn hA f0 (by lia) (by lia) n0 n1) ?_)
        rw [x_sl_q fi f0 (by lia)]
        exact fun r t => t
end TELL
