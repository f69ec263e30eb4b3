/-! a command of the reference where the class's pointers have changed -/
section W8
variable {L : q_L} {π π' : Nat → Nat → Option Nat} {N v0 : Nat} {h h1 : z_H} {S X : List Int32} {rd lc : Int32}
theorem x_tf_c9 {h h' : z_H} (M : q_M L π v0) (M' : q_M L π' v0) (T : x_U L π h) (T' : x_U L π' h') (e1 : h' (v0 + 26) = h (v0 + 26)) (e2 : h' (v0 + 27) = h (v0 + 27)) (e3 : h' (v0 + 32) = h (v0 + 32)) (e4 : h' (v0 + 33) = h (v0 + 33)) : x_tf h' v0 = x_tf h v0 := by
  funext i c
  have B : (f_Mod_fits 0 v0 i c h').map Prod.fst = (f_Mod_fits 0 v0 i c h).map Prod.fst := by
    unfold f_Mod_fits
    rw [x_gM T M (d_Mo_31 M), x_gM T' M' (d_Mo_31 M'), x_gM T M (d_Mo_32 M), x_gM T' M' (d_Mo_32 M'), x_gM T M (d_Mo_37 M), x_gM T' M' (d_Mo_37 M'), x_gM T M (d_Mo_38 M), x_gM T' M' (d_Mo_38 M')]
    show (z_b (aI h' (v0 + 26) 0 i) _).map Prod.fst = (z_b (aI h (v0 + 26) 0 i) _).map Prod.fst
    rw [x_aI_c e1]
    cases aI h (v0 + 26) 0 i with
    | none => rfl
    | some x =>
      show (if x = 1 then _ else _ : Option (Int32 × z_H)).map Prod.fst = (if x = 1 then _ else _ : Option (Int32 × z_H)).map Prod.fst
      by_cases c1 : x = 1
      · rw [if_pos c1, if_pos c1]; rfl
      · rw [if_neg c1, if_neg c1]
        show (z_b (aI h' (v0 + 26) 0 i) _).map Prod.fst = (z_b (aI h (v0 + 26) 0 i) _).map Prod.fst
        rw [x_aI_c e1]
        cases aI h (v0 + 26) 0 i with
        | none => rfl
        | some x =>
          show (if x = 0 then _ else _ : Option (Int32 × z_H)).map Prod.fst = (if x = 0 then _ else _ : Option (Int32 × z_H)).map Prod.fst
          by_cases c2 : x = 0
          · rw [if_pos c2, if_pos c2]
            show (z_b (aI h' (v0 + 27) 0 i) _).map Prod.fst = (z_b (aI h (v0 + 27) 0 i) _).map Prod.fst
            rw [x_aI_c e2]
            cases aI h (v0 + 27) 0 i with
            | none => rfl
            | some y =>
              show (if y = c then _ else _ : Option (Int32 × z_H)).map Prod.fst = (if y = c then _ else _ : Option (Int32 × z_H)).map Prod.fst
              by_cases c3 : y = c
              · rw [if_pos c3, if_pos c3]; rfl
              · rw [if_neg c3, if_neg c3]; rfl
          · rw [if_neg c2, if_neg c2]
            by_cases c3 : 64 ≤ c
            · rw [if_pos c3, if_pos c3]
              show (z_b (aL h' (v0 + 33) i) _).map Prod.fst = (z_b (aL h (v0 + 33) i) _).map Prod.fst
              rw [x_aL_c e4]
              cases aL h (v0 + 33) i with
              | none => rfl
              | some y =>
                show (f_Mod_fits_65 0 _ h').map Prod.fst = (f_Mod_fits_65 0 _ h).map Prod.fst
                unfold f_Mod_fits_65
                split <;> rfl
            · rw [if_neg c3, if_neg c3]
              show (z_b (aL h' (v0 + 32) i) _).map Prod.fst = (z_b (aL h (v0 + 32) i) _).map Prod.fst
              rw [x_aL_c e3]
              cases aL h (v0 + 32) i with
              | none => rfl
              | some y =>
                show (f_Mod_fits_65 0 _ h').map Prod.fst = (f_Mod_fits_65 0 _ h).map Prod.fst
                unfold f_Mod_fits_65
                split <;> rfl
  unfold x_tf
  cases q1 : f_Mod_fits 0 v0 i c h' <;> cases q2 : f_Mod_fits 0 v0 i c h
  · rfl
  · rw [q1, q2] at B; cases B
  · rw [q1, q2] at B; cases B
  · rw [q1, q2] at B; exact Option.some.inj B
theorem r_fd_x9 {q s1 s2 fm : Int32} (M : q_M L π v0) (M' : q_M L π' v0) (T : x_U L π h) (T1 : x_U L π' h1) (F : r_X v0 h h1) : r_fd h1 v0 q s1 s2 S fm = r_fd h v0 q s1 s2 S fm := by
  unfold r_fd
  rw [x_vA_c (F (v0 + 26) (by omega) (by omega)), x_vA_c (F (v0 + 23) (by omega) (by omega)), x_vA_c (F (v0 + 24) (by omega) (by omega)), x_vA_c (F (v0 + 27) (by omega) (by omega)), x_vA_c (F (v0 + 30) (by omega) (by omega)), x_vA_c (F (v0 + 31) (by omega) (by omega)), x_tf_c9 M M' T T1 (F (v0 + 26) (by omega) (by omega)) (F (v0 + 27) (by omega) (by omega)) (F (v0 + 32) (by omega) (by omega)) (F (v0 + 33) (by omega) (by omega))]
theorem r_ft_x9 {kd v s1 s2 : Int32} (M : q_M L π v0) (M' : q_M L π' v0) (T : x_U L π h) (T1 : x_U L π' h1) (F : r_X v0 h h1) : r_ft h1 v0 kd v s1 s2 S rd lc = r_ft h v0 kd v s1 s2 S rd lc := by
  unfold r_ft
  rw [r_fd_x9 M M' T T1 F]
theorem r_CM_x9 {sz q kd tg pr na inv : Int32} {ym : Int32 → Int32} {sw : List Int32 → Int32 × List Int32} {f1 f2 : List Int32 → Int32 → Int32} {rc : Int32 → Int32} (M : q_M L π v0) (M' : q_M L π' v0) (T : x_U L π h) (T1 : x_U L π' h1) (F : r_X v0 h h1) (C : r_CM h v0 lc sz q kd tg pr na inv X ym sw f1 f2 rc) : r_CM h1 v0 lc sz q kd tg pr na inv X ym sw f1 f2 rc := by
  have V : ∀ i, 0 < i → i < 36 → vA h1 (v0 + i) = vA h (v0 + i) := fun i i0 i1 => x_vA_c (F (v0 + i) (by omega) (by omega))
  have P : ∀ q s1 s2 g, r_PP h1 v0 q s1 s2 g = r_PP h v0 q s1 s2 g := fun q s1 s2 g => r_PP_e F
  have R : ∀ kd v s1 s2 S rd, r_ft h1 v0 kd v s1 s2 S rd lc = r_ft h v0 kd v s1 s2 S rd lc := fun kd v s1 s2 S rd => r_ft_x9 M M' T T1 F
  have D : ∀ q s1 s2 S, r_fd h1 v0 q s1 s2 S = r_fd h v0 q s1 s2 S := fun q s1 s2 S => funext (fun fm => r_fd_x9 M M' T T1 F)
  unfold r_CM at C ⊢
  simp only [V 4 (by decide) (by decide), V 5 (by decide) (by decide), V 6 (by decide) (by decide), V 7 (by decide) (by decide), V 8 (by decide) (by decide), V 9 (by decide) (by decide), V 10 (by decide) (by decide), V 11 (by decide) (by decide), V 12 (by decide) (by decide), V 13 (by decide) (by decide), V 14 (by decide) (by decide), V 16 (by decide) (by decide), V 17 (by decide) (by decide), V 18 (by decide) (by decide), V 28 (by decide) (by decide), P, R, D]
  exact C
end W8
