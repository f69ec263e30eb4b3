section
variable {p : Program} {l : Launch} {e : Env} {s : State} {m : MethodId} {args : Array Value} {below : List Frame} {meth : Method} {c : Code} {Ts : List Cond} {own : String} {D : va_G} {dA : Nat → ClassId} {B : Nat}
def f_Mod_takeSpace_2 (N : Nat)  : Nat → Nat → Int32 → z_H → Option z_H
  | 0, _, _, _ => none
  | n + 1, v0, v1, h =>
    z_b (gI h v0 12 65) fun x1 =>
    if x1 ≤ v1 then
    (z_b (gI h v0 12 65) fun x3 =>
    z_b (sF h v0 12 54 (.int x3)) fun h4 =>
    some h4)
    else
    (z_b (gR h v0 12 51) fun x5 =>
    z_b (gR h v0 12 58) fun x6 =>
    z_b (aI h x6 0 v1) fun x7 =>
    z_b (uI h x5 0 v1 x7) fun h8 =>
    z_b (some (v1 + 1)) fun x9 =>
    (f_Mod_takeSpace_2 N  n) v0 x9 h8)
set_option maxRecDepth 20000 in
set_option maxHeartbeats 2000000 in
theorem s_Mod_takeSpace_2 (X : z_X p s m args meth c prog_14_method_42_code 2 none Ts "StreamForgeModel" D dA B) {N : Nat} {h' : z_H}   : ∀ n : Nat, ∀ (v0 : Nat) (v1 : Int32) (h : z_H) (H : Heap) (locs : List Loc) (ls : Array Slot), z_I D dA B h s.heap H locs → lv_has ls 2 [(0, .ref v0), (1, .int v1)] → f_Mod_takeSpace_2 N  n v0 v1 h = some h' → W p l e (z_rm 0 0) s m args below meth c H locs 0 0 (MQ below (z_Q D dA B none h') args s 0 0 (fun q => B ≤ q)) (F0 m 2 ls []) := by
  have hx := z_hx X
  have hb := z_hb X
  intro n
  induction n with
  | zero => intro v0 v1 h H locs ls hI hl hf; rw [f_Mod_takeSpace_2] at hf; cases hf
  | succ n ih =>
    intro v0 v1 h H locs ls hI hl hf
    rw [f_Mod_takeSpace_2] at hf
    refine lv_iload_n hx hb d_Mod_takeSpace_2 rfl (lv_at hl 1 rfl) ?_
    refine lv_aload_n hx hb d_Mod_takeSpace_3 rfl (lv_at hl 0 rfl) ?_
    obtain ⟨x1, ex1, hf⟩ := z_bs hf
    refine z_getF X hI (k := 65) (ci := 12) (gI_s ex1) i_Mod rfl (by decide) wf_Mod_319 d_Mod_takeSpace_4 ?_
    refine lv_icmp_ge (tgt := 28) hx hb d_Mod_takeSpace_7 (by decide) (fun c2 => ?_) (fun c2 => ?_)
    · rw [if_pos c2] at hf
      refine lv_aload_n hx hb d_Mod_takeSpace_28 rfl (lv_at hl 0 rfl) ?_
      refine lv_aload_n hx hb d_Mod_takeSpace_29 rfl (lv_at hl 0 rfl) ?_
      obtain ⟨x3, ex3, hf⟩ := z_bs hf
      refine z_getF X hI (k := 65) (ci := 12) (gI_s ex3) i_Mod rfl (by decide) wf_Mod_319 d_Mod_takeSpace_30 ?_
      obtain ⟨h4, eh4, hf⟩ := z_bs hf
      refine z_putF X hI (k := 54) (ci := 12) (ty0 := t_Mod) eh4 i_Mod t_Mod_ok n_Mod rfl (by decide) wf_Mod_299 rfl rfl rfl d_Mod_takeSpace_33 (fun H locs hI => ?_)
      cases hf
      exact z_vret X hI d_Mod_takeSpace_36
    · rw [if_neg c2] at hf
      refine lv_aload_n hx hb d_Mod_takeSpace_10 rfl (lv_at hl 0 rfl) ?_
      obtain ⟨x5, ex5, hf⟩ := z_bs hf
      refine z_getF X hI (k := 51) (ci := 12) (gR_s ex5) i_Mod rfl (by decide) wf_Mod_121 d_Mod_takeSpace_11 ?_
      refine lv_iload_n hx hb d_Mod_takeSpace_14 rfl (lv_at hl 1 rfl) ?_
      refine lv_aload_n hx hb d_Mod_takeSpace_15 rfl (lv_at hl 0 rfl) ?_
      obtain ⟨x6, ex6, hf⟩ := z_bs hf
      refine z_getF X hI (k := 58) (ci := 12) (gR_s ex6) i_Mod rfl (by decide) wf_Mod_130 d_Mod_takeSpace_16 ?_
      refine lv_iload_n hx hb d_Mod_takeSpace_19 rfl (lv_at hl 1 rfl) ?_
      obtain ⟨x7, ex7, hf⟩ := z_bs hf
      refine z_iald X hI ex7 d_Mod_takeSpace_20 ?_
      obtain ⟨h8, eh8, hf⟩ := z_bs hf
      refine z_iast X hI eh8 d_Mod_takeSpace_21 (fun H locs hI => ?_)
      obtain ⟨x9, ex9, hf⟩ := z_bs hf
      refine lv_iinc (v := x9) (lv' := [(1, .int x9), (0, .ref v0)]) hx hb d_Mod_takeSpace_22 hl (k := 1) rfl (by rw [← Option.some.inj ex9]; rfl) (by decide) rfl (fun ls hl => ?_)
      refine lv_goto (tgt := 2) hx hb d_Mod_takeSpace_25 (by decide) ?_
      exact ih v0 x9 h8 _ _ _ hI (lv_sub hl [1, 0] rfl) hf
def f_Mod_takeSpace (N : Nat) (v0 : Nat) (h : z_H) : Option z_H :=
  f_Mod_takeSpace_2 N N v0 0 h
set_option maxRecDepth 20000 in
set_option maxHeartbeats 2000000 in
theorem s_Mod_takeSpace {l : Launch} {D : va_G} {dA : Nat → ClassId} {B N : Nat} {v0 : Nat} {h h' : z_H} (hf : f_Mod_takeSpace N v0 h = some h') : z_Met l y_Mod_takeSpace prog_14_method_42_code 2 none 0 0 D dA B [.ref v0] h none h' := by
  refine z_of (by decide) (Nat.le_of_ble_eq_true rfl) (fun p e s m below meth c ls X hI hl => ?_)
  have hx := z_hx X
  have hb := z_hb X
  have hl : lv_has ls 2 [(0, .ref v0)] := hl
  unfold f_Mod_takeSpace at hf
  obtain ⟨locs, hlo⟩ : ∃ z : List Loc, z = [] := ⟨_, rfl⟩
  rw [← hlo] at hI ⊢
  refine lv_iconst (v := 0) hx hb d_Mod_takeSpace_0 (by decide) ?_
  refine lv_istore_n (lv' := [(1, .int 0), (0, .ref v0)]) hx hb d_Mod_takeSpace_1 rfl hl (by decide) rfl (fun ls hl => ?_)
  exact s_Mod_takeSpace_2 X  N v0 0 h _ _ _ hI (lv_sub hl [1, 0] rfl) hf
def f_Mod_takeLine_12 (N : Nat)  : Nat → Nat → Int32 → Int32 → z_H → Option z_H
  | 0, _, _, _, _ => none
  | n + 1, v0, v1, v2, h =>
    z_b (gI h v0 12 54) fun x1 =>
    if x1 ≤ v2 then
    (some h)
    else
    (z_b (gR h v0 12 51) fun x3 =>
    z_b (gR h v0 12 2) fun x4 =>
    z_b (aI h x4 0 ((24 * v1) + v2)) fun x5 =>
    z_b (uI h x3 0 v2 x5) fun h6 =>
    z_b (some (v2 + 1)) fun x7 =>
    (f_Mod_takeLine_12 N  n) v0 v1 x7 h6)
set_option maxRecDepth 20000 in
set_option maxHeartbeats 2000000 in
theorem s_Mod_takeLine_12 (X : z_X p s m args meth c prog_14_method_43_code 3 none Ts "StreamForgeModel" D dA B) {N : Nat} {h' : z_H}   : ∀ n : Nat, ∀ (v0 : Nat) (v1 : Int32) (v2 : Int32) (h : z_H) (H : Heap) (locs : List Loc) (ls : Array Slot), z_I D dA B h s.heap H locs → lv_has ls 3 [(0, .ref v0), (1, .int v1), (2, .int v2)] → f_Mod_takeLine_12 N  n v0 v1 v2 h = some h' → W p l e (z_rm 0 0) s m args below meth c H locs 0 0 (MQ below (z_Q D dA B none h') args s 0 0 (fun q => B ≤ q)) (F0 m 12 ls []) := by
  have hx := z_hx X
  have hb := z_hb X
  intro n
  induction n with
  | zero => intro v0 v1 v2 h H locs ls hI hl hf; rw [f_Mod_takeLine_12] at hf; cases hf
  | succ n ih =>
    intro v0 v1 v2 h H locs ls hI hl hf
    rw [f_Mod_takeLine_12] at hf
    refine lv_iload_n hx hb d_Mod_takeLine_12 rfl (lv_at hl 2 rfl) ?_
    refine lv_aload_n hx hb d_Mod_takeLine_13 rfl (lv_at hl 0 rfl) ?_
    obtain ⟨x1, ex1, hf⟩ := z_bs hf
    refine z_getF X hI (k := 54) (ci := 12) (gI_s ex1) i_Mod rfl (by decide) wf_Mod_299 d_Mod_takeLine_14 ?_
    refine lv_icmp_ge (tgt := 43) hx hb d_Mod_takeLine_17 (by decide) (fun c2 => ?_) (fun c2 => ?_)
    · rw [if_pos c2] at hf
      cases hf
      exact z_vret X hI d_Mod_takeLine_43
    · rw [if_neg c2] at hf
      refine lv_aload_n hx hb d_Mod_takeLine_20 rfl (lv_at hl 0 rfl) ?_
      obtain ⟨x3, ex3, hf⟩ := z_bs hf
      refine z_getF X hI (k := 51) (ci := 12) (gR_s ex3) i_Mod rfl (by decide) wf_Mod_121 d_Mod_takeLine_21 ?_
      refine lv_iload_n hx hb d_Mod_takeLine_24 rfl (lv_at hl 2 rfl) ?_
      refine lv_aload_n hx hb d_Mod_takeLine_25 rfl (lv_at hl 0 rfl) ?_
      obtain ⟨x4, ex4, hf⟩ := z_bs hf
      refine z_getF X hI (k := 2) (ci := 12) (gR_s ex4) i_Mod rfl (by decide) wf_Mod_16 d_Mod_takeLine_26 ?_
      refine lv_bipush (v := 24) hx hb d_Mod_takeLine_29 (by decide) ?_
      refine lv_iload_n hx hb d_Mod_takeLine_31 rfl (lv_at hl 1 rfl) ?_
      refine lv_imul hx hb d_Mod_takeLine_32 ?_
      refine lv_iload_n hx hb d_Mod_takeLine_33 rfl (lv_at hl 2 rfl) ?_
      refine lv_iadd hx hb d_Mod_takeLine_34 ?_
      obtain ⟨x5, ex5, hf⟩ := z_bs hf
      refine z_iald X hI ex5 d_Mod_takeLine_35 ?_
      obtain ⟨h6, eh6, hf⟩ := z_bs hf
      refine z_iast X hI eh6 d_Mod_takeLine_36 (fun H locs hI => ?_)
      obtain ⟨x7, ex7, hf⟩ := z_bs hf
      refine lv_iinc (v := x7) (lv' := [(2, .int x7), (0, .ref v0), (1, .int v1)]) hx hb d_Mod_takeLine_37 hl (k := 2) rfl (by rw [← Option.some.inj ex7]; rfl) (by decide) rfl (fun ls hl => ?_)
      refine lv_goto (tgt := 12) hx hb d_Mod_takeLine_40 (by decide) ?_
      exact ih v0 v1 x7 h6 _ _ _ hI (lv_sub hl [1, 2, 0] rfl) hf
def f_Mod_takeLine (N : Nat) (v0 : Nat) (v1 : Int32) (h : z_H) : Option z_H :=
  z_b (gR h v0 12 1) fun x1 =>
  z_b (aI h x1 0 v1) fun x2 =>
  z_b (sF h v0 12 54 (.int x2)) fun h3 =>
  f_Mod_takeLine_12 N N v0 v1 0 h3
set_option maxRecDepth 20000 in
set_option maxHeartbeats 2000000 in
theorem s_Mod_takeLine {l : Launch} {D : va_G} {dA : Nat → ClassId} {B N : Nat} {v0 : Nat} {v1 : Int32} {h h' : z_H} (hf : f_Mod_takeLine N v0 v1 h = some h') : z_Met l y_Mod_takeLine prog_14_method_43_code 3 none 0 0 D dA B [.ref v0, .int v1] h none h' := by
  refine z_of (by decide) (Nat.le_of_ble_eq_true rfl) (fun p e s m below meth c ls X hI hl => ?_)
  have hx := z_hx X
  have hb := z_hb X
  have hl : lv_has ls 3 [(0, .ref v0), (1, .int v1)] := hl
  unfold f_Mod_takeLine at hf
  obtain ⟨locs, hlo⟩ : ∃ z : List Loc, z = [] := ⟨_, rfl⟩
  rw [← hlo] at hI ⊢
  refine lv_aload_n hx hb d_Mod_takeLine_0 rfl (lv_at hl 0 rfl) ?_
  refine lv_aload_n hx hb d_Mod_takeLine_1 rfl (lv_at hl 0 rfl) ?_
  obtain ⟨x1, ex1, hf⟩ := z_bs hf
  refine z_getF X hI (k := 1) (ci := 12) (gR_s ex1) i_Mod rfl (by decide) wf_Mod_13 d_Mod_takeLine_2 ?_
  refine lv_iload_n hx hb d_Mod_takeLine_5 rfl (lv_at hl 1 rfl) ?_
  obtain ⟨x2, ex2, hf⟩ := z_bs hf
  refine z_iald X hI ex2 d_Mod_takeLine_6 ?_
  obtain ⟨h3, eh3, hf⟩ := z_bs hf
  refine z_putF X hI (k := 54) (ci := 12) (ty0 := t_Mod) eh3 i_Mod t_Mod_ok n_Mod rfl (by decide) wf_Mod_299 rfl rfl rfl d_Mod_takeLine_7 (fun H locs hI => ?_)
  refine lv_iconst (v := 0) hx hb d_Mod_takeLine_10 (by decide) ?_
  refine lv_istore_n (lv' := [(2, .int 0), (0, .ref v0), (1, .int v1)]) hx hb d_Mod_takeLine_11 rfl hl (by decide) rfl (fun ls hl => ?_)
  exact s_Mod_takeLine_12 X  N v0 v1 0 h3 _ _ _ hI (lv_sub hl [1, 2, 0] rfl) hf
def f_Mod_match_62 (N : Nat)  (v0 : Nat) (h : z_H) : Option (Int32 × z_H) :=
  z_b (gO h v0 12) fun u1 =>
  z_b (f_Mod_fail N v0 2 h) fun r2 =>
  some (r2.1, r2.2)
set_option maxRecDepth 20000 in
set_option maxHeartbeats 2000000 in
theorem s_Mod_match_62 (X : z_X p s m args meth c prog_14_method_44_code 6 (some .int) Ts "StreamForgeModel" D dA B) {N : Nat} {r : Int32} {h' : z_H}   : ∀ (v0 : Nat) (h : z_H) (H : Heap) (locs : List Loc) (ls : Array Slot), z_I D dA B h s.heap H locs → lv_has ls 6 [(0, .ref v0)] → f_Mod_match_62 N  v0 h = some (r, h') → W p l e (z_rm 3 86) s m args below meth c H locs 0 0 (MQ below (z_Q D dA B (some (.int r)) h') args s 0 0 (fun q => B ≤ q)) (F0 m 62 ls []) := by
  have hx := z_hx X
  have hb := z_hb X
  intro v0 h H locs ls hI hl hf
  unfold f_Mod_match_62 at hf
  refine lv_aload_n hx hb d_Mod_match_62 rfl (lv_at hl 0 rfl) ?_
  refine lv_iconst (v := 2) hx hb d_Mod_match_63 (by decide) ?_
  obtain ⟨u1, eu1, hf⟩ := z_bs hf
  obtain ⟨r2, er2, hf⟩ := z_bs hf
  refine z_callV (As := [.int 2]) (rest := []) (r := (some (.int r2.1))) (h' := r2.2) X hI eu1 (s_Mod_fail er2) rfl rfl wm_Mod_162 yi_Mod_fail rfl hl.1 rfl (Nat.le_of_ble_eq_true rfl) (by decide) (by decide) d_Mod_match_64 (fun H locs hI => ?_)
  refine W.eq (g2 := F0 m 67 ls [.int (r2.1)]) rfl ?_
  cases hf
  exact z_iret X hI d_Mod_match_67
def f_Mod_match (N : Nat) (v0 : Nat) (v1 : Int32) (v2 : Int32) (v3 : Int32) (h : z_H) : Option (Int32 × z_H) :=
  z_b (f_Mod_in N v3 0 7 h) fun r1 =>
  if (r1.1) = 0 then
  (z_b (gO r1.2 v0 12) fun u41 =>
  z_b (f_Mod_fail N v0 1 r1.2) fun r42 =>
  some (r42.1, r42.2))
  else
  (z_b (gI r1.2 v0 12 8) fun x3 =>
  if x3 = 0 then
  (z_b (gO r1.2 v0 12) fun u39 =>
  z_b (f_Mod_fail N v0 3 r1.2) fun r40 =>
  some (r40.1, r40.2))
  else
  (z_b (gR r1.2 v0 12 24) fun x5 =>
  z_b (gI r1.2 v0 12 7) fun x6 =>
  z_b (aI r1.2 x5 0 x6) fun x7 =>
  z_b (f_Mod_in N v1 0 (x7 - 1) r1.2) fun r8 =>
  if (r8.1) = 0 then
  (f_Mod_match_62 N v0 r8.2)
  else
  (z_b (gI r8.2 v0 12 4) fun x10 =>
  z_b (f_Mod_in N v2 0 (x10 - 1) r8.2) fun r11 =>
  if (r11.1) = 0 then
  (f_Mod_match_62 N v0 r11.2)
  else
  (z_b (gI r11.2 v0 12 7) fun x13 =>
  z_b (some ((40 * x13) + v1)) fun x14 =>
  z_b (gR r11.2 v0 12 9) fun x15 =>
  z_b (aI r11.2 x15 0 x14) fun x16 =>
  if x16 = 115 then
  (z_b (sF r11.2 v0 12 6 (.int 0)) fun h18 =>
  z_b (gO h18 v0 12) fun u19 =>
  z_b (f_Mod_takeLine N v0 v2 h18) fun r20 =>
  z_b (gR r20 v0 12 14) fun x21 =>
  z_b (aI r20 x21 0 x14) fun x22 =>
  z_b (gO r20 v0 12) fun u23 =>
  z_b (f_Mod_find N v0 x22 0 r20) fun r24 =>
  z_b (some (r24.1)) fun x25 =>
  if x25 = 0 then
  (some ((-2), r24.2))
  else
  (if 2 ≤ v3 then
  (if (v3 &&& 1) = 0 then
  (z_b (gR r24.2 v0 12 52) fun x31 =>
  z_b (aI r24.2 x31 0 (v3 / 2)) fun x32 =>
  some (x32, r24.2))
  else
  (z_b (gR r24.2 v0 12 53) fun x29 =>
  z_b (aI r24.2 x29 0 (v3 / 2)) fun x30 =>
  some (x30, r24.2)))
  else
  (if v3 = 0 then
  (z_b (gI r24.2 v0 12 56) fun x36 =>
  some (x36, r24.2))
  else
  (z_b (gI r24.2 v0 12 57) fun x34 =>
  z_b (gI r24.2 v0 12 56) fun x35 =>
  some (x34 - x35, r24.2)))))
  else
  (z_b (gO r11.2 v0 12) fun u37 =>
  z_b (f_Mod_fail N v0 1 r11.2) fun r38 =>
  some (r38.1, r38.2))))))
set_option maxRecDepth 20000 in
set_option maxHeartbeats 2000000 in
theorem s_Mod_match {l : Launch} {D : va_G} {dA : Nat → ClassId} {B N : Nat} {v0 : Nat} {v1 : Int32} {v2 : Int32} {v3 : Int32} {h h' : z_H} {r : Int32} (hf : f_Mod_match N v0 v1 v2 v3 h = some (r, h')) : z_Met l y_Mod_match prog_14_method_44_code 6 (some .int) 3 86 D dA B [.ref v0, .int v1, .int v2, .int v3] h (some (.int r)) h' := by
  refine z_of (by decide) (Nat.le_of_ble_eq_true rfl) (fun p e s m below meth c ls X hI hl => ?_)
  have hx := z_hx X
  have hb := z_hb X
  have hl : lv_has ls 6 [(0, .ref v0), (1, .int v1), (2, .int v2), (3, .int v3)] := hl
  unfold f_Mod_match at hf
  obtain ⟨locs, hlo⟩ : ∃ z : List Loc, z = [] := ⟨_, rfl⟩
  rw [← hlo] at hI ⊢
  refine lv_iload_n hx hb d_Mod_match_0 rfl (lv_at hl 3 rfl) ?_
  refine lv_iconst (v := 0) hx hb d_Mod_match_1 (by decide) ?_
  refine lv_bipush (v := 7) hx hb d_Mod_match_2 (by decide) ?_
  obtain ⟨r1, er1, hf⟩ := z_bs hf
  refine z_callS (As := [.int v3, .int 0, .int 7]) (rest := []) (r := (some (.int r1.1))) (h' := r1.2) X hI (s_Mod_in er1) rfl wm_Mod_154 yi_Mod_in rfl hl.1 rfl (Nat.le_of_ble_eq_true rfl) (by decide) (by decide) d_Mod_match_4 (fun H locs hI => ?_)
  refine W.eq (g2 := F0 m 7 ls [.int (r1.1)]) rfl ?_
  refine lv_if_ne (tgt := 16) hx hb d_Mod_match_7 (by decide) (fun c2 => ?_) (fun c2 => ?_)
  · rw [if_neg c2] at hf
    refine lv_aload_n hx hb d_Mod_match_16 rfl (lv_at hl 0 rfl) ?_
    obtain ⟨x3, ex3, hf⟩ := z_bs hf
    refine z_getF X hI (k := 8) (ci := 12) (gI_s ex3) i_Mod rfl (by decide) wf_Mod_293 d_Mod_match_17 ?_
    refine lv_if_ne (tgt := 29) hx hb d_Mod_match_20 (by decide) (fun c4 => ?_) (fun c4 => ?_)
    · rw [if_neg c4] at hf
      refine lv_iload_n hx hb d_Mod_match_29 rfl (lv_at hl 1 rfl) ?_
      refine lv_iconst (v := 0) hx hb d_Mod_match_30 (by decide) ?_
      refine lv_aload_n hx hb d_Mod_match_31 rfl (lv_at hl 0 rfl) ?_
      obtain ⟨x5, ex5, hf⟩ := z_bs hf
      refine z_getF X hI (k := 24) (ci := 12) (gR_s ex5) i_Mod rfl (by decide) wf_Mod_69 d_Mod_match_32 ?_
      refine lv_aload_n hx hb d_Mod_match_35 rfl (lv_at hl 0 rfl) ?_
      obtain ⟨x6, ex6, hf⟩ := z_bs hf
      refine z_getF X hI (k := 7) (ci := 12) (gI_s ex6) i_Mod rfl (by decide) wf_Mod_284 d_Mod_match_36 ?_
      obtain ⟨x7, ex7, hf⟩ := z_bs hf
      refine z_iald X hI ex7 d_Mod_match_39 ?_
      refine lv_iconst (v := 1) hx hb d_Mod_match_40 (by decide) ?_
      refine lv_isub hx hb d_Mod_match_41 ?_
      obtain ⟨r8, er8, hf⟩ := z_bs hf
      refine z_callS (As := [.int v1, .int 0, .int (x7 - 1)]) (rest := []) (r := (some (.int r8.1))) (h' := r8.2) X hI (s_Mod_in er8) rfl wm_Mod_154 yi_Mod_in rfl hl.1 rfl (Nat.le_of_ble_eq_true rfl) (by decide) (by decide) d_Mod_match_42 (fun H locs hI => ?_)
      refine W.eq (g2 := F0 m 45 ls [.int (r8.1)]) rfl ?_
      refine lv_if_eq (tgt := 62) hx hb d_Mod_match_45 (by decide) (fun c9 => ?_) (fun c9 => ?_)
      · rw [if_pos c9] at hf
        exact s_Mod_match_62 X  v0 r8.2 _ _ _ hI (lv_sub hl [0] rfl) hf
      · rw [if_neg c9] at hf
        refine lv_iload_n hx hb d_Mod_match_48 rfl (lv_at hl 2 rfl) ?_
        refine lv_iconst (v := 0) hx hb d_Mod_match_49 (by decide) ?_
        refine lv_aload_n hx hb d_Mod_match_50 rfl (lv_at hl 0 rfl) ?_
        obtain ⟨x10, ex10, hf⟩ := z_bs hf
        refine z_getF X hI (k := 4) (ci := 12) (gI_s ex10) i_Mod rfl (by decide) wf_Mod_169 d_Mod_match_51 ?_
        refine lv_iconst (v := 1) hx hb d_Mod_match_54 (by decide) ?_
        refine lv_isub hx hb d_Mod_match_55 ?_
        obtain ⟨r11, er11, hf⟩ := z_bs hf
        refine z_callS (As := [.int v2, .int 0, .int (x10 - 1)]) (rest := []) (r := (some (.int r11.1))) (h' := r11.2) X hI (s_Mod_in er11) rfl wm_Mod_154 yi_Mod_in rfl hl.1 rfl (Nat.le_of_ble_eq_true rfl) (by decide) (by decide) d_Mod_match_56 (fun H locs hI => ?_)
        refine W.eq (g2 := F0 m 59 ls [.int (r11.1)]) rfl ?_
        refine lv_if_ne (tgt := 68) hx hb d_Mod_match_59 (by decide) (fun c12 => ?_) (fun c12 => ?_)
        · rw [if_neg c12] at hf
          refine lv_bipush (v := 40) hx hb d_Mod_match_68 (by decide) ?_
          refine lv_aload_n hx hb d_Mod_match_70 rfl (lv_at hl 0 rfl) ?_
          obtain ⟨x13, ex13, hf⟩ := z_bs hf
          refine z_getF X hI (k := 7) (ci := 12) (gI_s ex13) i_Mod rfl (by decide) wf_Mod_284 d_Mod_match_71 ?_
          refine lv_imul hx hb d_Mod_match_74 ?_
          refine lv_iload_n hx hb d_Mod_match_75 rfl (lv_at hl 1 rfl) ?_
          refine lv_iadd hx hb d_Mod_match_76 ?_
          obtain ⟨x14, ex14, hf⟩ := z_bs hf
          refine z_topi (Option.some.inj ex14) ?_
          refine lv_istore (lv' := [(4, .int x14), (0, .ref v0), (1, .int v1), (2, .int v2), (3, .int v3)]) hx hb d_Mod_match_77 hl (by decide) rfl (fun ls hl => ?_)
          refine lv_aload_n hx hb d_Mod_match_79 rfl (lv_at hl 1 rfl) ?_
          obtain ⟨x15, ex15, hf⟩ := z_bs hf
          refine z_getF X hI (k := 9) (ci := 12) (gR_s ex15) i_Mod rfl (by decide) wf_Mod_23 d_Mod_match_80 ?_
          refine lv_iload hx hb d_Mod_match_83 (lv_at hl 0 rfl) ?_
          obtain ⟨x16, ex16, hf⟩ := z_bs hf
          refine z_iald X hI ex16 d_Mod_match_85 ?_
          refine lv_bipush (v := 115) hx hb d_Mod_match_86 (by decide) ?_
          refine lv_icmp_eq (tgt := 97) hx hb d_Mod_match_88 (by decide) (fun c17 => ?_) (fun c17 => ?_)
          · rw [if_pos c17] at hf
            refine lv_aload_n hx hb d_Mod_match_97 rfl (lv_at hl 1 rfl) ?_
            refine lv_iconst (v := 0) hx hb d_Mod_match_98 (by decide) ?_
            obtain ⟨h18, eh18, hf⟩ := z_bs hf
            refine z_putF X hI (k := 6) (ci := 12) (ty0 := t_Mod) eh18 i_Mod t_Mod_ok n_Mod rfl (by decide) wf_Mod_151 rfl rfl rfl d_Mod_match_99 (fun H locs hI => ?_)
            refine lv_aload_n hx hb d_Mod_match_102 rfl (lv_at hl 1 rfl) ?_
            refine lv_iload_n hx hb d_Mod_match_103 rfl (lv_at hl 3 rfl) ?_
            obtain ⟨u19, eu19, hf⟩ := z_bs hf
            obtain ⟨r20, er20, hf⟩ := z_bs hf
            refine z_callV (As := [.int v2]) (rest := []) (r := none) (h' := r20) X hI eu19 (s_Mod_takeLine er20) rfl rfl wm_Mod_322 yi_Mod_takeLine rfl hl.1 rfl (Nat.le_of_ble_eq_true rfl) (by decide) (by decide) d_Mod_match_104 (fun H locs hI => ?_)
            refine W.eq (g2 := F0 m 107 ls []) rfl ?_
            refine lv_aload_n hx hb d_Mod_match_107 rfl (lv_at hl 1 rfl) ?_
            refine lv_aload_n hx hb d_Mod_match_108 rfl (lv_at hl 1 rfl) ?_
            obtain ⟨x21, ex21, hf⟩ := z_bs hf
            refine z_getF X hI (k := 14) (ci := 12) (gR_s ex21) i_Mod rfl (by decide) wf_Mod_38 d_Mod_match_109 ?_
            refine lv_iload hx hb d_Mod_match_112 (lv_at hl 0 rfl) ?_
            obtain ⟨x22, ex22, hf⟩ := z_bs hf
            refine z_iald X hI ex22 d_Mod_match_114 ?_
            refine lv_iconst (v := 0) hx hb d_Mod_match_115 (by decide) ?_
            obtain ⟨u23, eu23, hf⟩ := z_bs hf
            obtain ⟨r24, er24, hf⟩ := z_bs hf
            refine z_callV (As := [.int x22, .int 0]) (rest := []) (r := (some (.int r24.1))) (h' := r24.2) X hI eu23 (s_Mod_find er24) rfl rfl wm_Mod_325 yi_Mod_find rfl hl.1 rfl (Nat.le_of_ble_eq_true rfl) (by decide) (by decide) d_Mod_match_116 (fun H locs hI => ?_)
            refine W.eq (g2 := F0 m 119 ls [.int (r24.1)]) rfl ?_
            obtain ⟨x25, ex25, hf⟩ := z_bs hf
            refine z_topi (Option.some.inj ex25) ?_
            refine lv_istore (lv' := [(5, .int x25), (4, .int x14), (0, .ref v0), (1, .int v1), (2, .int v2), (3, .int v3)]) hx hb d_Mod_match_119 hl (by decide) rfl (fun ls hl => ?_)
            refine lv_iload hx hb d_Mod_match_121 (lv_at hl 0 rfl) ?_
            refine lv_if_ne (tgt := 129) hx hb d_Mod_match_123 (by decide) (fun c26 => ?_) (fun c26 => ?_)
            · rw [if_neg c26] at hf
              refine lv_iload_n hx hb d_Mod_match_129 rfl (lv_at hl 5 rfl) ?_
              refine lv_iconst (v := 2) hx hb d_Mod_match_130 (by decide) ?_
              refine lv_icmp_ge (tgt := 155) hx hb d_Mod_match_131 (by decide) (fun c27 => ?_) (fun c27 => ?_)
              · rw [if_pos c27] at hf
                refine lv_iload_n hx hb d_Mod_match_155 rfl (lv_at hl 5 rfl) ?_
                refine lv_iconst (v := 1) hx hb d_Mod_match_156 (by decide) ?_
                refine lv_iand hx hb d_Mod_match_157 ?_
                refine lv_if_ne (tgt := 172) hx hb d_Mod_match_158 (by decide) (fun c28 => ?_) (fun c28 => ?_)
                · rw [if_neg c28] at hf
                  refine lv_aload_n hx hb d_Mod_match_172 rfl (lv_at hl 2 rfl) ?_
                  obtain ⟨x29, ex29, hf⟩ := z_bs hf
                  refine z_getF X hI (k := 53) (ci := 12) (gR_s ex29) i_Mod rfl (by decide) wf_Mod_127 d_Mod_match_173 ?_
                  refine lv_iload_n hx hb d_Mod_match_176 rfl (lv_at hl 5 rfl) ?_
                  refine lv_iconst (v := 2) hx hb d_Mod_match_177 (by decide) ?_
                  refine lv_idiv hx hb d_Mod_match_178 (by decide) ?_
                  obtain ⟨x30, ex30, hf⟩ := z_bs hf
                  refine z_iald X hI ex30 d_Mod_match_179 ?_
                  cases hf
                  exact z_iret X hI d_Mod_match_180
                · rw [if_pos c28] at hf
                  refine lv_aload_n hx hb d_Mod_match_161 rfl (lv_at hl 2 rfl) ?_
                  obtain ⟨x31, ex31, hf⟩ := z_bs hf
                  refine z_getF X hI (k := 52) (ci := 12) (gR_s ex31) i_Mod rfl (by decide) wf_Mod_124 d_Mod_match_162 ?_
                  refine lv_iload_n hx hb d_Mod_match_165 rfl (lv_at hl 5 rfl) ?_
                  refine lv_iconst (v := 2) hx hb d_Mod_match_166 (by decide) ?_
                  refine lv_idiv hx hb d_Mod_match_167 (by decide) ?_
                  obtain ⟨x32, ex32, hf⟩ := z_bs hf
                  refine z_iald X hI ex32 d_Mod_match_168 ?_
                  refine lv_goto (tgt := 180) hx hb d_Mod_match_169 (by decide) ?_
                  cases hf
                  exact z_iret X hI d_Mod_match_180
              · rw [if_neg c27] at hf
                refine lv_iload_n hx hb d_Mod_match_134 rfl (lv_at hl 5 rfl) ?_
                refine lv_if_ne (tgt := 145) hx hb d_Mod_match_135 (by decide) (fun c33 => ?_) (fun c33 => ?_)
                · rw [if_neg c33] at hf
                  refine lv_aload_n hx hb d_Mod_match_145 rfl (lv_at hl 2 rfl) ?_
                  obtain ⟨x34, ex34, hf⟩ := z_bs hf
                  refine z_getF X hI (k := 57) (ci := 12) (gI_s ex34) i_Mod rfl (by decide) wf_Mod_316 d_Mod_match_146 ?_
                  refine lv_aload_n hx hb d_Mod_match_149 rfl (lv_at hl 2 rfl) ?_
                  obtain ⟨x35, ex35, hf⟩ := z_bs hf
                  refine z_getF X hI (k := 56) (ci := 12) (gI_s ex35) i_Mod rfl (by decide) wf_Mod_313 d_Mod_match_150 ?_
                  refine lv_isub hx hb d_Mod_match_153 ?_
                  cases hf
                  exact z_iret X hI d_Mod_match_154
                · rw [if_pos c33] at hf
                  refine lv_aload_n hx hb d_Mod_match_138 rfl (lv_at hl 2 rfl) ?_
                  obtain ⟨x36, ex36, hf⟩ := z_bs hf
                  refine z_getF X hI (k := 56) (ci := 12) (gI_s ex36) i_Mod rfl (by decide) wf_Mod_313 d_Mod_match_139 ?_
                  refine lv_goto (tgt := 154) hx hb d_Mod_match_142 (by decide) ?_
                  cases hf
                  exact z_iret X hI d_Mod_match_154
            · rw [if_pos c26] at hf
              refine lv_bipush (v := (-2)) hx hb d_Mod_match_126 (by decide) ?_
              cases hf
              exact z_iret X hI d_Mod_match_128
          · rw [if_neg c17] at hf
            refine lv_aload_n hx hb d_Mod_match_91 rfl (lv_at hl 1 rfl) ?_
            refine lv_iconst (v := 1) hx hb d_Mod_match_92 (by decide) ?_
            obtain ⟨u37, eu37, hf⟩ := z_bs hf
            obtain ⟨r38, er38, hf⟩ := z_bs hf
            refine z_callV (As := [.int 1]) (rest := []) (r := (some (.int r38.1))) (h' := r38.2) X hI eu37 (s_Mod_fail er38) rfl rfl wm_Mod_162 yi_Mod_fail rfl hl.1 rfl (Nat.le_of_ble_eq_true rfl) (by decide) (by decide) d_Mod_match_93 (fun H locs hI => ?_)
            refine W.eq (g2 := F0 m 96 ls [.int (r38.1)]) rfl ?_
            cases hf
            exact z_iret X hI d_Mod_match_96
        · rw [if_pos c12] at hf
          exact s_Mod_match_62 X  v0 r11.2 _ _ _ hI (lv_sub hl [0] rfl) hf
    · rw [if_pos c4] at hf
      refine lv_aload_n hx hb d_Mod_match_23 rfl (lv_at hl 0 rfl) ?_
      refine lv_iconst (v := 3) hx hb d_Mod_match_24 (by decide) ?_
      obtain ⟨u39, eu39, hf⟩ := z_bs hf
      obtain ⟨r40, er40, hf⟩ := z_bs hf
      refine z_callV (As := [.int 3]) (rest := []) (r := (some (.int r40.1))) (h' := r40.2) X hI eu39 (s_Mod_fail er40) rfl rfl wm_Mod_162 yi_Mod_fail rfl hl.1 rfl (Nat.le_of_ble_eq_true rfl) (by decide) (by decide) d_Mod_match_25 (fun H locs hI => ?_)
      refine W.eq (g2 := F0 m 28 ls [.int (r40.1)]) rfl ?_
      cases hf
      exact z_iret X hI d_Mod_match_28
  · rw [if_pos c2] at hf
    refine lv_aload_n hx hb d_Mod_match_10 rfl (lv_at hl 0 rfl) ?_
    refine lv_iconst (v := 1) hx hb d_Mod_match_11 (by decide) ?_
    obtain ⟨u41, eu41, hf⟩ := z_bs hf
    obtain ⟨r42, er42, hf⟩ := z_bs hf
    refine z_callV (As := [.int 1]) (rest := []) (r := (some (.int r42.1))) (h' := r42.2) X hI eu41 (s_Mod_fail er42) rfl rfl wm_Mod_162 yi_Mod_fail rfl hl.1 rfl (Nat.le_of_ble_eq_true rfl) (by decide) (by decide) d_Mod_match_12 (fun H locs hI => ?_)
    refine W.eq (g2 := F0 m 15 ls [.int (r42.1)]) rfl ?_
    cases hf
    exact z_iret X hI d_Mod_match_15
def f_Mod_full (N : Nat) (v0 : Nat) (h : z_H) : Option (Int32 × z_H) :=
  z_b (sF h v0 12 6 (.int 2)) fun h1 =>
  z_b (sF h1 v0 12 76 (.int 1)) fun h2 =>
  some (0, h2)
set_option maxRecDepth 20000 in
set_option maxHeartbeats 2000000 in
theorem s_Mod_full {l : Launch} {D : va_G} {dA : Nat → ClassId} {B N : Nat} {v0 : Nat} {h h' : z_H} {r : Int32} (hf : f_Mod_full N v0 h = some (r, h')) : z_Met l y_Mod_full prog_14_method_45_code 1 (some .boolean) 0 0 D dA B [.ref v0] h (some (.int r)) h' := by
  refine z_of (by decide) (Nat.le_of_ble_eq_true rfl) (fun p e s m below meth c ls X hI hl => ?_)
  have hx := z_hx X
  have hb := z_hb X
  have hl : lv_has ls 1 [(0, .ref v0)] := hl
  unfold f_Mod_full at hf
  obtain ⟨locs, hlo⟩ : ∃ z : List Loc, z = [] := ⟨_, rfl⟩
  rw [← hlo] at hI ⊢
  refine lv_aload_n hx hb d_Mod_full_0 rfl (lv_at hl 0 rfl) ?_
  refine lv_iconst (v := 2) hx hb d_Mod_full_1 (by decide) ?_
  obtain ⟨h1, eh1, hf⟩ := z_bs hf
  refine z_putF X hI (k := 6) (ci := 12) (ty0 := t_Mod) eh1 i_Mod t_Mod_ok n_Mod rfl (by decide) wf_Mod_151 rfl rfl rfl d_Mod_full_2 (fun H locs hI => ?_)
  refine lv_aload_n hx hb d_Mod_full_5 rfl (lv_at hl 0 rfl) ?_
  refine lv_iconst (v := 1) hx hb d_Mod_full_6 (by decide) ?_
  obtain ⟨h2, eh2, hf⟩ := z_bs hf
  refine z_putF X hI (k := 76) (ci := 12) (ty0 := t_Mod) eh2 i_Mod t_Mod_ok n_Mod rfl (by decide) wf_Mod_328 rfl rfl rfl d_Mod_full_7 (fun H locs hI => ?_)
  refine lv_iconst (v := 0) hx hb d_Mod_full_10 (by decide) ?_
  cases hf
  exact z_zret X hI (Or.inl rfl) d_Mod_full_11
def f_Mod_tell_24 (N : Nat)  : Nat → Nat → Int32 → z_H → Option (Int32 × z_H)
  | 0, _, _, _ => none
  | n + 1, v0, v1, h =>
    z_b (gI h v0 12 67) fun x1 =>
    if x1 ≤ v1 then
    (z_b (gR h v0 12 62) fun x3 =>
    z_b (gI h v0 12 69) fun x4 =>
    z_b (gI h v0 12 67) fun x5 =>
    z_b (uI h x3 0 (x4 + x5) 10) fun h6 =>
    z_b (gI h6 v0 12 69) fun x7 =>
    z_b (gI h6 v0 12 67) fun x8 =>
    z_b (sF h6 v0 12 69 (.int (x7 + (x8 + 1)))) fun h9 =>
    some (1, h9))
    else
    (z_b (gR h v0 12 62) fun x10 =>
    z_b (gI h v0 12 69) fun x11 =>
    z_b (gR h v0 12 60) fun x12 =>
    z_b (aI h x12 0 v1) fun x13 =>
    z_b (uI h x10 0 (x11 + v1) x13) fun h14 =>
    z_b (some (v1 + 1)) fun x15 =>
    (f_Mod_tell_24 N  n) v0 x15 h14)
set_option maxRecDepth 20000 in
set_option maxHeartbeats 2000000 in
theorem s_Mod_tell_24 (X : z_X p s m args meth c prog_14_method_46_code 2 (some .boolean) Ts "StreamForgeModel" D dA B) {N : Nat} {r : Int32} {h' : z_H}   : ∀ n : Nat, ∀ (v0 : Nat) (v1 : Int32) (h : z_H) (H : Heap) (locs : List Loc) (ls : Array Slot), z_I D dA B h s.heap H locs → lv_has ls 2 [(0, .ref v0), (1, .int v1)] → f_Mod_tell_24 N  n v0 v1 h = some (r, h') → W p l e (z_rm 1 20) s m args below meth c H locs 0 0 (MQ below (z_Q D dA B (some (.int r)) h') args s 0 0 (fun q => B ≤ q)) (F0 m 24 ls []) := by
  have hx := z_hx X
  have hb := z_hb X
  intro n
  induction n with
  | zero => intro v0 v1 h H locs ls hI hl hf; rw [f_Mod_tell_24] at hf; cases hf
  | succ n ih =>
    intro v0 v1 h H locs ls hI hl hf
    rw [f_Mod_tell_24] at hf
    refine lv_iload_n hx hb d_Mod_tell_24 rfl (lv_at hl 1 rfl) ?_
    refine lv_aload_n hx hb d_Mod_tell_25 rfl (lv_at hl 0 rfl) ?_
    obtain ⟨x1, ex1, hf⟩ := z_bs hf
    refine z_getF X hI (k := 67) (ci := 12) (gI_s ex1) i_Mod rfl (by decide) wf_Mod_334 d_Mod_tell_26 ?_
    refine lv_icmp_ge (tgt := 55) hx hb d_Mod_tell_29 (by decide) (fun c2 => ?_) (fun c2 => ?_)
    · rw [if_pos c2] at hf
      refine lv_aload_n hx hb d_Mod_tell_55 rfl (lv_at hl 0 rfl) ?_
      obtain ⟨x3, ex3, hf⟩ := z_bs hf
      refine z_getF X hI (k := 62) (ci := 12) (gR_s ex3) i_Mod rfl (by decide) wf_Mod_142 d_Mod_tell_56 ?_
      refine lv_aload_n hx hb d_Mod_tell_59 rfl (lv_at hl 0 rfl) ?_
      obtain ⟨x4, ex4, hf⟩ := z_bs hf
      refine z_getF X hI (k := 69) (ci := 12) (gI_s ex4) i_Mod rfl (by decide) wf_Mod_331 d_Mod_tell_60 ?_
      refine lv_aload_n hx hb d_Mod_tell_63 rfl (lv_at hl 0 rfl) ?_
      obtain ⟨x5, ex5, hf⟩ := z_bs hf
      refine z_getF X hI (k := 67) (ci := 12) (gI_s ex5) i_Mod rfl (by decide) wf_Mod_334 d_Mod_tell_64 ?_
      refine lv_iadd hx hb d_Mod_tell_67 ?_
      refine lv_bipush (v := 10) hx hb d_Mod_tell_68 (by decide) ?_
      obtain ⟨h6, eh6, hf⟩ := z_bs hf
      refine z_iast X hI eh6 d_Mod_tell_70 (fun H locs hI => ?_)
      refine lv_aload_n hx hb d_Mod_tell_71 rfl (lv_at hl 0 rfl) ?_
      refine lv_dup hx hb d_Mod_tell_72 rfl ?_
      obtain ⟨x7, ex7, hf⟩ := z_bs hf
      refine z_getF X hI (k := 69) (ci := 12) (gI_s ex7) i_Mod rfl (by decide) wf_Mod_331 d_Mod_tell_73 ?_
      refine lv_aload_n hx hb d_Mod_tell_76 rfl (lv_at hl 0 rfl) ?_
      obtain ⟨x8, ex8, hf⟩ := z_bs hf
      refine z_getF X hI (k := 67) (ci := 12) (gI_s ex8) i_Mod rfl (by decide) wf_Mod_334 d_Mod_tell_77 ?_
      refine lv_iconst (v := 1) hx hb d_Mod_tell_80 (by decide) ?_
      refine lv_iadd hx hb d_Mod_tell_81 ?_
      refine lv_iadd hx hb d_Mod_tell_82 ?_
      obtain ⟨h9, eh9, hf⟩ := z_bs hf
      refine z_putF X hI (k := 69) (ci := 12) (ty0 := t_Mod) eh9 i_Mod t_Mod_ok n_Mod rfl (by decide) wf_Mod_331 rfl rfl rfl d_Mod_tell_83 (fun H locs hI => ?_)
      refine lv_iconst (v := 1) hx hb d_Mod_tell_86 (by decide) ?_
      cases hf
      exact z_zret X hI (Or.inr rfl) d_Mod_tell_87
    · rw [if_neg c2] at hf
      refine lv_aload_n hx hb d_Mod_tell_32 rfl (lv_at hl 0 rfl) ?_
      obtain ⟨x10, ex10, hf⟩ := z_bs hf
      refine z_getF X hI (k := 62) (ci := 12) (gR_s ex10) i_Mod rfl (by decide) wf_Mod_142 d_Mod_tell_33 ?_
      refine lv_aload_n hx hb d_Mod_tell_36 rfl (lv_at hl 0 rfl) ?_
      obtain ⟨x11, ex11, hf⟩ := z_bs hf
      refine z_getF X hI (k := 69) (ci := 12) (gI_s ex11) i_Mod rfl (by decide) wf_Mod_331 d_Mod_tell_37 ?_
      refine lv_iload_n hx hb d_Mod_tell_40 rfl (lv_at hl 1 rfl) ?_
      refine lv_iadd hx hb d_Mod_tell_41 ?_
      refine lv_aload_n hx hb d_Mod_tell_42 rfl (lv_at hl 0 rfl) ?_
      obtain ⟨x12, ex12, hf⟩ := z_bs hf
      refine z_getF X hI (k := 60) (ci := 12) (gR_s ex12) i_Mod rfl (by decide) wf_Mod_136 d_Mod_tell_43 ?_
      refine lv_iload_n hx hb d_Mod_tell_46 rfl (lv_at hl 1 rfl) ?_
      obtain ⟨x13, ex13, hf⟩ := z_bs hf
      refine z_iald X hI ex13 d_Mod_tell_47 ?_
      obtain ⟨h14, eh14, hf⟩ := z_bs hf
      refine z_iast X hI eh14 d_Mod_tell_48 (fun H locs hI => ?_)
      obtain ⟨x15, ex15, hf⟩ := z_bs hf
      refine lv_iinc (v := x15) (lv' := [(1, .int x15), (0, .ref v0)]) hx hb d_Mod_tell_49 hl (k := 1) rfl (by rw [← Option.some.inj ex15]; rfl) (by decide) rfl (fun ls hl => ?_)
      refine lv_goto (tgt := 24) hx hb d_Mod_tell_52 (by decide) ?_
      exact ih v0 x15 h14 _ _ _ hI (lv_sub hl [1, 0] rfl) hf
def f_Mod_tell (N : Nat) (v0 : Nat) (h : z_H) : Option (Int32 × z_H) :=
  z_b (gI h v0 12 69) fun x1 =>
  z_b (gI h v0 12 67) fun x2 =>
  if ((x1 + x2) + 1) ≤ 600 then
  (f_Mod_tell_24 N N v0 0 h)
  else
  (z_b (gO h v0 12) fun u4 =>
  z_b (f_Mod_full N v0 h) fun r5 =>
  z_b (zB (r5.1)) fun x6 =>
  some (x6, r5.2))
set_option maxRecDepth 20000 in
set_option maxHeartbeats 2000000 in
theorem s_Mod_tell {l : Launch} {D : va_G} {dA : Nat → ClassId} {B N : Nat} {v0 : Nat} {h h' : z_H} {r : Int32} (hf : f_Mod_tell N v0 h = some (r, h')) : z_Met l y_Mod_tell prog_14_method_46_code 2 (some .boolean) 1 20 D dA B [.ref v0] h (some (.int r)) h' := by
  refine z_of (by decide) (Nat.le_of_ble_eq_true rfl) (fun p e s m below meth c ls X hI hl => ?_)
  have hx := z_hx X
  have hb := z_hb X
  have hl : lv_has ls 2 [(0, .ref v0)] := hl
  unfold f_Mod_tell at hf
  obtain ⟨locs, hlo⟩ : ∃ z : List Loc, z = [] := ⟨_, rfl⟩
  rw [← hlo] at hI ⊢
  refine lv_aload_n hx hb d_Mod_tell_0 rfl (lv_at hl 0 rfl) ?_
  obtain ⟨x1, ex1, hf⟩ := z_bs hf
  refine z_getF X hI (k := 69) (ci := 12) (gI_s ex1) i_Mod rfl (by decide) wf_Mod_331 d_Mod_tell_1 ?_
  refine lv_aload_n hx hb d_Mod_tell_4 rfl (lv_at hl 0 rfl) ?_
  obtain ⟨x2, ex2, hf⟩ := z_bs hf
  refine z_getF X hI (k := 67) (ci := 12) (gI_s ex2) i_Mod rfl (by decide) wf_Mod_334 d_Mod_tell_5 ?_
  refine lv_iadd hx hb d_Mod_tell_8 ?_
  refine lv_iconst (v := 1) hx hb d_Mod_tell_9 (by decide) ?_
  refine lv_iadd hx hb d_Mod_tell_10 ?_
  refine lv_sipush (v := 600) hx hb d_Mod_tell_11 (by decide) ?_
  refine lv_icmp_le (tgt := 22) hx hb d_Mod_tell_14 (by decide) (fun c3 => ?_) (fun c3 => ?_)
  · rw [if_pos c3] at hf
    refine lv_iconst (v := 0) hx hb d_Mod_tell_22 (by decide) ?_
    refine lv_istore_n (lv' := [(1, .int 0), (0, .ref v0)]) hx hb d_Mod_tell_23 rfl hl (by decide) rfl (fun ls hl => ?_)
    exact s_Mod_tell_24 X  N v0 0 h _ _ _ hI (lv_sub hl [1, 0] rfl) hf
  · rw [if_neg c3] at hf
    refine lv_aload_n hx hb d_Mod_tell_17 rfl (lv_at hl 0 rfl) ?_
    obtain ⟨u4, eu4, hf⟩ := z_bs hf
    obtain ⟨r5, er5, hf⟩ := z_bs hf
    refine z_callV (As := []) (rest := []) (r := (some (.int r5.1))) (h' := r5.2) X hI eu4 (s_Mod_full er5) rfl rfl wm_Mod_337 yi_Mod_full rfl hl.1 rfl (Nat.le_of_ble_eq_true rfl) (by decide) (by decide) d_Mod_tell_18 (fun H locs hI => ?_)
    refine W.eq (g2 := F0 m 21 ls [.int (r5.1)]) rfl ?_
    obtain ⟨x6, ex6, hf⟩ := z_bs hf
    refine z_topi (zB_s ex6).1 ?_
    cases hf
    exact z_zret X hI (zB_s2 ex6) d_Mod_tell_21
def f_Mod_tellSpace_41 (N : Nat) (k9 : Nat → Int32 → Int32 → Int32 → z_H → Option (Int32 × z_H)) (v0 : Nat) (v1 : Int32) (v3 : Int32) (s0 : Int32) (h : z_H) : Option (Int32 × z_H) :=
  if s0 = 0 then
  (z_b (some (v3 + 1)) fun x2 =>
  k9 v0 v1 s0 x2 h)
  else
  (z_b (gR h v0 12 60) fun x3 =>
  z_b (gI h v0 12 67) fun x4 =>
  z_b (sF h v0 12 67 (.int (x4 + 1))) fun h5 =>
  z_b (gR h5 v0 12 58) fun x6 =>
  z_b (aI h5 x6 0 v3) fun x7 =>
  z_b (uI h5 x3 0 x4 x7) fun h8 =>
  z_b (some (v3 + 1)) fun x9 =>
  k9 v0 v1 s0 x9 h8)
set_option maxRecDepth 20000 in
set_option maxHeartbeats 2000000 in
theorem s_Mod_tellSpace_41 (X : z_X p s m args meth c prog_14_method_47_code 4 (some .boolean) Ts "StreamForgeModel" D dA B) {N : Nat} {r : Int32} {h' : z_H} {k9 : Nat → Int32 → Int32 → Int32 → z_H → Option (Int32 × z_H)} (hk9 : ∀ (v0 : Nat) (v1 : Int32) (v2 : Int32) (v3 : Int32) (h : z_H) (H : Heap) (locs : List Loc) (ls : Array Slot), z_I D dA B h s.heap H locs → lv_has ls 4 [(0, .ref v0), (1, .int v1), (2, .int v2), (3, .int v3)] → k9 v0 v1 v2 v3 h = some (r, h') → W p l e (z_rm 2 41) s m args below meth c H locs 0 0 (MQ below (z_Q D dA B (some (.int r)) h') args s 0 0 (fun q => B ≤ q)) (F0 m 9 ls [])) : ∀ (v0 : Nat) (v1 : Int32) (v3 : Int32) (s0 : Int32) (h : z_H) (H : Heap) (locs : List Loc) (ls : Array Slot), z_I D dA B h s.heap H locs → lv_has ls 4 [(0, .ref v0), (1, .int v1), (3, .int v3)] → f_Mod_tellSpace_41 N k9 v0 v1 v3 s0 h = some (r, h') → W p l e (z_rm 2 41) s m args below meth c H locs 0 0 (MQ below (z_Q D dA B (some (.int r)) h') args s 0 0 (fun q => B ≤ q)) (F0 m 41 ls [.int s0]) := by
  have hx := z_hx X
  have hb := z_hb X
  intro v0 v1 v3 s0 h H locs ls hI hl hf
  unfold f_Mod_tellSpace_41 at hf
  refine lv_istore_n (lv' := [(2, .int s0), (0, .ref v0), (1, .int v1), (3, .int v3)]) hx hb d_Mod_tellSpace_41 rfl hl (by decide) rfl (fun ls hl => ?_)
  refine lv_iload_n hx hb d_Mod_tellSpace_42 rfl (lv_at hl 0 rfl) ?_
  refine lv_if_eq (tgt := 68) hx hb d_Mod_tellSpace_43 (by decide) (fun c1 => ?_) (fun c1 => ?_)
  · rw [if_pos c1] at hf
    obtain ⟨x2, ex2, hf⟩ := z_bs hf
    refine lv_iinc (v := x2) (lv' := [(3, .int x2), (2, .int s0), (0, .ref v0), (1, .int v1)]) hx hb d_Mod_tellSpace_68 hl (k := 3) rfl (by rw [← Option.some.inj ex2]; rfl) (by decide) rfl (fun ls hl => ?_)
    refine lv_goto (tgt := 9) hx hb d_Mod_tellSpace_71 (by decide) ?_
    exact hk9 v0 v1 s0 x2 h _ _ _ hI (lv_sub hl [2, 3, 1, 0] rfl) hf
  · rw [if_neg c1] at hf
    refine lv_aload_n hx hb d_Mod_tellSpace_46 rfl (lv_at hl 1 rfl) ?_
    obtain ⟨x3, ex3, hf⟩ := z_bs hf
    refine z_getF X hI (k := 60) (ci := 12) (gR_s ex3) i_Mod rfl (by decide) wf_Mod_136 d_Mod_tellSpace_47 ?_
    refine lv_aload_n hx hb d_Mod_tellSpace_50 rfl (lv_at hl 1 rfl) ?_
    refine lv_dup hx hb d_Mod_tellSpace_51 rfl ?_
    obtain ⟨x4, ex4, hf⟩ := z_bs hf
    refine z_getF X hI (k := 67) (ci := 12) (gI_s ex4) i_Mod rfl (by decide) wf_Mod_334 d_Mod_tellSpace_52 ?_
    refine lv_dup_x1 hx hb d_Mod_tellSpace_55 rfl rfl ?_
    refine lv_iconst (v := 1) hx hb d_Mod_tellSpace_56 (by decide) ?_
    refine lv_iadd hx hb d_Mod_tellSpace_57 ?_
    obtain ⟨h5, eh5, hf⟩ := z_bs hf
    refine z_putF X hI (k := 67) (ci := 12) (ty0 := t_Mod) eh5 i_Mod t_Mod_ok n_Mod rfl (by decide) wf_Mod_334 rfl rfl rfl d_Mod_tellSpace_58 (fun H locs hI => ?_)
    refine lv_aload_n hx hb d_Mod_tellSpace_61 rfl (lv_at hl 1 rfl) ?_
    obtain ⟨x6, ex6, hf⟩ := z_bs hf
    refine z_getF X hI (k := 58) (ci := 12) (gR_s ex6) i_Mod rfl (by decide) wf_Mod_130 d_Mod_tellSpace_62 ?_
    refine lv_iload_n hx hb d_Mod_tellSpace_65 rfl (lv_at hl 3 rfl) ?_
    obtain ⟨x7, ex7, hf⟩ := z_bs hf
    refine z_iald X hI ex7 d_Mod_tellSpace_66 ?_
    obtain ⟨h8, eh8, hf⟩ := z_bs hf
    refine z_iast X hI eh8 d_Mod_tellSpace_67 (fun H locs hI => ?_)
    obtain ⟨x9, ex9, hf⟩ := z_bs hf
    refine lv_iinc (v := x9) (lv' := [(3, .int x9), (2, .int s0), (0, .ref v0), (1, .int v1)]) hx hb d_Mod_tellSpace_68 hl (k := 3) rfl (by rw [← Option.some.inj ex9]; rfl) (by decide) rfl (fun ls hl => ?_)
    refine lv_goto (tgt := 9) hx hb d_Mod_tellSpace_71 (by decide) ?_
    exact hk9 v0 v1 s0 x9 h8 _ _ _ hI (lv_sub hl [2, 3, 1, 0] rfl) hf
def f_Mod_tellSpace_74 (N : Nat)  (v0 : Nat) (h : z_H) : Option (Int32 × z_H) :=
  z_b (gO h v0 12) fun u1 =>
  z_b (f_Mod_tell N v0 h) fun r2 =>
  z_b (zB (r2.1)) fun x3 =>
  some (x3, r2.2)
set_option maxRecDepth 20000 in
set_option maxHeartbeats 2000000 in
theorem s_Mod_tellSpace_74 (X : z_X p s m args meth c prog_14_method_47_code 4 (some .boolean) Ts "StreamForgeModel" D dA B) {N : Nat} {r : Int32} {h' : z_H}   : ∀ (v0 : Nat) (h : z_H) (H : Heap) (locs : List Loc) (ls : Array Slot), z_I D dA B h s.heap H locs → lv_has ls 4 [(0, .ref v0)] → f_Mod_tellSpace_74 N  v0 h = some (r, h') → W p l e (z_rm 2 41) s m args below meth c H locs 0 0 (MQ below (z_Q D dA B (some (.int r)) h') args s 0 0 (fun q => B ≤ q)) (F0 m 74 ls []) := by
  have hx := z_hx X
  have hb := z_hb X
  intro v0 h H locs ls hI hl hf
  unfold f_Mod_tellSpace_74 at hf
  refine lv_aload_n hx hb d_Mod_tellSpace_74 rfl (lv_at hl 0 rfl) ?_
  obtain ⟨u1, eu1, hf⟩ := z_bs hf
  obtain ⟨r2, er2, hf⟩ := z_bs hf
  refine z_callV (As := []) (rest := []) (r := (some (.int r2.1))) (h' := r2.2) X hI eu1 (s_Mod_tell er2) rfl rfl wm_Mod_340 yi_Mod_tell rfl hl.1 rfl (Nat.le_of_ble_eq_true rfl) (by decide) (by decide) d_Mod_tellSpace_75 (fun H locs hI => ?_)
  refine W.eq (g2 := F0 m 78 ls [.int (r2.1)]) rfl ?_
  obtain ⟨x3, ex3, hf⟩ := z_bs hf
  refine z_topi (zB_s ex3).1 ?_
  cases hf
  exact z_zret X hI (zB_s2 ex3) d_Mod_tellSpace_78
def f_Mod_tellSpace_9 (N : Nat)  : Nat → Nat → Int32 → Int32 → Int32 → z_H → Option (Int32 × z_H)
  | 0, _, _, _, _, _ => none
  | n + 1, v0, v1, v2, v3, h =>
    z_b (gI h v0 12 65) fun x1 =>
    if x1 ≤ v3 then
    (f_Mod_tellSpace_74 N v0 h)
    else
    (if v2 = 0 then
    (f_Mod_tellSpace_74 N v0 h)
    else
    (if v1 = 0 then
    (f_Mod_tellSpace_41 N (f_Mod_tellSpace_9 N  n) v0 v1 v3 1 h)
    else
    (z_b (gR h v0 12 58) fun x5 =>
    z_b (aI h x5 0 v3) fun x6 =>
    if x6 = 10 then
    (f_Mod_tellSpace_41 N (f_Mod_tellSpace_9 N  n) v0 v1 v3 0 h)
    else
    (f_Mod_tellSpace_41 N (f_Mod_tellSpace_9 N  n) v0 v1 v3 1 h))))
set_option maxRecDepth 20000 in
set_option maxHeartbeats 2000000 in
theorem s_Mod_tellSpace_9 (X : z_X p s m args meth c prog_14_method_47_code 4 (some .boolean) Ts "StreamForgeModel" D dA B) {N : Nat} {r : Int32} {h' : z_H}   : ∀ n : Nat, ∀ (v0 : Nat) (v1 : Int32) (v2 : Int32) (v3 : Int32) (h : z_H) (H : Heap) (locs : List Loc) (ls : Array Slot), z_I D dA B h s.heap H locs → lv_has ls 4 [(0, .ref v0), (1, .int v1), (2, .int v2), (3, .int v3)] → f_Mod_tellSpace_9 N  n v0 v1 v2 v3 h = some (r, h') → W p l e (z_rm 2 41) s m args below meth c H locs 0 0 (MQ below (z_Q D dA B (some (.int r)) h') args s 0 0 (fun q => B ≤ q)) (F0 m 9 ls []) := by
  have hx := z_hx X
  have hb := z_hb X
  intro n
  induction n with
  | zero => intro v0 v1 v2 v3 h H locs ls hI hl hf; rw [f_Mod_tellSpace_9] at hf; cases hf
  | succ n ih =>
    intro v0 v1 v2 v3 h H locs ls hI hl hf
    rw [f_Mod_tellSpace_9] at hf
    refine lv_iload_n hx hb d_Mod_tellSpace_9 rfl (lv_at hl 3 rfl) ?_
    refine lv_aload_n hx hb d_Mod_tellSpace_10 rfl (lv_at hl 0 rfl) ?_
    obtain ⟨x1, ex1, hf⟩ := z_bs hf
    refine z_getF X hI (k := 65) (ci := 12) (gI_s ex1) i_Mod rfl (by decide) wf_Mod_319 d_Mod_tellSpace_11 ?_
    refine lv_icmp_ge (tgt := 74) hx hb d_Mod_tellSpace_14 (by decide) (fun c2 => ?_) (fun c2 => ?_)
    · rw [if_pos c2] at hf
      exact s_Mod_tellSpace_74 X  v0 h _ _ _ hI (lv_sub hl [0] rfl) hf
    · rw [if_neg c2] at hf
      refine lv_iload_n hx hb d_Mod_tellSpace_17 rfl (lv_at hl 2 rfl) ?_
      refine lv_if_eq (tgt := 74) hx hb d_Mod_tellSpace_18 (by decide) (fun c3 => ?_) (fun c3 => ?_)
      · rw [if_pos c3] at hf
        exact s_Mod_tellSpace_74 X  v0 h _ _ _ hI (lv_sub hl [0] rfl) hf
      · rw [if_neg c3] at hf
        refine lv_iload_n hx hb d_Mod_tellSpace_21 rfl (lv_at hl 1 rfl) ?_
        refine lv_if_eq (tgt := 36) hx hb d_Mod_tellSpace_22 (by decide) (fun c4 => ?_) (fun c4 => ?_)
        · rw [if_pos c4] at hf
          refine lv_iconst (v := 1) hx hb d_Mod_tellSpace_36 (by decide) ?_
          refine lv_goto (tgt := 41) hx hb d_Mod_tellSpace_37 (by decide) ?_
          exact s_Mod_tellSpace_41 X ih v0 v1 v3 1 h _ _ _ hI (lv_sub hl [0, 1, 3] rfl) hf
        · rw [if_neg c4] at hf
          refine lv_aload_n hx hb d_Mod_tellSpace_25 rfl (lv_at hl 0 rfl) ?_
          obtain ⟨x5, ex5, hf⟩ := z_bs hf
          refine z_getF X hI (k := 58) (ci := 12) (gR_s ex5) i_Mod rfl (by decide) wf_Mod_130 d_Mod_tellSpace_26 ?_
          refine lv_iload_n hx hb d_Mod_tellSpace_29 rfl (lv_at hl 3 rfl) ?_
          obtain ⟨x6, ex6, hf⟩ := z_bs hf
          refine z_iald X hI ex6 d_Mod_tellSpace_30 ?_
          refine lv_bipush (v := 10) hx hb d_Mod_tellSpace_31 (by decide) ?_
          refine lv_icmp_eq (tgt := 40) hx hb d_Mod_tellSpace_33 (by decide) (fun c7 => ?_) (fun c7 => ?_)
          · rw [if_pos c7] at hf
            refine lv_iconst (v := 0) hx hb d_Mod_tellSpace_40 (by decide) ?_
            exact s_Mod_tellSpace_41 X ih v0 v1 v3 0 h _ _ _ hI (lv_sub hl [0, 1, 3] rfl) hf
          · rw [if_neg c7] at hf
            refine lv_iconst (v := 1) hx hb d_Mod_tellSpace_36 (by decide) ?_
            refine lv_goto (tgt := 41) hx hb d_Mod_tellSpace_37 (by decide) ?_
            exact s_Mod_tellSpace_41 X ih v0 v1 v3 1 h _ _ _ hI (lv_sub hl [0, 1, 3] rfl) hf
def f_Mod_tellSpace (N : Nat) (v0 : Nat) (v1 : Int32) (h : z_H) : Option (Int32 × z_H) :=
  z_b (sF h v0 12 67 (.int 0)) fun h1 =>
  f_Mod_tellSpace_9 N N v0 v1 1 0 h1
set_option maxRecDepth 20000 in
set_option maxHeartbeats 2000000 in
theorem s_Mod_tellSpace {l : Launch} {D : va_G} {dA : Nat → ClassId} {B N : Nat} {v0 : Nat} {v1 : Int32} {h h' : z_H} {r : Int32} (hf : f_Mod_tellSpace N v0 v1 h = some (r, h')) : z_Met l y_Mod_tellSpace prog_14_method_47_code 4 (some .boolean) 2 41 D dA B [.ref v0, .int v1] h (some (.int r)) h' := by
  refine z_of (by decide) (Nat.le_of_ble_eq_true rfl) (fun p e s m below meth c ls X hI hl => ?_)
  have hx := z_hx X
  have hb := z_hb X
  have hl : lv_has ls 4 [(0, .ref v0), (1, .int v1)] := hl
  unfold f_Mod_tellSpace at hf
  obtain ⟨locs, hlo⟩ : ∃ z : List Loc, z = [] := ⟨_, rfl⟩
  rw [← hlo] at hI ⊢
  refine lv_aload_n hx hb d_Mod_tellSpace_0 rfl (lv_at hl 0 rfl) ?_
  refine lv_iconst (v := 0) hx hb d_Mod_tellSpace_1 (by decide) ?_
  obtain ⟨h1, eh1, hf⟩ := z_bs hf
  refine z_putF X hI (k := 67) (ci := 12) (ty0 := t_Mod) eh1 i_Mod t_Mod_ok n_Mod rfl (by decide) wf_Mod_334 rfl rfl rfl d_Mod_tellSpace_2 (fun H locs hI => ?_)
  refine lv_iconst (v := 1) hx hb d_Mod_tellSpace_5 (by decide) ?_
  refine lv_istore_n (lv' := [(2, .int 1), (0, .ref v0), (1, .int v1)]) hx hb d_Mod_tellSpace_6 rfl hl (by decide) rfl (fun ls hl => ?_)
  refine lv_iconst (v := 0) hx hb d_Mod_tellSpace_7 (by decide) ?_
  refine lv_istore_n (lv' := [(3, .int 0), (2, .int 1), (0, .ref v0), (1, .int v1)]) hx hb d_Mod_tellSpace_8 rfl hl (by decide) rfl (fun ls hl => ?_)
  exact s_Mod_tellSpace_9 X  N v0 v1 1 0 h1 _ _ _ hI (lv_sub hl [2, 3, 1, 0] rfl) hf
def f_Mod_tellText_12 (N : Nat)  : Nat → Nat → Int32 → Int32 → z_H → Option (Int32 × z_H)
  | 0, _, _, _, _ => none
  | n + 1, v0, v1, v2, h =>
    z_b (gR h v0 12 16) fun x1 =>
    z_b (aI h x1 0 v1) fun x2 =>
    if x2 ≤ v2 then
    (z_b (gO h v0 12) fun u4 =>
    z_b (f_Mod_tell N v0 h) fun r5 =>
    z_b (zB (r5.1)) fun x6 =>
    some (x6, r5.2))
    else
    (z_b (gR h v0 12 60) fun x7 =>
    z_b (gI h v0 12 67) fun x8 =>
    z_b (sF h v0 12 67 (.int (x8 + 1))) fun h9 =>
    z_b (gR h9 v0 12 33) fun x10 =>
    z_b (aI h9 x10 0 v2) fun x11 =>
    z_b (uI h9 x7 0 x8 x11) fun h12 =>
    z_b (some (v2 + 1)) fun x13 =>
    (f_Mod_tellText_12 N  n) v0 v1 x13 h12)
set_option maxRecDepth 20000 in
set_option maxHeartbeats 2000000 in
theorem s_Mod_tellText_12 (X : z_X p s m args meth c prog_14_method_48_code 3 (some .boolean) Ts "StreamForgeModel" D dA B) {N : Nat} {r : Int32} {h' : z_H}   : ∀ n : Nat, ∀ (v0 : Nat) (v1 : Int32) (v2 : Int32) (h : z_H) (H : Heap) (locs : List Loc) (ls : Array Slot), z_I D dA B h s.heap H locs → lv_has ls 3 [(0, .ref v0), (1, .int v1), (2, .int v2)] → f_Mod_tellText_12 N  n v0 v1 v2 h = some (r, h') → W p l e (z_rm 2 41) s m args below meth c H locs 0 0 (MQ below (z_Q D dA B (some (.int r)) h') args s 0 0 (fun q => B ≤ q)) (F0 m 12 ls []) := by
  have hx := z_hx X
  have hb := z_hb X
  intro n
  induction n with
  | zero => intro v0 v1 v2 h H locs ls hI hl hf; rw [f_Mod_tellText_12] at hf; cases hf
  | succ n ih =>
    intro v0 v1 v2 h H locs ls hI hl hf
    rw [f_Mod_tellText_12] at hf
    refine lv_iload_n hx hb d_Mod_tellText_12 rfl (lv_at hl 2 rfl) ?_
    refine lv_aload_n hx hb d_Mod_tellText_13 rfl (lv_at hl 0 rfl) ?_
    obtain ⟨x1, ex1, hf⟩ := z_bs hf
    refine z_getF X hI (k := 16) (ci := 12) (gR_s ex1) i_Mod rfl (by decide) wf_Mod_44 d_Mod_tellText_14 ?_
    refine lv_iload_n hx hb d_Mod_tellText_17 rfl (lv_at hl 1 rfl) ?_
    obtain ⟨x2, ex2, hf⟩ := z_bs hf
    refine z_iald X hI ex2 d_Mod_tellText_18 ?_
    refine lv_icmp_ge (tgt := 50) hx hb d_Mod_tellText_19 (by decide) (fun c3 => ?_) (fun c3 => ?_)
    · rw [if_pos c3] at hf
      refine lv_aload_n hx hb d_Mod_tellText_50 rfl (lv_at hl 0 rfl) ?_
      obtain ⟨u4, eu4, hf⟩ := z_bs hf
      obtain ⟨r5, er5, hf⟩ := z_bs hf
      refine z_callV (As := []) (rest := []) (r := (some (.int r5.1))) (h' := r5.2) X hI eu4 (s_Mod_tell er5) rfl rfl wm_Mod_340 yi_Mod_tell rfl hl.1 rfl (Nat.le_of_ble_eq_true rfl) (by decide) (by decide) d_Mod_tellText_51 (fun H locs hI => ?_)
      refine W.eq (g2 := F0 m 54 ls [.int (r5.1)]) rfl ?_
      obtain ⟨x6, ex6, hf⟩ := z_bs hf
      refine z_topi (zB_s ex6).1 ?_
      cases hf
      exact z_zret X hI (zB_s2 ex6) d_Mod_tellText_54
    · rw [if_neg c3] at hf
      refine lv_aload_n hx hb d_Mod_tellText_22 rfl (lv_at hl 0 rfl) ?_
      obtain ⟨x7, ex7, hf⟩ := z_bs hf
      refine z_getF X hI (k := 60) (ci := 12) (gR_s ex7) i_Mod rfl (by decide) wf_Mod_136 d_Mod_tellText_23 ?_
      refine lv_aload_n hx hb d_Mod_tellText_26 rfl (lv_at hl 0 rfl) ?_
      refine lv_dup hx hb d_Mod_tellText_27 rfl ?_
      obtain ⟨x8, ex8, hf⟩ := z_bs hf
      refine z_getF X hI (k := 67) (ci := 12) (gI_s ex8) i_Mod rfl (by decide) wf_Mod_334 d_Mod_tellText_28 ?_
      refine lv_dup_x1 hx hb d_Mod_tellText_31 rfl rfl ?_
      refine lv_iconst (v := 1) hx hb d_Mod_tellText_32 (by decide) ?_
      refine lv_iadd hx hb d_Mod_tellText_33 ?_
      obtain ⟨h9, eh9, hf⟩ := z_bs hf
      refine z_putF X hI (k := 67) (ci := 12) (ty0 := t_Mod) eh9 i_Mod t_Mod_ok n_Mod rfl (by decide) wf_Mod_334 rfl rfl rfl d_Mod_tellText_34 (fun H locs hI => ?_)
      refine lv_aload_n hx hb d_Mod_tellText_37 rfl (lv_at hl 0 rfl) ?_
      obtain ⟨x10, ex10, hf⟩ := z_bs hf
      refine z_getF X hI (k := 33) (ci := 12) (gR_s ex10) i_Mod rfl (by decide) wf_Mod_96 d_Mod_tellText_38 ?_
      refine lv_iload_n hx hb d_Mod_tellText_41 rfl (lv_at hl 2 rfl) ?_
      obtain ⟨x11, ex11, hf⟩ := z_bs hf
      refine z_iald X hI ex11 d_Mod_tellText_42 ?_
      obtain ⟨h12, eh12, hf⟩ := z_bs hf
      refine z_iast X hI eh12 d_Mod_tellText_43 (fun H locs hI => ?_)
      obtain ⟨x13, ex13, hf⟩ := z_bs hf
      refine lv_iinc (v := x13) (lv' := [(2, .int x13), (0, .ref v0), (1, .int v1)]) hx hb d_Mod_tellText_44 hl (k := 2) rfl (by rw [← Option.some.inj ex13]; rfl) (by decide) rfl (fun ls hl => ?_)
      refine lv_goto (tgt := 12) hx hb d_Mod_tellText_47 (by decide) ?_
      exact ih v0 v1 x13 h12 _ _ _ hI (lv_sub hl [1, 2, 0] rfl) hf
def f_Mod_tellText (N : Nat) (v0 : Nat) (v1 : Int32) (h : z_H) : Option (Int32 × z_H) :=
  z_b (sF h v0 12 67 (.int 0)) fun h1 =>
  z_b (gR h1 v0 12 15) fun x2 =>
  z_b (aI h1 x2 0 v1) fun x3 =>
  f_Mod_tellText_12 N N v0 v1 x3 h1
set_option maxRecDepth 20000 in
set_option maxHeartbeats 2000000 in
theorem s_Mod_tellText {l : Launch} {D : va_G} {dA : Nat → ClassId} {B N : Nat} {v0 : Nat} {v1 : Int32} {h h' : z_H} {r : Int32} (hf : f_Mod_tellText N v0 v1 h = some (r, h')) : z_Met l y_Mod_tellText prog_14_method_48_code 3 (some .boolean) 2 41 D dA B [.ref v0, .int v1] h (some (.int r)) h' := by
  refine z_of (by decide) (Nat.le_of_ble_eq_true rfl) (fun p e s m below meth c ls X hI hl => ?_)
  have hx := z_hx X
  have hb := z_hb X
  have hl : lv_has ls 3 [(0, .ref v0), (1, .int v1)] := hl
  unfold f_Mod_tellText at hf
  obtain ⟨locs, hlo⟩ : ∃ z : List Loc, z = [] := ⟨_, rfl⟩
  rw [← hlo] at hI ⊢
  refine lv_aload_n hx hb d_Mod_tellText_0 rfl (lv_at hl 0 rfl) ?_
  refine lv_iconst (v := 0) hx hb d_Mod_tellText_1 (by decide) ?_
  obtain ⟨h1, eh1, hf⟩ := z_bs hf
  refine z_putF X hI (k := 67) (ci := 12) (ty0 := t_Mod) eh1 i_Mod t_Mod_ok n_Mod rfl (by decide) wf_Mod_334 rfl rfl rfl d_Mod_tellText_2 (fun H locs hI => ?_)
  refine lv_aload_n hx hb d_Mod_tellText_5 rfl (lv_at hl 0 rfl) ?_
  obtain ⟨x2, ex2, hf⟩ := z_bs hf
  refine z_getF X hI (k := 15) (ci := 12) (gR_s ex2) i_Mod rfl (by decide) wf_Mod_41 d_Mod_tellText_6 ?_
  refine lv_iload_n hx hb d_Mod_tellText_9 rfl (lv_at hl 1 rfl) ?_
  obtain ⟨x3, ex3, hf⟩ := z_bs hf
  refine z_iald X hI ex3 d_Mod_tellText_10 ?_
  refine lv_istore_n (lv' := [(2, .int x3), (0, .ref v0), (1, .int v1)]) hx hb d_Mod_tellText_11 rfl hl (by decide) rfl (fun ls hl => ?_)
  exact s_Mod_tellText_12 X  N v0 v1 x3 h1 _ _ _ hI (lv_sub hl [1, 2, 0] rfl) hf
def f_Mod_tellAppended_21 (N : Nat) (k4 : Nat → Int32 → Int32 → z_H → Option (Int32 × z_H)) : Nat → Nat → Int32 → z_H → Option (Int32 × z_H)
  | 0, _, _, _ => none
  | n + 1, v0, v1, h =>
    z_b (gR h v0 12 61) fun x1 =>
    z_b (aI h x1 0 v1) fun x2 =>
    if x2 = 10 then
    (z_b (some (v1 + 1)) fun x4 =>
    z_b (gO h v0 12) fun u5 =>
    z_b (f_Mod_tell N v0 h) fun r6 =>
    z_b (some (r6.1)) fun x7 =>
    k4 v0 x4 x7 r6.2)
    else
    (z_b (gR h v0 12 60) fun x8 =>
    z_b (gI h v0 12 67) fun x9 =>
    z_b (sF h v0 12 67 (.int (x9 + 1))) fun h10 =>
    z_b (gR h10 v0 12 61) fun x11 =>
    z_b (some (v1 + 1)) fun x12 =>
    z_b (aI h10 x11 0 v1) fun x13 =>
    z_b (uI h10 x8 0 x9 x13) fun h14 =>
    (f_Mod_tellAppended_21 N k4 n) v0 x12 h14)
set_option maxRecDepth 20000 in
set_option maxHeartbeats 2000000 in
theorem s_Mod_tellAppended_21 (X : z_X p s m args meth c prog_14_method_49_code 3 (some .boolean) Ts "StreamForgeModel" D dA B) {N : Nat} {r : Int32} {h' : z_H} {k4 : Nat → Int32 → Int32 → z_H → Option (Int32 × z_H)} (hk4 : ∀ (v0 : Nat) (v1 : Int32) (v2 : Int32) (h : z_H) (H : Heap) (locs : List Loc) (ls : Array Slot), z_I D dA B h s.heap H locs → lv_has ls 3 [(0, .ref v0), (1, .int v1), (2, .int v2)] → k4 v0 v1 v2 h = some (r, h') → W p l e (z_rm 2 41) s m args below meth c H locs 0 0 (MQ below (z_Q D dA B (some (.int r)) h') args s 0 0 (fun q => B ≤ q)) (F0 m 4 ls [])) : ∀ n : Nat, ∀ (v0 : Nat) (v1 : Int32) (h : z_H) (H : Heap) (locs : List Loc) (ls : Array Slot), z_I D dA B h s.heap H locs → lv_has ls 3 [(0, .ref v0), (1, .int v1)] → f_Mod_tellAppended_21 N k4 n v0 v1 h = some (r, h') → W p l e (z_rm 2 41) s m args below meth c H locs 0 0 (MQ below (z_Q D dA B (some (.int r)) h') args s 0 0 (fun q => B ≤ q)) (F0 m 21 ls []) := by
  have hx := z_hx X
  have hb := z_hb X
  intro n
  induction n with
  | zero => intro v0 v1 h H locs ls hI hl hf; rw [f_Mod_tellAppended_21] at hf; cases hf
  | succ n ih =>
    intro v0 v1 h H locs ls hI hl hf
    rw [f_Mod_tellAppended_21] at hf
    refine lv_aload_n hx hb d_Mod_tellAppended_21 rfl (lv_at hl 0 rfl) ?_
    obtain ⟨x1, ex1, hf⟩ := z_bs hf
    refine z_getF X hI (k := 61) (ci := 12) (gR_s ex1) i_Mod rfl (by decide) wf_Mod_139 d_Mod_tellAppended_22 ?_
    refine lv_iload_n hx hb d_Mod_tellAppended_25 rfl (lv_at hl 1 rfl) ?_
    obtain ⟨x2, ex2, hf⟩ := z_bs hf
    refine z_iald X hI ex2 d_Mod_tellAppended_26 ?_
    refine lv_bipush (v := 10) hx hb d_Mod_tellAppended_27 (by decide) ?_
    refine lv_icmp_eq (tgt := 60) hx hb d_Mod_tellAppended_29 (by decide) (fun c3 => ?_) (fun c3 => ?_)
    · rw [if_pos c3] at hf
      obtain ⟨x4, ex4, hf⟩ := z_bs hf
      refine lv_iinc (v := x4) (lv' := [(1, .int x4), (0, .ref v0)]) hx hb d_Mod_tellAppended_60 hl (k := 1) rfl (by rw [← Option.some.inj ex4]; rfl) (by decide) rfl (fun ls hl => ?_)
      refine lv_aload_n hx hb d_Mod_tellAppended_63 rfl (lv_at hl 1 rfl) ?_
      obtain ⟨u5, eu5, hf⟩ := z_bs hf
      obtain ⟨r6, er6, hf⟩ := z_bs hf
      refine z_callV (As := []) (rest := []) (r := (some (.int r6.1))) (h' := r6.2) X hI eu5 (s_Mod_tell er6) rfl rfl wm_Mod_340 yi_Mod_tell rfl hl.1 rfl (Nat.le_of_ble_eq_true rfl) (by decide) (by decide) d_Mod_tellAppended_64 (fun H locs hI => ?_)
      refine W.eq (g2 := F0 m 67 ls [.int (r6.1)]) rfl ?_
      obtain ⟨x7, ex7, hf⟩ := z_bs hf
      refine z_topi (Option.some.inj ex7) ?_
      refine lv_istore_n (lv' := [(2, .int x7), (1, .int x4), (0, .ref v0)]) hx hb d_Mod_tellAppended_67 rfl hl (by decide) rfl (fun ls hl => ?_)
      refine lv_goto (tgt := 4) hx hb d_Mod_tellAppended_68 (by decide) ?_
      exact hk4 v0 x4 x7 r6.2 _ _ _ hI (lv_sub hl [2, 1, 0] rfl) hf
    · rw [if_neg c3] at hf
      refine lv_aload_n hx hb d_Mod_tellAppended_32 rfl (lv_at hl 0 rfl) ?_
      obtain ⟨x8, ex8, hf⟩ := z_bs hf
      refine z_getF X hI (k := 60) (ci := 12) (gR_s ex8) i_Mod rfl (by decide) wf_Mod_136 d_Mod_tellAppended_33 ?_
      refine lv_aload_n hx hb d_Mod_tellAppended_36 rfl (lv_at hl 0 rfl) ?_
      refine lv_dup hx hb d_Mod_tellAppended_37 rfl ?_
      obtain ⟨x9, ex9, hf⟩ := z_bs hf
      refine z_getF X hI (k := 67) (ci := 12) (gI_s ex9) i_Mod rfl (by decide) wf_Mod_334 d_Mod_tellAppended_38 ?_
      refine lv_dup_x1 hx hb d_Mod_tellAppended_41 rfl rfl ?_
      refine lv_iconst (v := 1) hx hb d_Mod_tellAppended_42 (by decide) ?_
      refine lv_iadd hx hb d_Mod_tellAppended_43 ?_
      obtain ⟨h10, eh10, hf⟩ := z_bs hf
      refine z_putF X hI (k := 67) (ci := 12) (ty0 := t_Mod) eh10 i_Mod t_Mod_ok n_Mod rfl (by decide) wf_Mod_334 rfl rfl rfl d_Mod_tellAppended_44 (fun H locs hI => ?_)
      refine lv_aload_n hx hb d_Mod_tellAppended_47 rfl (lv_at hl 0 rfl) ?_
      obtain ⟨x11, ex11, hf⟩ := z_bs hf
      refine z_getF X hI (k := 61) (ci := 12) (gR_s ex11) i_Mod rfl (by decide) wf_Mod_139 d_Mod_tellAppended_48 ?_
      refine lv_iload_n hx hb d_Mod_tellAppended_51 rfl (lv_at hl 1 rfl) ?_
      obtain ⟨x12, ex12, hf⟩ := z_bs hf
      refine lv_iinc (v := x12) (lv' := [(1, .int x12), (0, .ref v0)]) hx hb d_Mod_tellAppended_52 hl (k := 1) rfl (by rw [← Option.some.inj ex12]; rfl) (by decide) rfl (fun ls hl => ?_)
      obtain ⟨x13, ex13, hf⟩ := z_bs hf
      refine z_iald X hI ex13 d_Mod_tellAppended_55 ?_
      obtain ⟨h14, eh14, hf⟩ := z_bs hf
      refine z_iast X hI eh14 d_Mod_tellAppended_56 (fun H locs hI => ?_)
      refine lv_goto (tgt := 21) hx hb d_Mod_tellAppended_57 (by decide) ?_
      exact ih v0 x12 h14 _ _ _ hI (lv_sub hl [1, 0] rfl) hf
def f_Mod_tellAppended_71 (N : Nat)  (v0 : Nat) (v2 : Int32) (h : z_H) : Option (Int32 × z_H) :=
  z_b (sF h v0 12 68 (.int 0)) fun h1 =>
  z_b (zB v2) fun x2 =>
  some (x2, h1)
set_option maxRecDepth 20000 in
set_option maxHeartbeats 2000000 in
theorem s_Mod_tellAppended_71 (X : z_X p s m args meth c prog_14_method_49_code 3 (some .boolean) Ts "StreamForgeModel" D dA B) {N : Nat} {r : Int32} {h' : z_H}   : ∀ (v0 : Nat) (v2 : Int32) (h : z_H) (H : Heap) (locs : List Loc) (ls : Array Slot), z_I D dA B h s.heap H locs → lv_has ls 3 [(0, .ref v0), (2, .int v2)] → f_Mod_tellAppended_71 N  v0 v2 h = some (r, h') → W p l e (z_rm 2 41) s m args below meth c H locs 0 0 (MQ below (z_Q D dA B (some (.int r)) h') args s 0 0 (fun q => B ≤ q)) (F0 m 71 ls []) := by
  have hx := z_hx X
  have hb := z_hb X
  intro v0 v2 h H locs ls hI hl hf
  unfold f_Mod_tellAppended_71 at hf
  refine lv_aload_n hx hb d_Mod_tellAppended_71 rfl (lv_at hl 0 rfl) ?_
  refine lv_iconst (v := 0) hx hb d_Mod_tellAppended_72 (by decide) ?_
  obtain ⟨h1, eh1, hf⟩ := z_bs hf
  refine z_putF X hI (k := 68) (ci := 12) (ty0 := t_Mod) eh1 i_Mod t_Mod_ok n_Mod rfl (by decide) wf_Mod_343 rfl rfl rfl d_Mod_tellAppended_73 (fun H locs hI => ?_)
  refine lv_iload_n hx hb d_Mod_tellAppended_76 rfl (lv_at hl 1 rfl) ?_
  obtain ⟨x2, ex2, hf⟩ := z_bs hf
  refine z_topi (zB_s ex2).1 ?_
  cases hf
  exact z_zret X hI (zB_s2 ex2) d_Mod_tellAppended_77
def f_Mod_tellAppended_4 (N : Nat)  : Nat → Nat → Int32 → Int32 → z_H → Option (Int32 × z_H)
  | 0, _, _, _, _ => none
  | n + 1, v0, v1, v2, h =>
    z_b (gI h v0 12 68) fun x1 =>
    if x1 ≤ v1 then
    (f_Mod_tellAppended_71 N v0 v2 h)
    else
    (if v2 = 0 then
    (f_Mod_tellAppended_71 N v0 v2 h)
    else
    (z_b (sF h v0 12 67 (.int 0)) fun h4 =>
    f_Mod_tellAppended_21 N (f_Mod_tellAppended_4 N  n) N v0 v1 h4))
set_option maxRecDepth 20000 in
set_option maxHeartbeats 2000000 in
theorem s_Mod_tellAppended_4 (X : z_X p s m args meth c prog_14_method_49_code 3 (some .boolean) Ts "StreamForgeModel" D dA B) {N : Nat} {r : Int32} {h' : z_H}   : ∀ n : Nat, ∀ (v0 : Nat) (v1 : Int32) (v2 : Int32) (h : z_H) (H : Heap) (locs : List Loc) (ls : Array Slot), z_I D dA B h s.heap H locs → lv_has ls 3 [(0, .ref v0), (1, .int v1), (2, .int v2)] → f_Mod_tellAppended_4 N  n v0 v1 v2 h = some (r, h') → W p l e (z_rm 2 41) s m args below meth c H locs 0 0 (MQ below (z_Q D dA B (some (.int r)) h') args s 0 0 (fun q => B ≤ q)) (F0 m 4 ls []) := by
  have hx := z_hx X
  have hb := z_hb X
  intro n
  induction n with
  | zero => intro v0 v1 v2 h H locs ls hI hl hf; rw [f_Mod_tellAppended_4] at hf; cases hf
  | succ n ih =>
    intro v0 v1 v2 h H locs ls hI hl hf
    rw [f_Mod_tellAppended_4] at hf
    refine lv_iload_n hx hb d_Mod_tellAppended_4 rfl (lv_at hl 1 rfl) ?_
    refine lv_aload_n hx hb d_Mod_tellAppended_5 rfl (lv_at hl 0 rfl) ?_
    obtain ⟨x1, ex1, hf⟩ := z_bs hf
    refine z_getF X hI (k := 68) (ci := 12) (gI_s ex1) i_Mod rfl (by decide) wf_Mod_343 d_Mod_tellAppended_6 ?_
    refine lv_icmp_ge (tgt := 71) hx hb d_Mod_tellAppended_9 (by decide) (fun c2 => ?_) (fun c2 => ?_)
    · rw [if_pos c2] at hf
      exact s_Mod_tellAppended_71 X  v0 v2 h _ _ _ hI (lv_sub hl [0, 2] rfl) hf
    · rw [if_neg c2] at hf
      refine lv_iload_n hx hb d_Mod_tellAppended_12 rfl (lv_at hl 2 rfl) ?_
      refine lv_if_eq (tgt := 71) hx hb d_Mod_tellAppended_13 (by decide) (fun c3 => ?_) (fun c3 => ?_)
      · rw [if_pos c3] at hf
        exact s_Mod_tellAppended_71 X  v0 v2 h _ _ _ hI (lv_sub hl [0, 2] rfl) hf
      · rw [if_neg c3] at hf
        refine lv_aload_n hx hb d_Mod_tellAppended_16 rfl (lv_at hl 0 rfl) ?_
        refine lv_iconst (v := 0) hx hb d_Mod_tellAppended_17 (by decide) ?_
        obtain ⟨h4, eh4, hf⟩ := z_bs hf
        refine z_putF X hI (k := 67) (ci := 12) (ty0 := t_Mod) eh4 i_Mod t_Mod_ok n_Mod rfl (by decide) wf_Mod_334 rfl rfl rfl d_Mod_tellAppended_18 (fun H locs hI => ?_)
        exact s_Mod_tellAppended_21 X ih N v0 v1 h4 _ _ _ hI (lv_sub hl [0, 1] rfl) hf
def f_Mod_tellAppended (N : Nat) (v0 : Nat) (h : z_H) : Option (Int32 × z_H) :=
  f_Mod_tellAppended_4 N N v0 0 1 h
set_option maxRecDepth 20000 in
set_option maxHeartbeats 2000000 in
theorem s_Mod_tellAppended {l : Launch} {D : va_G} {dA : Nat → ClassId} {B N : Nat} {v0 : Nat} {h h' : z_H} {r : Int32} (hf : f_Mod_tellAppended N v0 h = some (r, h')) : z_Met l y_Mod_tellAppended prog_14_method_49_code 3 (some .boolean) 2 41 D dA B [.ref v0] h (some (.int r)) h' := by
  refine z_of (by decide) (Nat.le_of_ble_eq_true rfl) (fun p e s m below meth c ls X hI hl => ?_)
  have hx := z_hx X
  have hb := z_hb X
  have hl : lv_has ls 3 [(0, .ref v0)] := hl
  unfold f_Mod_tellAppended at hf
  obtain ⟨locs, hlo⟩ : ∃ z : List Loc, z = [] := ⟨_, rfl⟩
  rw [← hlo] at hI ⊢
  refine lv_iconst (v := 0) hx hb d_Mod_tellAppended_0 (by decide) ?_
  refine lv_istore_n (lv' := [(1, .int 0), (0, .ref v0)]) hx hb d_Mod_tellAppended_1 rfl hl (by decide) rfl (fun ls hl => ?_)
  refine lv_iconst (v := 1) hx hb d_Mod_tellAppended_2 (by decide) ?_
  refine lv_istore_n (lv' := [(2, .int 1), (1, .int 0), (0, .ref v0)]) hx hb d_Mod_tellAppended_3 rfl hl (by decide) rfl (fun ls hl => ?_)
  exact s_Mod_tellAppended_4 X  N v0 0 1 h _ _ _ hI (lv_sub hl [2, 1, 0] rfl) hf
def f_Mod_tellNumber_40 (N : Nat)  (v0 : Nat) (h : z_H) : Option (Int32 × z_H) :=
  z_b (gR h v0 12 60) fun x1 =>
  z_b (gI h v0 12 67) fun x2 =>
  z_b (sF h v0 12 67 (.int (x2 + 1))) fun h3 =>
  z_b (gI h3 v0 12 70) fun x4 =>
  z_b (uI h3 x1 0 x2 (48 + (x4 - x4 / 10 * 10))) fun h5 =>
  z_b (gO h5 v0 12) fun u6 =>
  z_b (f_Mod_tell N v0 h5) fun r7 =>
  z_b (zB (r7.1)) fun x8 =>
  some (x8, r7.2)
set_option maxRecDepth 20000 in
set_option maxHeartbeats 2000000 in
theorem s_Mod_tellNumber_40 (X : z_X p s m args meth c prog_14_method_50_code 1 (some .boolean) Ts "StreamForgeModel" D dA B) {N : Nat} {r : Int32} {h' : z_H}   : ∀ (v0 : Nat) (h : z_H) (H : Heap) (locs : List Loc) (ls : Array Slot), z_I D dA B h s.heap H locs → lv_has ls 1 [(0, .ref v0)] → f_Mod_tellNumber_40 N  v0 h = some (r, h') → W p l e (z_rm 2 41) s m args below meth c H locs 0 0 (MQ below (z_Q D dA B (some (.int r)) h') args s 0 0 (fun q => B ≤ q)) (F0 m 40 ls []) := by
  have hx := z_hx X
  have hb := z_hb X
  intro v0 h H locs ls hI hl hf
  unfold f_Mod_tellNumber_40 at hf
  refine lv_aload_n hx hb d_Mod_tellNumber_40 rfl (lv_at hl 0 rfl) ?_
  obtain ⟨x1, ex1, hf⟩ := z_bs hf
  refine z_getF X hI (k := 60) (ci := 12) (gR_s ex1) i_Mod rfl (by decide) wf_Mod_136 d_Mod_tellNumber_41 ?_
  refine lv_aload_n hx hb d_Mod_tellNumber_44 rfl (lv_at hl 0 rfl) ?_
  refine lv_dup hx hb d_Mod_tellNumber_45 rfl ?_
  obtain ⟨x2, ex2, hf⟩ := z_bs hf
  refine z_getF X hI (k := 67) (ci := 12) (gI_s ex2) i_Mod rfl (by decide) wf_Mod_334 d_Mod_tellNumber_46 ?_
  refine lv_dup_x1 hx hb d_Mod_tellNumber_49 rfl rfl ?_
  refine lv_iconst (v := 1) hx hb d_Mod_tellNumber_50 (by decide) ?_
  refine lv_iadd hx hb d_Mod_tellNumber_51 ?_
  obtain ⟨h3, eh3, hf⟩ := z_bs hf
  refine z_putF X hI (k := 67) (ci := 12) (ty0 := t_Mod) eh3 i_Mod t_Mod_ok n_Mod rfl (by decide) wf_Mod_334 rfl rfl rfl d_Mod_tellNumber_52 (fun H locs hI => ?_)
  refine lv_bipush (v := 48) hx hb d_Mod_tellNumber_55 (by decide) ?_
  refine lv_aload_n hx hb d_Mod_tellNumber_57 rfl (lv_at hl 0 rfl) ?_
  obtain ⟨x4, ex4, hf⟩ := z_bs hf
  refine z_getF X hI (k := 70) (ci := 12) (gI_s ex4) i_Mod rfl (by decide) wf_Mod_346 d_Mod_tellNumber_58 ?_
  refine lv_bipush (v := 10) hx hb d_Mod_tellNumber_61 (by decide) ?_
  refine lv_irem hx hb d_Mod_tellNumber_63 (by decide) ?_
  refine lv_iadd hx hb d_Mod_tellNumber_64 ?_
  obtain ⟨h5, eh5, hf⟩ := z_bs hf
  refine z_iast X hI eh5 d_Mod_tellNumber_65 (fun H locs hI => ?_)
  refine lv_aload_n hx hb d_Mod_tellNumber_66 rfl (lv_at hl 0 rfl) ?_
  obtain ⟨u6, eu6, hf⟩ := z_bs hf
  obtain ⟨r7, er7, hf⟩ := z_bs hf
  refine z_callV (As := []) (rest := []) (r := (some (.int r7.1))) (h' := r7.2) X hI eu6 (s_Mod_tell er7) rfl rfl wm_Mod_340 yi_Mod_tell rfl hl.1 rfl (Nat.le_of_ble_eq_true rfl) (by decide) (by decide) d_Mod_tellNumber_67 (fun H locs hI => ?_)
  refine W.eq (g2 := F0 m 70 ls [.int (r7.1)]) rfl ?_
  obtain ⟨x8, ex8, hf⟩ := z_bs hf
  refine z_topi (zB_s ex8).1 ?_
  cases hf
  exact z_zret X hI (zB_s2 ex8) d_Mod_tellNumber_70
def f_Mod_tellNumber (N : Nat) (v0 : Nat) (h : z_H) : Option (Int32 × z_H) :=
  z_b (sF h v0 12 67 (.int 0)) fun h1 =>
  z_b (gI h1 v0 12 70) fun x2 =>
  if x2 ≤ 9 then
  (f_Mod_tellNumber_40 N v0 h1)
  else
  (z_b (gR h1 v0 12 60) fun x4 =>
  z_b (gI h1 v0 12 67) fun x5 =>
  z_b (sF h1 v0 12 67 (.int (x5 + 1))) fun h6 =>
  z_b (gI h6 v0 12 70) fun x7 =>
  z_b (uI h6 x4 0 x5 (48 + (x7 / 10))) fun h8 =>
  f_Mod_tellNumber_40 N v0 h8)
set_option maxRecDepth 20000 in
set_option maxHeartbeats 2000000 in
theorem s_Mod_tellNumber {l : Launch} {D : va_G} {dA : Nat → ClassId} {B N : Nat} {v0 : Nat} {h h' : z_H} {r : Int32} (hf : f_Mod_tellNumber N v0 h = some (r, h')) : z_Met l y_Mod_tellNumber prog_14_method_50_code 1 (some .boolean) 2 41 D dA B [.ref v0] h (some (.int r)) h' := by
  refine z_of (by decide) (Nat.le_of_ble_eq_true rfl) (fun p e s m below meth c ls X hI hl => ?_)
  have hx := z_hx X
  have hb := z_hb X
  have hl : lv_has ls 1 [(0, .ref v0)] := hl
  unfold f_Mod_tellNumber at hf
  obtain ⟨locs, hlo⟩ : ∃ z : List Loc, z = [] := ⟨_, rfl⟩
  rw [← hlo] at hI ⊢
  refine lv_aload_n hx hb d_Mod_tellNumber_0 rfl (lv_at hl 0 rfl) ?_
  refine lv_iconst (v := 0) hx hb d_Mod_tellNumber_1 (by decide) ?_
  obtain ⟨h1, eh1, hf⟩ := z_bs hf
  refine z_putF X hI (k := 67) (ci := 12) (ty0 := t_Mod) eh1 i_Mod t_Mod_ok n_Mod rfl (by decide) wf_Mod_334 rfl rfl rfl d_Mod_tellNumber_2 (fun H locs hI => ?_)
  refine lv_aload_n hx hb d_Mod_tellNumber_5 rfl (lv_at hl 0 rfl) ?_
  obtain ⟨x2, ex2, hf⟩ := z_bs hf
  refine z_getF X hI (k := 70) (ci := 12) (gI_s ex2) i_Mod rfl (by decide) wf_Mod_346 d_Mod_tellNumber_6 ?_
  refine lv_bipush (v := 9) hx hb d_Mod_tellNumber_9 (by decide) ?_
  refine lv_icmp_le (tgt := 40) hx hb d_Mod_tellNumber_11 (by decide) (fun c3 => ?_) (fun c3 => ?_)
  · rw [if_pos c3] at hf
    exact s_Mod_tellNumber_40 X  v0 h1 _ _ _ hI (lv_sub hl [0] rfl) hf
  · rw [if_neg c3] at hf
    refine lv_aload_n hx hb d_Mod_tellNumber_14 rfl (lv_at hl 0 rfl) ?_
    obtain ⟨x4, ex4, hf⟩ := z_bs hf
    refine z_getF X hI (k := 60) (ci := 12) (gR_s ex4) i_Mod rfl (by decide) wf_Mod_136 d_Mod_tellNumber_15 ?_
    refine lv_aload_n hx hb d_Mod_tellNumber_18 rfl (lv_at hl 0 rfl) ?_
    refine lv_dup hx hb d_Mod_tellNumber_19 rfl ?_
    obtain ⟨x5, ex5, hf⟩ := z_bs hf
    refine z_getF X hI (k := 67) (ci := 12) (gI_s ex5) i_Mod rfl (by decide) wf_Mod_334 d_Mod_tellNumber_20 ?_
    refine lv_dup_x1 hx hb d_Mod_tellNumber_23 rfl rfl ?_
    refine lv_iconst (v := 1) hx hb d_Mod_tellNumber_24 (by decide) ?_
    refine lv_iadd hx hb d_Mod_tellNumber_25 ?_
    obtain ⟨h6, eh6, hf⟩ := z_bs hf
    refine z_putF X hI (k := 67) (ci := 12) (ty0 := t_Mod) eh6 i_Mod t_Mod_ok n_Mod rfl (by decide) wf_Mod_334 rfl rfl rfl d_Mod_tellNumber_26 (fun H locs hI => ?_)
    refine lv_bipush (v := 48) hx hb d_Mod_tellNumber_29 (by decide) ?_
    refine lv_aload_n hx hb d_Mod_tellNumber_31 rfl (lv_at hl 0 rfl) ?_
    obtain ⟨x7, ex7, hf⟩ := z_bs hf
    refine z_getF X hI (k := 70) (ci := 12) (gI_s ex7) i_Mod rfl (by decide) wf_Mod_346 d_Mod_tellNumber_32 ?_
    refine lv_bipush (v := 10) hx hb d_Mod_tellNumber_35 (by decide) ?_
    refine lv_idiv hx hb d_Mod_tellNumber_37 (by decide) ?_
    refine lv_iadd hx hb d_Mod_tellNumber_38 ?_
    obtain ⟨h8, eh8, hf⟩ := z_bs hf
    refine z_iast X hI eh8 d_Mod_tellNumber_39 (fun H locs hI => ?_)
    exact s_Mod_tellNumber_40 X  v0 h8 _ _ _ hI (lv_sub hl [0] rfl) hf
def f_Mod_fitsAddress (N : Nat) (v0 : Nat) (v1 : Int32) (v2 : Int32) (h : z_H) : Option (Int32 × z_H) :=
  if v1 = 1 then
  (z_b (gI h v0 12 70) fun x11 =>
  if x11 = v2 then
  (some (1, h))
  else
  (some (0, h)))
  else
  (if v1 = 2 then
  (z_b (gI h v0 12 70) fun x8 =>
  z_b (gI h v0 12 4) fun x9 =>
  if x8 = x9 then
  (some (1, h))
  else
  (some (0, h)))
  else
  (z_b (gO h v0 12) fun u3 =>
  z_b (f_Mod_takeSpace N v0 h) fun r4 =>
  z_b (gO r4 v0 12) fun u5 =>
  z_b (f_Mod_find N v0 v2 0 r4) fun r6 =>
  z_b (zB (r6.1)) fun x7 =>
  some (x7, r6.2)))
set_option maxRecDepth 20000 in
set_option maxHeartbeats 2000000 in
theorem s_Mod_fitsAddress {l : Launch} {D : va_G} {dA : Nat → ClassId} {B N : Nat} {v0 : Nat} {v1 : Int32} {v2 : Int32} {h h' : z_H} {r : Int32} (hf : f_Mod_fitsAddress N v0 v1 v2 h = some (r, h')) : z_Met l y_Mod_fitsAddress prog_14_method_51_code 3 (some .boolean) 3 86 D dA B [.ref v0, .int v1, .int v2] h (some (.int r)) h' := by
  refine z_of (by decide) (Nat.le_of_ble_eq_true rfl) (fun p e s m below meth c ls X hI hl => ?_)
  have hx := z_hx X
  have hb := z_hb X
  have hl : lv_has ls 3 [(0, .ref v0), (1, .int v1), (2, .int v2)] := hl
  unfold f_Mod_fitsAddress at hf
  obtain ⟨locs, hlo⟩ : ∃ z : List Loc, z = [] := ⟨_, rfl⟩
  rw [← hlo] at hI ⊢
  refine lv_iload_n hx hb d_Mod_fitsAddress_0 rfl (lv_at hl 1 rfl) ?_
  refine lv_iconst (v := 1) hx hb d_Mod_fitsAddress_1 (by decide) ?_
  refine lv_icmp_ne (tgt := 19) hx hb d_Mod_fitsAddress_2 (by decide) (fun c1 => ?_) (fun c1 => ?_)
  · rw [if_neg c1] at hf
    refine lv_iload_n hx hb d_Mod_fitsAddress_19 rfl (lv_at hl 1 rfl) ?_
    refine lv_iconst (v := 2) hx hb d_Mod_fitsAddress_20 (by decide) ?_
    refine lv_icmp_ne (tgt := 41) hx hb d_Mod_fitsAddress_21 (by decide) (fun c2 => ?_) (fun c2 => ?_)
    · rw [if_neg c2] at hf
      refine lv_aload_n hx hb d_Mod_fitsAddress_41 rfl (lv_at hl 0 rfl) ?_
      obtain ⟨u3, eu3, hf⟩ := z_bs hf
      obtain ⟨r4, er4, hf⟩ := z_bs hf
      refine z_callV (As := []) (rest := []) (r := none) (h' := r4) X hI eu3 (s_Mod_takeSpace er4) rfl rfl wm_Mod_349 yi_Mod_takeSpace rfl hl.1 rfl (Nat.le_of_ble_eq_true rfl) (by decide) (by decide) d_Mod_fitsAddress_42 (fun H locs hI => ?_)
      refine W.eq (g2 := F0 m 45 ls []) rfl ?_
      refine lv_aload_n hx hb d_Mod_fitsAddress_45 rfl (lv_at hl 0 rfl) ?_
      refine lv_iload_n hx hb d_Mod_fitsAddress_46 rfl (lv_at hl 2 rfl) ?_
      refine lv_iconst (v := 0) hx hb d_Mod_fitsAddress_47 (by decide) ?_
      obtain ⟨u5, eu5, hf⟩ := z_bs hf
      obtain ⟨r6, er6, hf⟩ := z_bs hf
      refine z_callV (As := [.int v2, .int 0]) (rest := []) (r := (some (.int r6.1))) (h' := r6.2) X hI eu5 (s_Mod_find er6) rfl rfl wm_Mod_325 yi_Mod_find rfl hl.1 rfl (Nat.le_of_ble_eq_true rfl) (by decide) (by decide) d_Mod_fitsAddress_48 (fun H locs hI => ?_)
      refine W.eq (g2 := F0 m 51 ls [.int (r6.1)]) rfl ?_
      obtain ⟨x7, ex7, hf⟩ := z_bs hf
      refine z_topi (zB_s ex7).1 ?_
      cases hf
      exact z_zret X hI (zB_s2 ex7) d_Mod_fitsAddress_51
    · rw [if_pos c2] at hf
      refine lv_aload_n hx hb d_Mod_fitsAddress_24 rfl (lv_at hl 0 rfl) ?_
      obtain ⟨x8, ex8, hf⟩ := z_bs hf
      refine z_getF X hI (k := 70) (ci := 12) (gI_s ex8) i_Mod rfl (by decide) wf_Mod_346 d_Mod_fitsAddress_25 ?_
      refine lv_aload_n hx hb d_Mod_fitsAddress_28 rfl (lv_at hl 0 rfl) ?_
      obtain ⟨x9, ex9, hf⟩ := z_bs hf
      refine z_getF X hI (k := 4) (ci := 12) (gI_s ex9) i_Mod rfl (by decide) wf_Mod_169 d_Mod_fitsAddress_29 ?_
      refine lv_icmp_ne (tgt := 39) hx hb d_Mod_fitsAddress_32 (by decide) (fun c10 => ?_) (fun c10 => ?_)
      · rw [if_neg c10] at hf
        refine lv_iconst (v := 0) hx hb d_Mod_fitsAddress_39 (by decide) ?_
        cases hf
        exact z_zret X hI (Or.inl rfl) d_Mod_fitsAddress_40
      · rw [if_pos c10] at hf
        refine lv_iconst (v := 1) hx hb d_Mod_fitsAddress_35 (by decide) ?_
        refine lv_goto (tgt := 40) hx hb d_Mod_fitsAddress_36 (by decide) ?_
        cases hf
        exact z_zret X hI (Or.inr rfl) d_Mod_fitsAddress_40
  · rw [if_pos c1] at hf
    refine lv_aload_n hx hb d_Mod_fitsAddress_5 rfl (lv_at hl 0 rfl) ?_
    obtain ⟨x11, ex11, hf⟩ := z_bs hf
    refine z_getF X hI (k := 70) (ci := 12) (gI_s ex11) i_Mod rfl (by decide) wf_Mod_346 d_Mod_fitsAddress_6 ?_
    refine lv_iload_n hx hb d_Mod_fitsAddress_9 rfl (lv_at hl 2 rfl) ?_
    refine lv_icmp_ne (tgt := 17) hx hb d_Mod_fitsAddress_10 (by decide) (fun c12 => ?_) (fun c12 => ?_)
    · rw [if_neg c12] at hf
      refine lv_iconst (v := 0) hx hb d_Mod_fitsAddress_17 (by decide) ?_
      cases hf
      exact z_zret X hI (Or.inl rfl) d_Mod_fitsAddress_18
    · rw [if_pos c12] at hf
      refine lv_iconst (v := 1) hx hb d_Mod_fitsAddress_13 (by decide) ?_
      refine lv_goto (tgt := 18) hx hb d_Mod_fitsAddress_14 (by decide) ?_
      cases hf
      exact z_zret X hI (Or.inr rfl) d_Mod_fitsAddress_18
def f_Mod_isDone_150 (N : Nat)  (v0 : Nat) (v1 : Int32) (v3 : Int32) (s0 : Nat) (s1 : Int32) (s2 : Int32) (h : z_H) : Option (Int32 × z_H) :=
  z_b (uI h s0 3 s1 (vp_nar .boolean s2)) fun h1 =>
  z_b (zB v3) fun x2 =>
  z_b (sF h1 v0 12 75 (.int x2)) fun h3 =>
  z_b (gR h3 v0 12 21) fun x4 =>
  z_b (aI h3 x4 3 v1) fun x5 =>
  if x5 = 0 then
  (some (1, h3))
  else
  (some (0, h3))
set_option maxRecDepth 20000 in
set_option maxHeartbeats 2000000 in
theorem s_Mod_isDone_150 (X : z_X p s m args meth c prog_14_method_52_code 4 (some .boolean) Ts "StreamForgeModel" D dA B) {N : Nat} {r : Int32} {h' : z_H}   : ∀ (v0 : Nat) (v1 : Int32) (v3 : Int32) (s0 : Nat) (s1 : Int32) (s2 : Int32) (h : z_H) (H : Heap) (locs : List Loc) (ls : Array Slot), z_I D dA B h s.heap H locs → lv_has ls 4 [(0, .ref v0), (1, .int v1), (3, .int v3)] → f_Mod_isDone_150 N  v0 v1 v3 s0 s1 s2 h = some (r, h') → W p l e (z_rm 4 108) s m args below meth c H locs 0 0 (MQ below (z_Q D dA B (some (.int r)) h') args s 0 0 (fun q => B ≤ q)) (F0 m 150 ls [.int s2, .int s1, .ref s0]) := by
  have hx := z_hx X
  have hb := z_hb X
  intro v0 v1 v3 s0 s1 s2 h H locs ls hI hl hf
  unfold f_Mod_isDone_150 at hf
  obtain ⟨h1, eh1, hf⟩ := z_bs hf
  refine z_zast X hI eh1 d_Mod_isDone_150 (fun H locs hI => ?_)
  refine lv_aload_n hx hb d_Mod_isDone_151 rfl (lv_at hl 0 rfl) ?_
  refine lv_iload_n hx hb d_Mod_isDone_152 rfl (lv_at hl 2 rfl) ?_
  obtain ⟨x2, ex2, hf⟩ := z_bs hf
  refine z_topi (zB_s ex2).1 ?_
  have nx2 : narrow .boolean (.int x2) = .int x2 := z_nb ex2
  obtain ⟨h3, eh3, hf⟩ := z_bs hf
  refine z_putF X hI (k := 75) (ci := 12) (ty0 := t_Mod) eh3 i_Mod t_Mod_ok n_Mod rfl (by decide) wf_Mod_352 rfl nx2 (z_fb ex2) d_Mod_isDone_153 (fun H locs hI => ?_)
  refine lv_aload_n hx hb d_Mod_isDone_156 rfl (lv_at hl 0 rfl) ?_
  obtain ⟨x4, ex4, hf⟩ := z_bs hf
  refine z_getF X hI (k := 21) (ci := 12) (gR_s ex4) i_Mod rfl (by decide) wf_Mod_59 d_Mod_isDone_157 ?_
  refine lv_iload_n hx hb d_Mod_isDone_160 rfl (lv_at hl 1 rfl) ?_
  obtain ⟨x5, ex5, hf⟩ := z_bs hf
  refine z_zald X hI ex5 d_Mod_isDone_161 ?_
  refine lv_if_ne (tgt := 169) hx hb d_Mod_isDone_162 (by decide) (fun c6 => ?_) (fun c6 => ?_)
  · rw [if_neg c6] at hf
    refine lv_iconst (v := 0) hx hb d_Mod_isDone_169 (by decide) ?_
    cases hf
    exact z_zret X hI (Or.inl rfl) d_Mod_isDone_170
  · rw [if_pos c6] at hf
    refine lv_iconst (v := 1) hx hb d_Mod_isDone_165 (by decide) ?_
    refine lv_goto (tgt := 170) hx hb d_Mod_isDone_166 (by decide) ?_
    cases hf
    exact z_zret X hI (Or.inr rfl) d_Mod_isDone_170
def f_Mod_isDone_135 (N : Nat)  (v0 : Nat) (v1 : Int32) (v2 : Int32) (s0 : Int32) (h : z_H) : Option (Int32 × z_H) :=
  z_b (gR h v0 12 64) fun x1 =>
  if s0 = 0 then
  (f_Mod_isDone_150 N v0 v1 s0 x1 v2 1 h)
  else
  (f_Mod_isDone_150 N v0 v1 s0 x1 v2 0 h)
set_option maxRecDepth 20000 in
set_option maxHeartbeats 2000000 in
theorem s_Mod_isDone_135 (X : z_X p s m args meth c prog_14_method_52_code 4 (some .boolean) Ts "StreamForgeModel" D dA B) {N : Nat} {r : Int32} {h' : z_H}   : ∀ (v0 : Nat) (v1 : Int32) (v2 : Int32) (s0 : Int32) (h : z_H) (H : Heap) (locs : List Loc) (ls : Array Slot), z_I D dA B h s.heap H locs → lv_has ls 4 [(0, .ref v0), (1, .int v1), (2, .int v2)] → f_Mod_isDone_135 N  v0 v1 v2 s0 h = some (r, h') → W p l e (z_rm 4 108) s m args below meth c H locs 0 0 (MQ below (z_Q D dA B (some (.int r)) h') args s 0 0 (fun q => B ≤ q)) (F0 m 135 ls [.int s0]) := by
  have hx := z_hx X
  have hb := z_hb X
  intro v0 v1 v2 s0 h H locs ls hI hl hf
  unfold f_Mod_isDone_135 at hf
  refine lv_istore_n (lv' := [(3, .int s0), (0, .ref v0), (1, .int v1), (2, .int v2)]) hx hb d_Mod_isDone_135 rfl hl (by decide) rfl (fun ls hl => ?_)
  refine lv_aload_n hx hb d_Mod_isDone_136 rfl (lv_at hl 1 rfl) ?_
  obtain ⟨x1, ex1, hf⟩ := z_bs hf
  refine z_getF X hI (k := 64) (ci := 12) (gR_s ex1) i_Mod rfl (by decide) wf_Mod_148 d_Mod_isDone_137 ?_
  refine lv_iload_n hx hb d_Mod_isDone_140 rfl (lv_at hl 3 rfl) ?_
  refine lv_iload_n hx hb d_Mod_isDone_141 rfl (lv_at hl 0 rfl) ?_
  refine lv_if_ne (tgt := 149) hx hb d_Mod_isDone_142 (by decide) (fun c2 => ?_) (fun c2 => ?_)
  · rw [if_neg c2] at hf
    refine lv_iconst (v := 0) hx hb d_Mod_isDone_149 (by decide) ?_
    exact s_Mod_isDone_150 X  v0 v1 s0 x1 v2 0 h _ _ _ hI (lv_sub hl [1, 2, 0] rfl) hf
  · rw [if_pos c2] at hf
    refine lv_iconst (v := 1) hx hb d_Mod_isDone_145 (by decide) ?_
    refine lv_goto (tgt := 150) hx hb d_Mod_isDone_146 (by decide) ?_
    exact s_Mod_isDone_150 X  v0 v1 s0 x1 v2 1 h _ _ _ hI (lv_sub hl [1, 2, 0] rfl) hf
def f_Mod_isDone_245 (N : Nat)  (v0 : Nat) (v1 : Int32) (v3 : Int32) (s0 : Nat) (s1 : Int32) (s2 : Int32) (h : z_H) : Option (Int32 × z_H) :=
  z_b (uI h s0 3 s1 (vp_nar .boolean s2)) fun h1 =>
  z_b (gR h1 v0 12 21) fun x2 =>
  z_b (aI h1 x2 3 v1) fun x3 =>
  if v3 = x3 then
  (some (0, h1))
  else
  (some (1, h1))
set_option maxRecDepth 20000 in
set_option maxHeartbeats 2000000 in
theorem s_Mod_isDone_245 (X : z_X p s m args meth c prog_14_method_52_code 4 (some .boolean) Ts "StreamForgeModel" D dA B) {N : Nat} {r : Int32} {h' : z_H}   : ∀ (v0 : Nat) (v1 : Int32) (v3 : Int32) (s0 : Nat) (s1 : Int32) (s2 : Int32) (h : z_H) (H : Heap) (locs : List Loc) (ls : Array Slot), z_I D dA B h s.heap H locs → lv_has ls 4 [(0, .ref v0), (1, .int v1), (3, .int v3)] → f_Mod_isDone_245 N  v0 v1 v3 s0 s1 s2 h = some (r, h') → W p l e (z_rm 4 108) s m args below meth c H locs 0 0 (MQ below (z_Q D dA B (some (.int r)) h') args s 0 0 (fun q => B ≤ q)) (F0 m 245 ls [.int s2, .int s1, .ref s0]) := by
  have hx := z_hx X
  have hb := z_hb X
  intro v0 v1 v3 s0 s1 s2 h H locs ls hI hl hf
  unfold f_Mod_isDone_245 at hf
  obtain ⟨h1, eh1, hf⟩ := z_bs hf
  refine z_zast X hI eh1 d_Mod_isDone_245 (fun H locs hI => ?_)
  refine lv_iload_n hx hb d_Mod_isDone_246 rfl (lv_at hl 2 rfl) ?_
  refine lv_aload_n hx hb d_Mod_isDone_247 rfl (lv_at hl 0 rfl) ?_
  obtain ⟨x2, ex2, hf⟩ := z_bs hf
  refine z_getF X hI (k := 21) (ci := 12) (gR_s ex2) i_Mod rfl (by decide) wf_Mod_59 d_Mod_isDone_248 ?_
  refine lv_iload_n hx hb d_Mod_isDone_251 rfl (lv_at hl 1 rfl) ?_
  obtain ⟨x3, ex3, hf⟩ := z_bs hf
  refine z_zald X hI ex3 d_Mod_isDone_252 ?_
  refine lv_icmp_eq (tgt := 260) hx hb d_Mod_isDone_253 (by decide) (fun c4 => ?_) (fun c4 => ?_)
  · rw [if_pos c4] at hf
    refine lv_iconst (v := 0) hx hb d_Mod_isDone_260 (by decide) ?_
    cases hf
    exact z_zret X hI (Or.inl rfl) d_Mod_isDone_261
  · rw [if_neg c4] at hf
    refine lv_iconst (v := 1) hx hb d_Mod_isDone_256 (by decide) ?_
    refine lv_goto (tgt := 261) hx hb d_Mod_isDone_257 (by decide) ?_
    cases hf
    exact z_zret X hI (Or.inr rfl) d_Mod_isDone_261
def f_Mod_isDone_221 (N : Nat)  (v0 : Nat) (v1 : Int32) (v2 : Int32) (v3 : Int32) (s0 : Nat) (s1 : Int32) (h : z_H) : Option (Int32 × z_H) :=
  z_b (zB s1) fun x1 =>
  z_b (sF h s0 12 75 (.int x1)) fun h2 =>
  z_b (gR h2 v0 12 64) fun x3 =>
  if v3 = 0 then
  (f_Mod_isDone_245 N v0 v1 v3 x3 v2 0 h2)
  else
  (z_b (gI h2 v0 12 75) fun x5 =>
  if x5 = 0 then
  (f_Mod_isDone_245 N v0 v1 v3 x3 v2 1 h2)
  else
  (f_Mod_isDone_245 N v0 v1 v3 x3 v2 0 h2))
set_option maxRecDepth 20000 in
set_option maxHeartbeats 2000000 in
theorem s_Mod_isDone_221 (X : z_X p s m args meth c prog_14_method_52_code 4 (some .boolean) Ts "StreamForgeModel" D dA B) {N : Nat} {r : Int32} {h' : z_H}   : ∀ (v0 : Nat) (v1 : Int32) (v2 : Int32) (v3 : Int32) (s0 : Nat) (s1 : Int32) (h : z_H) (H : Heap) (locs : List Loc) (ls : Array Slot), z_I D dA B h s.heap H locs → lv_has ls 4 [(0, .ref v0), (1, .int v1), (2, .int v2), (3, .int v3)] → f_Mod_isDone_221 N  v0 v1 v2 v3 s0 s1 h = some (r, h') → W p l e (z_rm 4 108) s m args below meth c H locs 0 0 (MQ below (z_Q D dA B (some (.int r)) h') args s 0 0 (fun q => B ≤ q)) (F0 m 221 ls [.int s1, .ref s0]) := by
  have hx := z_hx X
  have hb := z_hb X
  intro v0 v1 v2 v3 s0 s1 h H locs ls hI hl hf
  unfold f_Mod_isDone_221 at hf
  obtain ⟨x1, ex1, hf⟩ := z_bs hf
  refine z_topi (zB_s ex1).1 ?_
  have nx1 : narrow .boolean (.int x1) = .int x1 := z_nb ex1
  obtain ⟨h2, eh2, hf⟩ := z_bs hf
  refine z_putF X hI (k := 75) (ci := 12) (ty0 := t_Mod) eh2 i_Mod t_Mod_ok n_Mod rfl (by decide) wf_Mod_352 rfl nx1 (z_fb ex1) d_Mod_isDone_221 (fun H locs hI => ?_)
  refine lv_aload_n hx hb d_Mod_isDone_224 rfl (lv_at hl 0 rfl) ?_
  obtain ⟨x3, ex3, hf⟩ := z_bs hf
  refine z_getF X hI (k := 64) (ci := 12) (gR_s ex3) i_Mod rfl (by decide) wf_Mod_148 d_Mod_isDone_225 ?_
  refine lv_iload_n hx hb d_Mod_isDone_228 rfl (lv_at hl 2 rfl) ?_
  refine lv_iload_n hx hb d_Mod_isDone_229 rfl (lv_at hl 3 rfl) ?_
  refine lv_if_eq (tgt := 244) hx hb d_Mod_isDone_230 (by decide) (fun c4 => ?_) (fun c4 => ?_)
  · rw [if_pos c4] at hf
    refine lv_iconst (v := 0) hx hb d_Mod_isDone_244 (by decide) ?_
    exact s_Mod_isDone_245 X  v0 v1 v3 x3 v2 0 h2 _ _ _ hI (lv_sub hl [0, 1, 3] rfl) hf
  · rw [if_neg c4] at hf
    refine lv_aload_n hx hb d_Mod_isDone_233 rfl (lv_at hl 0 rfl) ?_
    obtain ⟨x5, ex5, hf⟩ := z_bs hf
    refine z_getF X hI (k := 75) (ci := 12) (gI_s ex5) i_Mod rfl (by decide) wf_Mod_352 d_Mod_isDone_234 ?_
    refine lv_if_ne (tgt := 244) hx hb d_Mod_isDone_237 (by decide) (fun c6 => ?_) (fun c6 => ?_)
    · rw [if_neg c6] at hf
      refine lv_iconst (v := 0) hx hb d_Mod_isDone_244 (by decide) ?_
      exact s_Mod_isDone_245 X  v0 v1 v3 x3 v2 0 h2 _ _ _ hI (lv_sub hl [0, 1, 3] rfl) hf
    · rw [if_pos c6] at hf
      refine lv_iconst (v := 1) hx hb d_Mod_isDone_240 (by decide) ?_
      refine lv_goto (tgt := 245) hx hb d_Mod_isDone_241 (by decide) ?_
      exact s_Mod_isDone_245 X  v0 v1 v3 x3 v2 1 h2 _ _ _ hI (lv_sub hl [0, 1, 3] rfl) hf
def f_Mod_isDone (N : Nat) (v0 : Nat) (v1 : Int32) (h : z_H) : Option (Int32 × z_H) :=
  z_b (gI h v0 12 7) fun x1 =>
  z_b (some (v1 - (40 * x1))) fun x2 =>
  z_b (sF h v0 12 75 (.int 1)) fun h3 =>
  z_b (gR h3 v0 12 10) fun x4 =>
  z_b (aI h3 x4 0 v1) fun x5 =>
  if x5 = 0 then
  (z_b (gR h3 v0 12 21) fun x50 =>
  z_b (aI h3 x50 3 v1) fun x51 =>
  if x51 = 0 then
  (some (1, h3))
  else
  (some (0, h3)))
  else
  (z_b (gR h3 v0 12 12) fun x7 =>
  z_b (aI h3 x7 0 v1) fun x8 =>
  if x8 = 0 then
  (z_b (gR h3 v0 12 10) fun x41 =>
  z_b (aI h3 x41 0 v1) fun x42 =>
  z_b (gR h3 v0 12 11) fun x43 =>
  z_b (aI h3 x43 0 v1) fun x44 =>
  z_b (gO h3 v0 12) fun u45 =>
  z_b (f_Mod_fitsAddress N v0 x42 x44 h3) fun r46 =>
  z_b (gR r46.2 v0 12 21) fun x47 =>
  z_b (aI r46.2 x47 3 v1) fun x48 =>
  if (r46.1) = x48 then
  (some (0, r46.2))
  else
  (some (1, r46.2)))
  else
  (z_b (gR h3 v0 12 64) fun x10 =>
  z_b (aI h3 x10 3 x2) fun x11 =>
  if x11 = 0 then
  (z_b (gR h3 v0 12 10) fun x13 =>
  z_b (aI h3 x13 0 v1) fun x14 =>
  z_b (gR h3 v0 12 11) fun x15 =>
  z_b (aI h3 x15 0 v1) fun x16 =>
  z_b (gO h3 v0 12) fun u17 =>
  z_b (f_Mod_fitsAddress N v0 x14 x16 h3) fun r18 =>
  z_b (some (r18.1)) fun x19 =>
  if x19 = 0 then
  (f_Mod_isDone_221 N v0 v1 x2 x19 v0 0 r18.2)
  else
  (z_b (gR r18.2 v0 12 12) fun x21 =>
  z_b (aI r18.2 x21 0 v1) fun x22 =>
  if x22 = 1 then
  (z_b (gR r18.2 v0 12 13) fun x24 =>
  z_b (aI r18.2 x24 0 v1) fun x25 =>
  z_b (gI r18.2 v0 12 70) fun x26 =>
  if x26 < x25 then
  (f_Mod_isDone_221 N v0 v1 x2 x19 v0 0 r18.2)
  else
  (f_Mod_isDone_221 N v0 v1 x2 x19 v0 1 r18.2))
  else
  (f_Mod_isDone_221 N v0 v1 x2 x19 v0 0 r18.2)))
  else
  (z_b (gR h3 v0 12 12) fun x28 =>
  z_b (aI h3 x28 0 v1) fun x29 =>
  if x29 = 1 then
  (z_b (gI h3 v0 12 70) fun x37 =>
  z_b (gR h3 v0 12 13) fun x38 =>
  z_b (aI h3 x38 0 v1) fun x39 =>
  if x37 < x39 then
  (f_Mod_isDone_135 N v0 v1 x2 0 h3)
  else
  (f_Mod_isDone_135 N v0 v1 x2 1 h3))
  else
  (z_b (gR h3 v0 12 12) fun x31 =>
  z_b (aI h3 x31 0 v1) fun x32 =>
  z_b (gR h3 v0 12 13) fun x33 =>
  z_b (aI h3 x33 0 v1) fun x34 =>
  z_b (gO h3 v0 12) fun u35 =>
  z_b (f_Mod_fitsAddress N v0 x32 x34 h3) fun r36 =>
  f_Mod_isDone_135 N v0 v1 x2 (r36.1) r36.2))))
set_option maxRecDepth 20000 in
set_option maxHeartbeats 2000000 in
theorem s_Mod_isDone {l : Launch} {D : va_G} {dA : Nat → ClassId} {B N : Nat} {v0 : Nat} {v1 : Int32} {h h' : z_H} {r : Int32} (hf : f_Mod_isDone N v0 v1 h = some (r, h')) : z_Met l y_Mod_isDone prog_14_method_52_code 4 (some .boolean) 4 108 D dA B [.ref v0, .int v1] h (some (.int r)) h' := by
  refine z_of (by decide) (Nat.le_of_ble_eq_true rfl) (fun p e s m below meth c ls X hI hl => ?_)
  have hx := z_hx X
  have hb := z_hb X
  have hl : lv_has ls 4 [(0, .ref v0), (1, .int v1)] := hl
  unfold f_Mod_isDone at hf
  obtain ⟨locs, hlo⟩ : ∃ z : List Loc, z = [] := ⟨_, rfl⟩
  rw [← hlo] at hI ⊢
  refine lv_iload_n hx hb d_Mod_isDone_0 rfl (lv_at hl 1 rfl) ?_
  refine lv_bipush (v := 40) hx hb d_Mod_isDone_1 (by decide) ?_
  refine lv_aload_n hx hb d_Mod_isDone_3 rfl (lv_at hl 0 rfl) ?_
  obtain ⟨x1, ex1, hf⟩ := z_bs hf
  refine z_getF X hI (k := 7) (ci := 12) (gI_s ex1) i_Mod rfl (by decide) wf_Mod_284 d_Mod_isDone_4 ?_
  refine lv_imul hx hb d_Mod_isDone_7 ?_
  refine lv_isub hx hb d_Mod_isDone_8 ?_
  obtain ⟨x2, ex2, hf⟩ := z_bs hf
  refine z_topi (Option.some.inj ex2) ?_
  refine lv_istore_n (lv' := [(2, .int x2), (0, .ref v0), (1, .int v1)]) hx hb d_Mod_isDone_9 rfl hl (by decide) rfl (fun ls hl => ?_)
  refine lv_aload_n hx hb d_Mod_isDone_10 rfl (lv_at hl 1 rfl) ?_
  refine lv_iconst (v := 1) hx hb d_Mod_isDone_11 (by decide) ?_
  obtain ⟨h3, eh3, hf⟩ := z_bs hf
  refine z_putF X hI (k := 75) (ci := 12) (ty0 := t_Mod) eh3 i_Mod t_Mod_ok n_Mod rfl (by decide) wf_Mod_352 rfl rfl rfl d_Mod_isDone_12 (fun H locs hI => ?_)
  refine lv_aload_n hx hb d_Mod_isDone_15 rfl (lv_at hl 1 rfl) ?_
  obtain ⟨x4, ex4, hf⟩ := z_bs hf
  refine z_getF X hI (k := 10) (ci := 12) (gR_s ex4) i_Mod rfl (by decide) wf_Mod_26 d_Mod_isDone_16 ?_
  refine lv_iload_n hx hb d_Mod_isDone_19 rfl (lv_at hl 2 rfl) ?_
  obtain ⟨x5, ex5, hf⟩ := z_bs hf
  refine z_iald X hI ex5 d_Mod_isDone_20 ?_
  refine lv_if_ne (tgt := 39) hx hb d_Mod_isDone_21 (by decide) (fun c6 => ?_) (fun c6 => ?_)
  · rw [if_neg c6] at hf
    refine lv_aload_n hx hb d_Mod_isDone_39 rfl (lv_at hl 1 rfl) ?_
    obtain ⟨x7, ex7, hf⟩ := z_bs hf
    refine z_getF X hI (k := 12) (ci := 12) (gR_s ex7) i_Mod rfl (by decide) wf_Mod_32 d_Mod_isDone_40 ?_
    refine lv_iload_n hx hb d_Mod_isDone_43 rfl (lv_at hl 2 rfl) ?_
    obtain ⟨x8, ex8, hf⟩ := z_bs hf
    refine z_iald X hI ex8 d_Mod_isDone_44 ?_
    refine lv_if_ne (tgt := 79) hx hb d_Mod_isDone_45 (by decide) (fun c9 => ?_) (fun c9 => ?_)
    · rw [if_neg c9] at hf
      refine lv_aload_n hx hb d_Mod_isDone_79 rfl (lv_at hl 1 rfl) ?_
      obtain ⟨x10, ex10, hf⟩ := z_bs hf
      refine z_getF X hI (k := 64) (ci := 12) (gR_s ex10) i_Mod rfl (by decide) wf_Mod_148 d_Mod_isDone_80 ?_
      refine lv_iload_n hx hb d_Mod_isDone_83 rfl (lv_at hl 0 rfl) ?_
      obtain ⟨x11, ex11, hf⟩ := z_bs hf
      refine z_zald X hI ex11 d_Mod_isDone_84 ?_
      refine lv_if_eq (tgt := 171) hx hb d_Mod_isDone_85 (by decide) (fun c12 => ?_) (fun c12 => ?_)
      · rw [if_pos c12] at hf
        refine lv_aload_n hx hb d_Mod_isDone_171 rfl (lv_at hl 1 rfl) ?_
        refine lv_aload_n hx hb d_Mod_isDone_172 rfl (lv_at hl 1 rfl) ?_
        obtain ⟨x13, ex13, hf⟩ := z_bs hf
        refine z_getF X hI (k := 10) (ci := 12) (gR_s ex13) i_Mod rfl (by decide) wf_Mod_26 d_Mod_isDone_173 ?_
        refine lv_iload_n hx hb d_Mod_isDone_176 rfl (lv_at hl 2 rfl) ?_
        obtain ⟨x14, ex14, hf⟩ := z_bs hf
        refine z_iald X hI ex14 d_Mod_isDone_177 ?_
        refine lv_aload_n hx hb d_Mod_isDone_178 rfl (lv_at hl 1 rfl) ?_
        obtain ⟨x15, ex15, hf⟩ := z_bs hf
        refine z_getF X hI (k := 11) (ci := 12) (gR_s ex15) i_Mod rfl (by decide) wf_Mod_29 d_Mod_isDone_179 ?_
        refine lv_iload_n hx hb d_Mod_isDone_182 rfl (lv_at hl 2 rfl) ?_
        obtain ⟨x16, ex16, hf⟩ := z_bs hf
        refine z_iald X hI ex16 d_Mod_isDone_183 ?_
        obtain ⟨u17, eu17, hf⟩ := z_bs hf
        obtain ⟨r18, er18, hf⟩ := z_bs hf
        refine z_callV (As := [.int x14, .int x16]) (rest := []) (r := (some (.int r18.1))) (h' := r18.2) X hI eu17 (s_Mod_fitsAddress er18) rfl rfl wm_Mod_355 yi_Mod_fitsAddress rfl hl.1 rfl (Nat.le_of_ble_eq_true rfl) (by decide) (by decide) d_Mod_isDone_184 (fun H locs hI => ?_)
        refine W.eq (g2 := F0 m 187 ls [.int (r18.1)]) rfl ?_
        obtain ⟨x19, ex19, hf⟩ := z_bs hf
        refine z_topi (Option.some.inj ex19) ?_
        refine lv_istore_n (lv' := [(3, .int x19), (2, .int x2), (0, .ref v0), (1, .int v1)]) hx hb d_Mod_isDone_187 rfl hl (by decide) rfl (fun ls hl => ?_)
        refine lv_aload_n hx hb d_Mod_isDone_188 rfl (lv_at hl 2 rfl) ?_
        refine lv_iload_n hx hb d_Mod_isDone_189 rfl (lv_at hl 0 rfl) ?_
        refine lv_if_eq (tgt := 220) hx hb d_Mod_isDone_190 (by decide) (fun c20 => ?_) (fun c20 => ?_)
        · rw [if_pos c20] at hf
          refine lv_iconst (v := 0) hx hb d_Mod_isDone_220 (by decide) ?_
          exact s_Mod_isDone_221 X  v0 v1 x2 x19 v0 0 r18.2 _ _ _ hI (lv_sub hl [2, 3, 1, 0] rfl) hf
        · rw [if_neg c20] at hf
          refine lv_aload_n hx hb d_Mod_isDone_193 rfl (lv_at hl 2 rfl) ?_
          obtain ⟨x21, ex21, hf⟩ := z_bs hf
          refine z_getF X hI (k := 12) (ci := 12) (gR_s ex21) i_Mod rfl (by decide) wf_Mod_32 d_Mod_isDone_194 ?_
          refine lv_iload_n hx hb d_Mod_isDone_197 rfl (lv_at hl 3 rfl) ?_
          obtain ⟨x22, ex22, hf⟩ := z_bs hf
          refine z_iald X hI ex22 d_Mod_isDone_198 ?_
          refine lv_iconst (v := 1) hx hb d_Mod_isDone_199 (by decide) ?_
          refine lv_icmp_ne (tgt := 220) hx hb d_Mod_isDone_200 (by decide) (fun c23 => ?_) (fun c23 => ?_)
          · rw [if_neg c23] at hf
            refine lv_iconst (v := 0) hx hb d_Mod_isDone_220 (by decide) ?_
            exact s_Mod_isDone_221 X  v0 v1 x2 x19 v0 0 r18.2 _ _ _ hI (lv_sub hl [2, 3, 1, 0] rfl) hf
          · rw [if_pos c23] at hf
            refine lv_aload_n hx hb d_Mod_isDone_203 rfl (lv_at hl 2 rfl) ?_
            obtain ⟨x24, ex24, hf⟩ := z_bs hf
            refine z_getF X hI (k := 13) (ci := 12) (gR_s ex24) i_Mod rfl (by decide) wf_Mod_35 d_Mod_isDone_204 ?_
            refine lv_iload_n hx hb d_Mod_isDone_207 rfl (lv_at hl 3 rfl) ?_
            obtain ⟨x25, ex25, hf⟩ := z_bs hf
            refine z_iald X hI ex25 d_Mod_isDone_208 ?_
            refine lv_aload_n hx hb d_Mod_isDone_209 rfl (lv_at hl 2 rfl) ?_
            obtain ⟨x26, ex26, hf⟩ := z_bs hf
            refine z_getF X hI (k := 70) (ci := 12) (gI_s ex26) i_Mod rfl (by decide) wf_Mod_346 d_Mod_isDone_210 ?_
            refine lv_icmp_gt (tgt := 220) hx hb d_Mod_isDone_213 (by decide) (fun c27 => ?_) (fun c27 => ?_)
            · rw [if_pos c27] at hf
              refine lv_iconst (v := 0) hx hb d_Mod_isDone_220 (by decide) ?_
              exact s_Mod_isDone_221 X  v0 v1 x2 x19 v0 0 r18.2 _ _ _ hI (lv_sub hl [2, 3, 1, 0] rfl) hf
            · rw [if_neg c27] at hf
              refine lv_iconst (v := 1) hx hb d_Mod_isDone_216 (by decide) ?_
              refine lv_goto (tgt := 221) hx hb d_Mod_isDone_217 (by decide) ?_
              exact s_Mod_isDone_221 X  v0 v1 x2 x19 v0 1 r18.2 _ _ _ hI (lv_sub hl [2, 3, 1, 0] rfl) hf
      · rw [if_neg c12] at hf
        refine lv_aload_n hx hb d_Mod_isDone_88 rfl (lv_at hl 1 rfl) ?_
        obtain ⟨x28, ex28, hf⟩ := z_bs hf
        refine z_getF X hI (k := 12) (ci := 12) (gR_s ex28) i_Mod rfl (by decide) wf_Mod_32 d_Mod_isDone_89 ?_
        refine lv_iload_n hx hb d_Mod_isDone_92 rfl (lv_at hl 2 rfl) ?_
        obtain ⟨x29, ex29, hf⟩ := z_bs hf
        refine z_iald X hI ex29 d_Mod_isDone_93 ?_
        refine lv_iconst (v := 1) hx hb d_Mod_isDone_94 (by decide) ?_
        refine lv_icmp_ne (tgt := 119) hx hb d_Mod_isDone_95 (by decide) (fun c30 => ?_) (fun c30 => ?_)
        · rw [if_neg c30] at hf
          refine lv_aload_n hx hb d_Mod_isDone_119 rfl (lv_at hl 1 rfl) ?_
          refine lv_aload_n hx hb d_Mod_isDone_120 rfl (lv_at hl 1 rfl) ?_
          obtain ⟨x31, ex31, hf⟩ := z_bs hf
          refine z_getF X hI (k := 12) (ci := 12) (gR_s ex31) i_Mod rfl (by decide) wf_Mod_32 d_Mod_isDone_121 ?_
          refine lv_iload_n hx hb d_Mod_isDone_124 rfl (lv_at hl 2 rfl) ?_
          obtain ⟨x32, ex32, hf⟩ := z_bs hf
          refine z_iald X hI ex32 d_Mod_isDone_125 ?_
          refine lv_aload_n hx hb d_Mod_isDone_126 rfl (lv_at hl 1 rfl) ?_
          obtain ⟨x33, ex33, hf⟩ := z_bs hf
          refine z_getF X hI (k := 13) (ci := 12) (gR_s ex33) i_Mod rfl (by decide) wf_Mod_35 d_Mod_isDone_127 ?_
          refine lv_iload_n hx hb d_Mod_isDone_130 rfl (lv_at hl 2 rfl) ?_
          obtain ⟨x34, ex34, hf⟩ := z_bs hf
          refine z_iald X hI ex34 d_Mod_isDone_131 ?_
          obtain ⟨u35, eu35, hf⟩ := z_bs hf
          obtain ⟨r36, er36, hf⟩ := z_bs hf
          refine z_callV (As := [.int x32, .int x34]) (rest := []) (r := (some (.int r36.1))) (h' := r36.2) X hI eu35 (s_Mod_fitsAddress er36) rfl rfl wm_Mod_355 yi_Mod_fitsAddress rfl hl.1 rfl (Nat.le_of_ble_eq_true rfl) (by decide) (by decide) d_Mod_isDone_132 (fun H locs hI => ?_)
          refine W.eq (g2 := F0 m 135 ls [.int (r36.1)]) rfl ?_
          exact s_Mod_isDone_135 X  v0 v1 x2 (r36.1) r36.2 _ _ _ hI (lv_sub hl [1, 2, 0] rfl) hf
        · rw [if_pos c30] at hf
          refine lv_aload_n hx hb d_Mod_isDone_98 rfl (lv_at hl 1 rfl) ?_
          obtain ⟨x37, ex37, hf⟩ := z_bs hf
          refine z_getF X hI (k := 70) (ci := 12) (gI_s ex37) i_Mod rfl (by decide) wf_Mod_346 d_Mod_isDone_99 ?_
          refine lv_aload_n hx hb d_Mod_isDone_102 rfl (lv_at hl 1 rfl) ?_
          obtain ⟨x38, ex38, hf⟩ := z_bs hf
          refine z_getF X hI (k := 13) (ci := 12) (gR_s ex38) i_Mod rfl (by decide) wf_Mod_35 d_Mod_isDone_103 ?_
          refine lv_iload_n hx hb d_Mod_isDone_106 rfl (lv_at hl 2 rfl) ?_
          obtain ⟨x39, ex39, hf⟩ := z_bs hf
          refine z_iald X hI ex39 d_Mod_isDone_107 ?_
          refine lv_icmp_lt (tgt := 115) hx hb d_Mod_isDone_108 (by decide) (fun c40 => ?_) (fun c40 => ?_)
          · rw [if_pos c40] at hf
            refine lv_iconst (v := 0) hx hb d_Mod_isDone_115 (by decide) ?_
            refine lv_goto (tgt := 135) hx hb d_Mod_isDone_116 (by decide) ?_
            exact s_Mod_isDone_135 X  v0 v1 x2 0 h3 _ _ _ hI (lv_sub hl [1, 2, 0] rfl) hf
          · rw [if_neg c40] at hf
            refine lv_iconst (v := 1) hx hb d_Mod_isDone_111 (by decide) ?_
            refine lv_goto (tgt := 135) hx hb d_Mod_isDone_112 (by decide) ?_
            exact s_Mod_isDone_135 X  v0 v1 x2 1 h3 _ _ _ hI (lv_sub hl [1, 2, 0] rfl) hf
    · rw [if_pos c9] at hf
      refine lv_aload_n hx hb d_Mod_isDone_48 rfl (lv_at hl 1 rfl) ?_
      refine lv_aload_n hx hb d_Mod_isDone_49 rfl (lv_at hl 1 rfl) ?_
      obtain ⟨x41, ex41, hf⟩ := z_bs hf
      refine z_getF X hI (k := 10) (ci := 12) (gR_s ex41) i_Mod rfl (by decide) wf_Mod_26 d_Mod_isDone_50 ?_
      refine lv_iload_n hx hb d_Mod_isDone_53 rfl (lv_at hl 2 rfl) ?_
      obtain ⟨x42, ex42, hf⟩ := z_bs hf
      refine z_iald X hI ex42 d_Mod_isDone_54 ?_
      refine lv_aload_n hx hb d_Mod_isDone_55 rfl (lv_at hl 1 rfl) ?_
      obtain ⟨x43, ex43, hf⟩ := z_bs hf
      refine z_getF X hI (k := 11) (ci := 12) (gR_s ex43) i_Mod rfl (by decide) wf_Mod_29 d_Mod_isDone_56 ?_
      refine lv_iload_n hx hb d_Mod_isDone_59 rfl (lv_at hl 2 rfl) ?_
      obtain ⟨x44, ex44, hf⟩ := z_bs hf
      refine z_iald X hI ex44 d_Mod_isDone_60 ?_
      obtain ⟨u45, eu45, hf⟩ := z_bs hf
      obtain ⟨r46, er46, hf⟩ := z_bs hf
      refine z_callV (As := [.int x42, .int x44]) (rest := []) (r := (some (.int r46.1))) (h' := r46.2) X hI eu45 (s_Mod_fitsAddress er46) rfl rfl wm_Mod_355 yi_Mod_fitsAddress rfl hl.1 rfl (Nat.le_of_ble_eq_true rfl) (by decide) (by decide) d_Mod_isDone_61 (fun H locs hI => ?_)
      refine W.eq (g2 := F0 m 64 ls [.int (r46.1)]) rfl ?_
      refine lv_aload_n hx hb d_Mod_isDone_64 rfl (lv_at hl 1 rfl) ?_
      obtain ⟨x47, ex47, hf⟩ := z_bs hf
      refine z_getF X hI (k := 21) (ci := 12) (gR_s ex47) i_Mod rfl (by decide) wf_Mod_59 d_Mod_isDone_65 ?_
      refine lv_iload_n hx hb d_Mod_isDone_68 rfl (lv_at hl 2 rfl) ?_
      obtain ⟨x48, ex48, hf⟩ := z_bs hf
      refine z_zald X hI ex48 d_Mod_isDone_69 ?_
      refine lv_icmp_eq (tgt := 77) hx hb d_Mod_isDone_70 (by decide) (fun c49 => ?_) (fun c49 => ?_)
      · rw [if_pos c49] at hf
        refine lv_iconst (v := 0) hx hb d_Mod_isDone_77 (by decide) ?_
        cases hf
        exact z_zret X hI (Or.inl rfl) d_Mod_isDone_78
      · rw [if_neg c49] at hf
        refine lv_iconst (v := 1) hx hb d_Mod_isDone_73 (by decide) ?_
        refine lv_goto (tgt := 78) hx hb d_Mod_isDone_74 (by decide) ?_
        cases hf
        exact z_zret X hI (Or.inr rfl) d_Mod_isDone_78
  · rw [if_pos c6] at hf
    refine lv_aload_n hx hb d_Mod_isDone_24 rfl (lv_at hl 1 rfl) ?_
    obtain ⟨x50, ex50, hf⟩ := z_bs hf
    refine z_getF X hI (k := 21) (ci := 12) (gR_s ex50) i_Mod rfl (by decide) wf_Mod_59 d_Mod_isDone_25 ?_
    refine lv_iload_n hx hb d_Mod_isDone_28 rfl (lv_at hl 2 rfl) ?_
    obtain ⟨x51, ex51, hf⟩ := z_bs hf
    refine z_zald X hI ex51 d_Mod_isDone_29 ?_
    refine lv_if_ne (tgt := 37) hx hb d_Mod_isDone_30 (by decide) (fun c52 => ?_) (fun c52 => ?_)
    · rw [if_neg c52] at hf
      refine lv_iconst (v := 0) hx hb d_Mod_isDone_37 (by decide) ?_
      cases hf
      exact z_zret X hI (Or.inl rfl) d_Mod_isDone_38
    · rw [if_pos c52] at hf
      refine lv_iconst (v := 1) hx hb d_Mod_isDone_33 (by decide) ?_
      refine lv_goto (tgt := 38) hx hb d_Mod_isDone_34 (by decide) ?_
      cases hf
      exact z_zret X hI (Or.inr rfl) d_Mod_isDone_38
def f_Mod_readLine_15 (N : Nat)  : Nat → Nat → Int32 → z_H → Option z_H
  | 0, _, _, _ => none
  | n + 1, v0, v1, h =>
    z_b (gI h v0 12 65) fun x1 =>
    if x1 ≤ v1 then
    (z_b (gI h v0 12 70) fun x3 =>
    z_b (sF h v0 12 70 (.int (x3 + 1))) fun h4 =>
    some h4)
    else
    (z_b (gR h v0 12 58) fun x5 =>
    z_b (gR h v0 12 2) fun x6 =>
    z_b (gI h v0 12 70) fun x7 =>
    z_b (aI h x6 0 ((24 * x7) + v1)) fun x8 =>
    z_b (uI h x5 0 v1 x8) fun h9 =>
    z_b (some (v1 + 1)) fun x10 =>
    (f_Mod_readLine_15 N  n) v0 x10 h9)
set_option maxRecDepth 20000 in
set_option maxHeartbeats 2000000 in
theorem s_Mod_readLine_15 (X : z_X p s m args meth c prog_14_method_53_code 2 none Ts "StreamForgeModel" D dA B) {N : Nat} {h' : z_H}   : ∀ n : Nat, ∀ (v0 : Nat) (v1 : Int32) (h : z_H) (H : Heap) (locs : List Loc) (ls : Array Slot), z_I D dA B h s.heap H locs → lv_has ls 2 [(0, .ref v0), (1, .int v1)] → f_Mod_readLine_15 N  n v0 v1 h = some h' → W p l e (z_rm 0 0) s m args below meth c H locs 0 0 (MQ below (z_Q D dA B none h') args s 0 0 (fun q => B ≤ q)) (F0 m 15 ls []) := by
  have hx := z_hx X
  have hb := z_hb X
  intro n
  induction n with
  | zero => intro v0 v1 h H locs ls hI hl hf; rw [f_Mod_readLine_15] at hf; cases hf
  | succ n ih =>
    intro v0 v1 h H locs ls hI hl hf
    rw [f_Mod_readLine_15] at hf
    refine lv_iload_n hx hb d_Mod_readLine_15 rfl (lv_at hl 1 rfl) ?_
    refine lv_aload_n hx hb d_Mod_readLine_16 rfl (lv_at hl 0 rfl) ?_
    obtain ⟨x1, ex1, hf⟩ := z_bs hf
    refine z_getF X hI (k := 65) (ci := 12) (gI_s ex1) i_Mod rfl (by decide) wf_Mod_319 d_Mod_readLine_17 ?_
    refine lv_icmp_ge (tgt := 49) hx hb d_Mod_readLine_20 (by decide) (fun c2 => ?_) (fun c2 => ?_)
    · rw [if_pos c2] at hf
      refine lv_aload_n hx hb d_Mod_readLine_49 rfl (lv_at hl 0 rfl) ?_
      refine lv_dup hx hb d_Mod_readLine_50 rfl ?_
      obtain ⟨x3, ex3, hf⟩ := z_bs hf
      refine z_getF X hI (k := 70) (ci := 12) (gI_s ex3) i_Mod rfl (by decide) wf_Mod_346 d_Mod_readLine_51 ?_
      refine lv_iconst (v := 1) hx hb d_Mod_readLine_54 (by decide) ?_
      refine lv_iadd hx hb d_Mod_readLine_55 ?_
      obtain ⟨h4, eh4, hf⟩ := z_bs hf
      refine z_putF X hI (k := 70) (ci := 12) (ty0 := t_Mod) eh4 i_Mod t_Mod_ok n_Mod rfl (by decide) wf_Mod_346 rfl rfl rfl d_Mod_readLine_56 (fun H locs hI => ?_)
      cases hf
      exact z_vret X hI d_Mod_readLine_59
    · rw [if_neg c2] at hf
      refine lv_aload_n hx hb d_Mod_readLine_23 rfl (lv_at hl 0 rfl) ?_
      obtain ⟨x5, ex5, hf⟩ := z_bs hf
      refine z_getF X hI (k := 58) (ci := 12) (gR_s ex5) i_Mod rfl (by decide) wf_Mod_130 d_Mod_readLine_24 ?_
      refine lv_iload_n hx hb d_Mod_readLine_27 rfl (lv_at hl 1 rfl) ?_
      refine lv_aload_n hx hb d_Mod_readLine_28 rfl (lv_at hl 0 rfl) ?_
      obtain ⟨x6, ex6, hf⟩ := z_bs hf
      refine z_getF X hI (k := 2) (ci := 12) (gR_s ex6) i_Mod rfl (by decide) wf_Mod_16 d_Mod_readLine_29 ?_
      refine lv_bipush (v := 24) hx hb d_Mod_readLine_32 (by decide) ?_
      refine lv_aload_n hx hb d_Mod_readLine_34 rfl (lv_at hl 0 rfl) ?_
      obtain ⟨x7, ex7, hf⟩ := z_bs hf
      refine z_getF X hI (k := 70) (ci := 12) (gI_s ex7) i_Mod rfl (by decide) wf_Mod_346 d_Mod_readLine_35 ?_
      refine lv_imul hx hb d_Mod_readLine_38 ?_
      refine lv_iload_n hx hb d_Mod_readLine_39 rfl (lv_at hl 1 rfl) ?_
      refine lv_iadd hx hb d_Mod_readLine_40 ?_
      obtain ⟨x8, ex8, hf⟩ := z_bs hf
      refine z_iald X hI ex8 d_Mod_readLine_41 ?_
      obtain ⟨h9, eh9, hf⟩ := z_bs hf
      refine z_iast X hI eh9 d_Mod_readLine_42 (fun H locs hI => ?_)
      obtain ⟨x10, ex10, hf⟩ := z_bs hf
      refine lv_iinc (v := x10) (lv' := [(1, .int x10), (0, .ref v0)]) hx hb d_Mod_readLine_43 hl (k := 1) rfl (by rw [← Option.some.inj ex10]; rfl) (by decide) rfl (fun ls hl => ?_)
      refine lv_goto (tgt := 15) hx hb d_Mod_readLine_46 (by decide) ?_
      exact ih v0 x10 h9 _ _ _ hI (lv_sub hl [1, 0] rfl) hf
def f_Mod_readLine (N : Nat) (v0 : Nat) (h : z_H) : Option z_H :=
  z_b (gR h v0 12 1) fun x1 =>
  z_b (gI h v0 12 70) fun x2 =>
  z_b (aI h x1 0 x2) fun x3 =>
  z_b (sF h v0 12 65 (.int x3)) fun h4 =>
  f_Mod_readLine_15 N N v0 0 h4
set_option maxRecDepth 20000 in
set_option maxHeartbeats 2000000 in
theorem s_Mod_readLine {l : Launch} {D : va_G} {dA : Nat → ClassId} {B N : Nat} {v0 : Nat} {h h' : z_H} (hf : f_Mod_readLine N v0 h = some h') : z_Met l y_Mod_readLine prog_14_method_53_code 2 none 0 0 D dA B [.ref v0] h none h' := by
  refine z_of (by decide) (Nat.le_of_ble_eq_true rfl) (fun p e s m below meth c ls X hI hl => ?_)
  have hx := z_hx X
  have hb := z_hb X
  have hl : lv_has ls 2 [(0, .ref v0)] := hl
  unfold f_Mod_readLine at hf
  obtain ⟨locs, hlo⟩ : ∃ z : List Loc, z = [] := ⟨_, rfl⟩
  rw [← hlo] at hI ⊢
  refine lv_aload_n hx hb d_Mod_readLine_0 rfl (lv_at hl 0 rfl) ?_
  refine lv_aload_n hx hb d_Mod_readLine_1 rfl (lv_at hl 0 rfl) ?_
  obtain ⟨x1, ex1, hf⟩ := z_bs hf
  refine z_getF X hI (k := 1) (ci := 12) (gR_s ex1) i_Mod rfl (by decide) wf_Mod_13 d_Mod_readLine_2 ?_
  refine lv_aload_n hx hb d_Mod_readLine_5 rfl (lv_at hl 0 rfl) ?_
  obtain ⟨x2, ex2, hf⟩ := z_bs hf
  refine z_getF X hI (k := 70) (ci := 12) (gI_s ex2) i_Mod rfl (by decide) wf_Mod_346 d_Mod_readLine_6 ?_
  obtain ⟨x3, ex3, hf⟩ := z_bs hf
  refine z_iald X hI ex3 d_Mod_readLine_9 ?_
  obtain ⟨h4, eh4, hf⟩ := z_bs hf
  refine z_putF X hI (k := 65) (ci := 12) (ty0 := t_Mod) eh4 i_Mod t_Mod_ok n_Mod rfl (by decide) wf_Mod_319 rfl rfl rfl d_Mod_readLine_10 (fun H locs hI => ?_)
  refine lv_iconst (v := 0) hx hb d_Mod_readLine_13 (by decide) ?_
  refine lv_istore_n (lv' := [(1, .int 0), (0, .ref v0)]) hx hb d_Mod_readLine_14 rfl hl (by decide) rfl (fun ls hl => ?_)
  exact s_Mod_readLine_15 X  N v0 0 h4 _ _ _ hI (lv_sub hl [1, 0] rfl) hf
def f_Mod_add (N : Nat) (v0 : Nat) (v1 : Int32) (h : z_H) : Option z_H :=
  z_b (gI h v0 12 67) fun x1 =>
  if 390 ≤ x1 then
  (some h)
  else
  (z_b (gR h v0 12 60) fun x3 =>
  z_b (gI h v0 12 67) fun x4 =>
  z_b (sF h v0 12 67 (.int (x4 + 1))) fun h5 =>
  z_b (uI h5 x3 0 x4 v1) fun h6 =>
  some h6)
set_option maxRecDepth 20000 in
set_option maxHeartbeats 2000000 in
theorem s_Mod_add {l : Launch} {D : va_G} {dA : Nat → ClassId} {B N : Nat} {v0 : Nat} {v1 : Int32} {h h' : z_H} (hf : f_Mod_add N v0 v1 h = some h') : z_Met l y_Mod_add prog_14_method_54_code 2 none 0 0 D dA B [.ref v0, .int v1] h none h' := by
  refine z_of (by decide) (Nat.le_of_ble_eq_true rfl) (fun p e s m below meth c ls X hI hl => ?_)
  have hx := z_hx X
  have hb := z_hb X
  have hl : lv_has ls 2 [(0, .ref v0), (1, .int v1)] := hl
  unfold f_Mod_add at hf
  obtain ⟨locs, hlo⟩ : ∃ z : List Loc, z = [] := ⟨_, rfl⟩
  rw [← hlo] at hI ⊢
  refine lv_aload_n hx hb d_Mod_add_0 rfl (lv_at hl 0 rfl) ?_
  obtain ⟨x1, ex1, hf⟩ := z_bs hf
  refine z_getF X hI (k := 67) (ci := 12) (gI_s ex1) i_Mod rfl (by decide) wf_Mod_334 d_Mod_add_1 ?_
  refine lv_sipush (v := 390) hx hb d_Mod_add_4 (by decide) ?_
  refine lv_icmp_ge (tgt := 27) hx hb d_Mod_add_7 (by decide) (fun c2 => ?_) (fun c2 => ?_)
  · rw [if_pos c2] at hf
    cases hf
    exact z_vret X hI d_Mod_add_27
  · rw [if_neg c2] at hf
    refine lv_aload_n hx hb d_Mod_add_10 rfl (lv_at hl 0 rfl) ?_
    obtain ⟨x3, ex3, hf⟩ := z_bs hf
    refine z_getF X hI (k := 60) (ci := 12) (gR_s ex3) i_Mod rfl (by decide) wf_Mod_136 d_Mod_add_11 ?_
    refine lv_aload_n hx hb d_Mod_add_14 rfl (lv_at hl 0 rfl) ?_
    refine lv_dup hx hb d_Mod_add_15 rfl ?_
    obtain ⟨x4, ex4, hf⟩ := z_bs hf
    refine z_getF X hI (k := 67) (ci := 12) (gI_s ex4) i_Mod rfl (by decide) wf_Mod_334 d_Mod_add_16 ?_
    refine lv_dup_x1 hx hb d_Mod_add_19 rfl rfl ?_
    refine lv_iconst (v := 1) hx hb d_Mod_add_20 (by decide) ?_
    refine lv_iadd hx hb d_Mod_add_21 ?_
    obtain ⟨h5, eh5, hf⟩ := z_bs hf
    refine z_putF X hI (k := 67) (ci := 12) (ty0 := t_Mod) eh5 i_Mod t_Mod_ok n_Mod rfl (by decide) wf_Mod_334 rfl rfl rfl d_Mod_add_22 (fun H locs hI => ?_)
    refine lv_iload_n hx hb d_Mod_add_25 rfl (lv_at hl 1 rfl) ?_
    obtain ⟨h6, eh6, hf⟩ := z_bs hf
    refine z_iast X hI eh6 d_Mod_add_26 (fun H locs hI => ?_)
    cases hf
    exact z_vret X hI d_Mod_add_27
end
