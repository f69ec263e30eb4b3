section
variable {p : Program} {l : Launch} {e : Env} {s : State} {m : MethodId} {args : Array Value} {below : List Frame} {meth : Method} {c : Code} {Ts : List Cond} {own : String} {D : va_G} {dA : Nat → ClassId} {B : Nat}
def f_Cur_look (N : Nat) (v0 : Nat) (v1 : Int32) (h : z_H) : Option (Int32 × z_H) :=
  z_b (gI h v0 2 1) fun x1 =>
  z_b (some (x1 + v1)) fun x2 =>
  z_b (gR h v0 2 0) fun x3 =>
  z_b (gI h x3 10 1) fun x4 =>
  if x4 ≤ x2 then
  (some ((-1), h))
  else
  (z_b (gR h v0 2 0) fun x6 =>
  z_b (gR h x6 10 0) fun x7 =>
  z_b (aI h x7 1 x2) fun x8 =>
  some (x8, h))
set_option maxRecDepth 20000 in
set_option maxHeartbeats 2000000 in
theorem s_Cur_look {l : Launch} {D : va_G} {dA : Nat → ClassId} {B N : Nat} {v0 : Nat} {v1 : Int32} {h h' : z_H} {r : Int32} (hf : f_Cur_look N v0 v1 h = some (r, h')) : z_Met l y_Cur_look prog_4_method_2_code 3 (some .int) 0 0 D dA B [.ref v0, .int v1] h (some (.int r)) h' := by
  refine z_of (by decide) (Nat.le_of_ble_eq_true rfl) (fun p e s m below meth c ls X hI hl => ?_)
  have hx := z_hx X
  have hb := z_hb X
  have hl : lv_has ls 3 [(0, .ref v0), (1, .int v1)] := hl
  unfold f_Cur_look at hf
  obtain ⟨locs, hlo⟩ : ∃ z : List Loc, z = [] := ⟨_, rfl⟩
  rw [← hlo] at hI ⊢
  refine lv_aload_n hx hb d_Cur_look_0 rfl (lv_at hl 0 rfl) ?_
  obtain ⟨x1, ex1, hf⟩ := z_bs hf
  refine z_getF X hI (k := 1) (ci := 2) (gI_s ex1) i_Cur rfl (by decide) wf_Cur_9 d_Cur_look_1 ?_
  refine lv_iload_n hx hb d_Cur_look_4 rfl (lv_at hl 1 rfl) ?_
  refine lv_iadd hx hb d_Cur_look_5 ?_
  obtain ⟨x2, ex2, hf⟩ := z_bs hf
  refine z_topi (Option.some.inj ex2) ?_
  refine lv_istore_n (lv' := [(2, .int x2), (0, .ref v0), (1, .int v1)]) hx hb d_Cur_look_6 rfl hl (by decide) rfl (fun ls hl => ?_)
  refine lv_iload_n hx hb d_Cur_look_7 rfl (lv_at hl 0 rfl) ?_
  refine lv_aload_n hx hb d_Cur_look_8 rfl (lv_at hl 1 rfl) ?_
  obtain ⟨x3, ex3, hf⟩ := z_bs hf
  refine z_getF X hI (k := 0) (ci := 2) (gR_s ex3) i_Cur rfl (by decide) wf_Cur_15 d_Cur_look_9 ?_
  obtain ⟨x4, ex4, hf⟩ := z_bs hf
  refine z_getF X hI (k := 1) (ci := 10) (gI_s ex4) i_Row rfl (by decide) wf_Cur_19 d_Cur_look_12 ?_
  refine lv_icmp_ge (tgt := 30) hx hb d_Cur_look_15 (by decide) (fun c5 => ?_) (fun c5 => ?_)
  · rw [if_pos c5] at hf
    refine lv_iconst (v := (-1)) hx hb d_Cur_look_30 (by decide) ?_
    cases hf
    exact z_iret X hI d_Cur_look_31
  · rw [if_neg c5] at hf
    refine lv_aload_n hx hb d_Cur_look_18 rfl (lv_at hl 1 rfl) ?_
    obtain ⟨x6, ex6, hf⟩ := z_bs hf
    refine z_getF X hI (k := 0) (ci := 2) (gR_s ex6) i_Cur rfl (by decide) wf_Cur_15 d_Cur_look_19 ?_
    obtain ⟨x7, ex7, hf⟩ := z_bs hf
    refine z_getF X hI (k := 0) (ci := 10) (gR_s ex7) i_Row rfl (by decide) wf_Cur_24 d_Cur_look_22 ?_
    refine lv_iload_n hx hb d_Cur_look_25 rfl (lv_at hl 0 rfl) ?_
    obtain ⟨x8, ex8, hf⟩ := z_bs hf
    refine z_cald X hI ex8 d_Cur_look_26 ?_
    refine lv_goto (tgt := 31) hx hb d_Cur_look_27 (by decide) ?_
    cases hf
    exact z_iret X hI d_Cur_look_31
def f_Cur_refuse (N : Nat) (v0 : Nat) (v1 : Int32) (h : z_H) : Option (Int32 × z_H) :=
  z_b (gI h v0 2 1) fun x1 =>
  z_b (sF h v0 2 2 (.int (x1 + v1))) fun h2 =>
  some (0, h2)
set_option maxRecDepth 20000 in
set_option maxHeartbeats 2000000 in
theorem s_Cur_refuse {l : Launch} {D : va_G} {dA : Nat → ClassId} {B N : Nat} {v0 : Nat} {v1 : Int32} {h h' : z_H} {r : Int32} (hf : f_Cur_refuse N v0 v1 h = some (r, h')) : z_Met l y_Cur_refuse prog_4_method_3_code 2 (some .boolean) 0 0 D dA B [.ref v0, .int v1] h (some (.int r)) h' := by
  refine z_of (by decide) (Nat.le_of_ble_eq_true rfl) (fun p e s m below meth c ls X hI hl => ?_)
  have hx := z_hx X
  have hb := z_hb X
  have hl : lv_has ls 2 [(0, .ref v0), (1, .int v1)] := hl
  unfold f_Cur_refuse at hf
  obtain ⟨locs, hlo⟩ : ∃ z : List Loc, z = [] := ⟨_, rfl⟩
  rw [← hlo] at hI ⊢
  refine lv_aload_n hx hb d_Cur_refuse_0 rfl (lv_at hl 0 rfl) ?_
  refine lv_aload_n hx hb d_Cur_refuse_1 rfl (lv_at hl 0 rfl) ?_
  obtain ⟨x1, ex1, hf⟩ := z_bs hf
  refine z_getF X hI (k := 1) (ci := 2) (gI_s ex1) i_Cur rfl (by decide) wf_Cur_9 d_Cur_refuse_2 ?_
  refine lv_iload_n hx hb d_Cur_refuse_5 rfl (lv_at hl 1 rfl) ?_
  refine lv_iadd hx hb d_Cur_refuse_6 ?_
  obtain ⟨h2, eh2, hf⟩ := z_bs hf
  refine z_putF X hI (k := 2) (ci := 2) (ty0 := t_Cur) eh2 i_Cur t_Cur_ok n_Cur rfl (by decide) wf_Cur_28 rfl rfl rfl d_Cur_refuse_7 (fun H locs hI => ?_)
  refine lv_iconst (v := 0) hx hb d_Cur_refuse_10 (by decide) ?_
  cases hf
  exact z_zret X hI (Or.inl rfl) d_Cur_refuse_11
def f_Cur_pass (N : Nat) (v0 : Nat) (v1 : Int32) (h : z_H) : Option (Int32 × z_H) :=
  z_b (gO h v0 2) fun u1 =>
  z_b (f_Cur_look N v0 0 h) fun r2 =>
  if (r2.1) = v1 then
  (z_b (gI r2.2 v0 2 1) fun x4 =>
  z_b (sF r2.2 v0 2 1 (.int (x4 + 1))) fun h5 =>
  some (1, h5))
  else
  (z_b (gO r2.2 v0 2) fun u6 =>
  z_b (f_Cur_refuse N v0 0 r2.2) fun r7 =>
  z_b (zB (r7.1)) fun x8 =>
  some (x8, r7.2))
set_option maxRecDepth 20000 in
set_option maxHeartbeats 2000000 in
theorem s_Cur_pass {l : Launch} {D : va_G} {dA : Nat → ClassId} {B N : Nat} {v0 : Nat} {v1 : Int32} {h h' : z_H} {r : Int32} (hf : f_Cur_pass N v0 v1 h = some (r, h')) : z_Met l y_Cur_pass prog_4_method_4_code 2 (some .boolean) 1 22 D dA B [.ref v0, .int v1] h (some (.int r)) h' := by
  refine z_of (by decide) (Nat.le_of_ble_eq_true rfl) (fun p e s m below meth c ls X hI hl => ?_)
  have hx := z_hx X
  have hb := z_hb X
  have hl : lv_has ls 2 [(0, .ref v0), (1, .int v1)] := hl
  unfold f_Cur_pass at hf
  obtain ⟨locs, hlo⟩ : ∃ z : List Loc, z = [] := ⟨_, rfl⟩
  rw [← hlo] at hI ⊢
  refine lv_aload_n hx hb d_Cur_pass_0 rfl (lv_at hl 0 rfl) ?_
  refine lv_iconst (v := 0) hx hb d_Cur_pass_1 (by decide) ?_
  obtain ⟨u1, eu1, hf⟩ := z_bs hf
  obtain ⟨r2, er2, hf⟩ := z_bs hf
  refine z_callV (As := [.int 0]) (rest := []) (r := (some (.int r2.1))) (h' := r2.2) X hI eu1 (s_Cur_look er2) rfl rfl wm_Cur_31 yi_Cur_look rfl hl.1 rfl (Nat.le_of_ble_eq_true rfl) (by decide) (by decide) d_Cur_pass_2 (fun H locs hI => ?_)
  refine W.eq (g2 := F0 m 5 ls [.int (r2.1)]) rfl ?_
  refine lv_iload_n hx hb d_Cur_pass_5 rfl (lv_at hl 1 rfl) ?_
  refine lv_icmp_eq (tgt := 15) hx hb d_Cur_pass_6 (by decide) (fun c3 => ?_) (fun c3 => ?_)
  · rw [if_pos c3] at hf
    refine lv_aload_n hx hb d_Cur_pass_15 rfl (lv_at hl 0 rfl) ?_
    refine lv_dup hx hb d_Cur_pass_16 rfl ?_
    obtain ⟨x4, ex4, hf⟩ := z_bs hf
    refine z_getF X hI (k := 1) (ci := 2) (gI_s ex4) i_Cur rfl (by decide) wf_Cur_9 d_Cur_pass_17 ?_
    refine lv_iconst (v := 1) hx hb d_Cur_pass_20 (by decide) ?_
    refine lv_iadd hx hb d_Cur_pass_21 ?_
    obtain ⟨h5, eh5, hf⟩ := z_bs hf
    refine z_putF X hI (k := 1) (ci := 2) (ty0 := t_Cur) eh5 i_Cur t_Cur_ok n_Cur rfl (by decide) wf_Cur_9 rfl rfl rfl d_Cur_pass_22 (fun H locs hI => ?_)
    refine lv_iconst (v := 1) hx hb d_Cur_pass_25 (by decide) ?_
    cases hf
    exact z_zret X hI (Or.inr rfl) d_Cur_pass_26
  · rw [if_neg c3] at hf
    refine lv_aload_n hx hb d_Cur_pass_9 rfl (lv_at hl 0 rfl) ?_
    refine lv_iconst (v := 0) hx hb d_Cur_pass_10 (by decide) ?_
    obtain ⟨u6, eu6, hf⟩ := z_bs hf
    obtain ⟨r7, er7, hf⟩ := z_bs hf
    refine z_callV (As := [.int 0]) (rest := []) (r := (some (.int r7.1))) (h' := r7.2) X hI eu6 (s_Cur_refuse er7) rfl rfl wm_Cur_35 yi_Cur_refuse rfl hl.1 rfl (Nat.le_of_ble_eq_true rfl) (by decide) (by decide) d_Cur_pass_11 (fun H locs hI => ?_)
    refine W.eq (g2 := F0 m 14 ls [.int (r7.1)]) rfl ?_
    obtain ⟨x8, ex8, hf⟩ := z_bs hf
    refine z_topi (zB_s ex8).1 ?_
    cases hf
    exact z_zret X hI (zB_s2 ex8) d_Cur_pass_14
def f_It_add (N : Nat) (v0 : Nat) (v1 : Int32) (v2 : Int32) (h : z_H) : Option z_H :=
  z_b (gI h v0 4 4) fun x1 =>
  if 240 ≤ x1 then
  (some h)
  else
  (z_b (gR h v0 4 0) fun x3 =>
  z_b (gI h v0 4 4) fun x4 =>
  z_b (uI h x3 0 x4 v1) fun h5 =>
  z_b (gR h5 v0 4 1) fun x6 =>
  z_b (gI h5 v0 4 4) fun x7 =>
  z_b (uI h5 x6 0 x7 v2) fun h8 =>
  z_b (gR h8 v0 4 2) fun x9 =>
  z_b (gI h8 v0 4 4) fun x10 =>
  z_b (uL h8 x9 x10 0) fun h11 =>
  z_b (gR h11 v0 4 3) fun x12 =>
  z_b (gI h11 v0 4 4) fun x13 =>
  z_b (uL h11 x12 x13 0) fun h14 =>
  z_b (gI h14 v0 4 4) fun x15 =>
  z_b (sF h14 v0 4 4 (.int (x15 + 1))) fun h16 =>
  some h16)
set_option maxRecDepth 20000 in
set_option maxHeartbeats 2000000 in
theorem s_It_add {l : Launch} {D : va_G} {dA : Nat → ClassId} {B N : Nat} {v0 : Nat} {v1 : Int32} {v2 : Int32} {h h' : z_H} (hf : f_It_add N v0 v1 v2 h = some h') : z_Met l y_It_add prog_6_method_2_code 3 none 0 0 D dA B [.ref v0, .int v1, .int v2] h none h' := by
  refine z_of (by decide) (Nat.le_of_ble_eq_true rfl) (fun p e s m below meth c ls X hI hl => ?_)
  have hx := z_hx X
  have hb := z_hb X
  have hl : lv_has ls 3 [(0, .ref v0), (1, .int v1), (2, .int v2)] := hl
  unfold f_It_add at hf
  obtain ⟨locs, hlo⟩ : ∃ z : List Loc, z = [] := ⟨_, rfl⟩
  rw [← hlo] at hI ⊢
  refine lv_aload_n hx hb d_It_add_0 rfl (lv_at hl 0 rfl) ?_
  obtain ⟨x1, ex1, hf⟩ := z_bs hf
  refine z_getF X hI (k := 4) (ci := 4) (gI_s ex1) i_It rfl (by decide) wf_It_25 d_It_add_1 ?_
  refine lv_sipush (v := 240) hx hb d_It_add_4 (by decide) ?_
  refine lv_icmp_ge (tgt := 60) hx hb d_It_add_7 (by decide) (fun c2 => ?_) (fun c2 => ?_)
  · rw [if_pos c2] at hf
    cases hf
    exact z_vret X hI d_It_add_60
  · rw [if_neg c2] at hf
    refine lv_aload_n hx hb d_It_add_10 rfl (lv_at hl 0 rfl) ?_
    obtain ⟨x3, ex3, hf⟩ := z_bs hf
    refine z_getF X hI (k := 0) (ci := 4) (gR_s ex3) i_It rfl (by decide) wf_It_9 d_It_add_11 ?_
    refine lv_aload_n hx hb d_It_add_14 rfl (lv_at hl 0 rfl) ?_
    obtain ⟨x4, ex4, hf⟩ := z_bs hf
    refine z_getF X hI (k := 4) (ci := 4) (gI_s ex4) i_It rfl (by decide) wf_It_25 d_It_add_15 ?_
    refine lv_iload_n hx hb d_It_add_18 rfl (lv_at hl 1 rfl) ?_
    obtain ⟨h5, eh5, hf⟩ := z_bs hf
    refine z_iast X hI eh5 d_It_add_19 (fun H locs hI => ?_)
    refine lv_aload_n hx hb d_It_add_20 rfl (lv_at hl 0 rfl) ?_
    obtain ⟨x6, ex6, hf⟩ := z_bs hf
    refine z_getF X hI (k := 1) (ci := 4) (gR_s ex6) i_It rfl (by decide) wf_It_15 d_It_add_21 ?_
    refine lv_aload_n hx hb d_It_add_24 rfl (lv_at hl 0 rfl) ?_
    obtain ⟨x7, ex7, hf⟩ := z_bs hf
    refine z_getF X hI (k := 4) (ci := 4) (gI_s ex7) i_It rfl (by decide) wf_It_25 d_It_add_25 ?_
    refine lv_iload_n hx hb d_It_add_28 rfl (lv_at hl 2 rfl) ?_
    obtain ⟨h8, eh8, hf⟩ := z_bs hf
    refine z_iast X hI eh8 d_It_add_29 (fun H locs hI => ?_)
    refine lv_aload_n hx hb d_It_add_30 rfl (lv_at hl 0 rfl) ?_
    obtain ⟨x9, ex9, hf⟩ := z_bs hf
    refine z_getF X hI (k := 2) (ci := 4) (gR_s ex9) i_It rfl (by decide) wf_It_18 d_It_add_31 ?_
    refine lv_aload_n hx hb d_It_add_34 rfl (lv_at hl 0 rfl) ?_
    obtain ⟨x10, ex10, hf⟩ := z_bs hf
    refine z_getF X hI (k := 4) (ci := 4) (gI_s ex10) i_It rfl (by decide) wf_It_25 d_It_add_35 ?_
    refine lv_lconst (v := 0) hx hb d_It_add_38 (by decide) ?_
    obtain ⟨h11, eh11, hf⟩ := z_bs hf
    refine z_last X hI eh11 d_It_add_39 (fun H locs hI => ?_)
    refine lv_aload_n hx hb d_It_add_40 rfl (lv_at hl 0 rfl) ?_
    obtain ⟨x12, ex12, hf⟩ := z_bs hf
    refine z_getF X hI (k := 3) (ci := 4) (gR_s ex12) i_It rfl (by decide) wf_It_22 d_It_add_41 ?_
    refine lv_aload_n hx hb d_It_add_44 rfl (lv_at hl 0 rfl) ?_
    obtain ⟨x13, ex13, hf⟩ := z_bs hf
    refine z_getF X hI (k := 4) (ci := 4) (gI_s ex13) i_It rfl (by decide) wf_It_25 d_It_add_45 ?_
    refine lv_lconst (v := 0) hx hb d_It_add_48 (by decide) ?_
    obtain ⟨h14, eh14, hf⟩ := z_bs hf
    refine z_last X hI eh14 d_It_add_49 (fun H locs hI => ?_)
    refine lv_aload_n hx hb d_It_add_50 rfl (lv_at hl 0 rfl) ?_
    refine lv_dup hx hb d_It_add_51 rfl ?_
    obtain ⟨x15, ex15, hf⟩ := z_bs hf
    refine z_getF X hI (k := 4) (ci := 4) (gI_s ex15) i_It rfl (by decide) wf_It_25 d_It_add_52 ?_
    refine lv_iconst (v := 1) hx hb d_It_add_55 (by decide) ?_
    refine lv_iadd hx hb d_It_add_56 ?_
    obtain ⟨h16, eh16, hf⟩ := z_bs hf
    refine z_putF X hI (k := 4) (ci := 4) (ty0 := t_It) eh16 i_It t_It_ok n_It rfl (by decide) wf_It_25 rfl rfl rfl d_It_add_57 (fun H locs hI => ?_)
    cases hf
    exact z_vret X hI d_It_add_60
def f_It_allow_10 (N : Nat)  : Nat → Nat → Int32 → Int32 → Int32 → z_H → Option z_H
  | 0, _, _, _, _, _ => none
  | n + 1, v0, v2, v3, v4, h =>
    if v2 < v4 then
    (some h)
    else
    (if v3 < 0 then
    (some h)
    else
    (z_b (some (v4 - 32)) fun x3 =>
    if 64 ≤ x3 then
    (z_b (gR h v0 4 3) fun x5 =>
    z_b (aL h x5 v3) fun x6 =>
    z_b (uL h x5 v3 (x6 ||| (1 <<< (Int32.toInt64 (x3 - 64) &&& 63)))) fun h7 =>
    z_b (some (v4 + 1)) fun x8 =>
    (f_It_allow_10 N  n) v0 v2 v3 x8 h7)
    else
    (z_b (gR h v0 4 2) fun x9 =>
    z_b (aL h x9 v3) fun x10 =>
    z_b (uL h x9 v3 (x10 ||| (1 <<< (Int32.toInt64 x3 &&& 63)))) fun h11 =>
    z_b (some (v4 + 1)) fun x12 =>
    (f_It_allow_10 N  n) v0 v2 v3 x12 h11)))
set_option maxRecDepth 20000 in
set_option maxHeartbeats 2000000 in
theorem s_It_allow_10 (X : z_X p s m args meth c prog_6_method_3_code 6 none Ts "StreamForge$Items" D dA B) {N : Nat} {h' : z_H}   : ∀ n : Nat, ∀ (v0 : Nat) (v2 : Int32) (v3 : Int32) (v4 : Int32) (h : z_H) (H : Heap) (locs : List Loc) (ls : Array Slot), z_I D dA B h s.heap H locs → lv_has ls 6 [(0, .ref v0), (2, .int v2), (3, .int v3), (4, .int v4)] → f_It_allow_10 N  n v0 v2 v3 v4 h = some h' → W p l e (z_rm 0 0) s m args below meth c H locs 0 0 (MQ below (z_Q D dA B none h') args s 0 0 (fun q => B ≤ q)) (F0 m 10 ls []) := by
  have hx := z_hx X
  have hb := z_hb X
  intro n
  induction n with
  | zero => intro v0 v2 v3 v4 h H locs ls hI hl hf; rw [f_It_allow_10] at hf; cases hf
  | succ n ih =>
    intro v0 v2 v3 v4 h H locs ls hI hl hf
    rw [f_It_allow_10] at hf
    refine lv_iload hx hb d_It_allow_10 (lv_at hl 3 rfl) ?_
    refine lv_iload_n hx hb d_It_allow_12 rfl (lv_at hl 1 rfl) ?_
    refine lv_icmp_gt (tgt := 72) hx hb d_It_allow_13 (by decide) (fun c1 => ?_) (fun c1 => ?_)
    · rw [if_pos c1] at hf
      cases hf
      exact z_vret X hI d_It_allow_72
    · rw [if_neg c1] at hf
      refine lv_iload_n hx hb d_It_allow_16 rfl (lv_at hl 2 rfl) ?_
      refine lv_if_lt (tgt := 72) hx hb d_It_allow_17 (by decide) (fun c2 => ?_) (fun c2 => ?_)
      · rw [if_pos c2] at hf
        cases hf
        exact z_vret X hI d_It_allow_72
      · rw [if_neg c2] at hf
        refine lv_iload hx hb d_It_allow_20 (lv_at hl 3 rfl) ?_
        refine lv_bipush (v := 32) hx hb d_It_allow_22 (by decide) ?_
        refine lv_isub hx hb d_It_allow_24 ?_
        obtain ⟨x3, ex3, hf⟩ := z_bs hf
        refine z_topi (Option.some.inj ex3) ?_
        refine lv_istore (lv' := [(5, .int x3), (0, .ref v0), (2, .int v2), (3, .int v3), (4, .int v4)]) hx hb d_It_allow_25 hl (by decide) rfl (fun ls hl => ?_)
        refine lv_iload hx hb d_It_allow_27 (lv_at hl 0 rfl) ?_
        refine lv_bipush (v := 64) hx hb d_It_allow_29 (by decide) ?_
        refine lv_icmp_ge (tgt := 50) hx hb d_It_allow_31 (by decide) (fun c4 => ?_) (fun c4 => ?_)
        · rw [if_pos c4] at hf
          refine lv_aload_n hx hb d_It_allow_50 rfl (lv_at hl 1 rfl) ?_
          obtain ⟨x5, ex5, hf⟩ := z_bs hf
          refine z_getF X hI (k := 3) (ci := 4) (gR_s ex5) i_It rfl (by decide) wf_It_22 d_It_allow_51 ?_
          refine lv_iload_n hx hb d_It_allow_54 rfl (lv_at hl 3 rfl) ?_
          refine lv_dup2_11 hx hb d_It_allow_55 rfl rfl ?_
          obtain ⟨x6, ex6, hf⟩ := z_bs hf
          refine z_lald X hI ex6 d_It_allow_56 ?_
          refine lv_lconst (v := 1) hx hb d_It_allow_57 (by decide) ?_
          refine lv_iload hx hb d_It_allow_58 (lv_at hl 0 rfl) ?_
          refine lv_bipush (v := 64) hx hb d_It_allow_60 (by decide) ?_
          refine lv_isub hx hb d_It_allow_62 ?_
          refine lv_lshl hx hb d_It_allow_63 rfl ?_
          refine lv_lor hx hb d_It_allow_64 ?_
          obtain ⟨h7, eh7, hf⟩ := z_bs hf
          refine z_last X hI eh7 d_It_allow_65 (fun H locs hI => ?_)
          obtain ⟨x8, ex8, hf⟩ := z_bs hf
          refine lv_iinc (v := x8) (lv' := [(4, .int x8), (5, .int x3), (0, .ref v0), (2, .int v2), (3, .int v3)]) hx hb d_It_allow_66 hl (k := 4) rfl (by rw [← Option.some.inj ex8]; rfl) (by decide) rfl (fun ls hl => ?_)
          refine lv_goto (tgt := 10) hx hb d_It_allow_69 (by decide) ?_
          exact ih v0 v2 v3 x8 h7 _ _ _ hI (lv_sub hl [2, 3, 4, 0] rfl) hf
        · rw [if_neg c4] at hf
          refine lv_aload_n hx hb d_It_allow_34 rfl (lv_at hl 1 rfl) ?_
          obtain ⟨x9, ex9, hf⟩ := z_bs hf
          refine z_getF X hI (k := 2) (ci := 4) (gR_s ex9) i_It rfl (by decide) wf_It_18 d_It_allow_35 ?_
          refine lv_iload_n hx hb d_It_allow_38 rfl (lv_at hl 3 rfl) ?_
          refine lv_dup2_11 hx hb d_It_allow_39 rfl rfl ?_
          obtain ⟨x10, ex10, hf⟩ := z_bs hf
          refine z_lald X hI ex10 d_It_allow_40 ?_
          refine lv_lconst (v := 1) hx hb d_It_allow_41 (by decide) ?_
          refine lv_iload hx hb d_It_allow_42 (lv_at hl 0 rfl) ?_
          refine lv_lshl hx hb d_It_allow_44 rfl ?_
          refine lv_lor hx hb d_It_allow_45 ?_
          obtain ⟨h11, eh11, hf⟩ := z_bs hf
          refine z_last X hI eh11 d_It_allow_46 (fun H locs hI => ?_)
          refine lv_goto (tgt := 66) hx hb d_It_allow_47 (by decide) ?_
          obtain ⟨x12, ex12, hf⟩ := z_bs hf
          refine lv_iinc (v := x12) (lv' := [(4, .int x12), (5, .int x3), (0, .ref v0), (2, .int v2), (3, .int v3)]) hx hb d_It_allow_66 hl (k := 4) rfl (by rw [← Option.some.inj ex12]; rfl) (by decide) rfl (fun ls hl => ?_)
          refine lv_goto (tgt := 10) hx hb d_It_allow_69 (by decide) ?_
          exact ih v0 v2 v3 x12 h11 _ _ _ hI (lv_sub hl [2, 3, 4, 0] rfl) hf
def f_It_allow (N : Nat) (v0 : Nat) (v1 : Int32) (v2 : Int32) (h : z_H) : Option z_H :=
  z_b (gI h v0 4 4) fun x1 =>
  z_b (some (x1 - 1)) fun x2 =>
  f_It_allow_10 N N v0 v2 x2 v1 h
set_option maxRecDepth 20000 in
set_option maxHeartbeats 2000000 in
theorem s_It_allow {l : Launch} {D : va_G} {dA : Nat → ClassId} {B N : Nat} {v0 : Nat} {v1 : Int32} {v2 : Int32} {h h' : z_H} (hf : f_It_allow N v0 v1 v2 h = some h') : z_Met l y_It_allow prog_6_method_3_code 6 none 0 0 D dA B [.ref v0, .int v1, .int v2] h none h' := by
  refine z_of (by decide) (Nat.le_of_ble_eq_true rfl) (fun p e s m below meth c ls X hI hl => ?_)
  have hx := z_hx X
  have hb := z_hb X
  have hl : lv_has ls 6 [(0, .ref v0), (1, .int v1), (2, .int v2)] := hl
  unfold f_It_allow at hf
  obtain ⟨locs, hlo⟩ : ∃ z : List Loc, z = [] := ⟨_, rfl⟩
  rw [← hlo] at hI ⊢
  refine lv_aload_n hx hb d_It_allow_0 rfl (lv_at hl 0 rfl) ?_
  obtain ⟨x1, ex1, hf⟩ := z_bs hf
  refine z_getF X hI (k := 4) (ci := 4) (gI_s ex1) i_It rfl (by decide) wf_It_25 d_It_allow_1 ?_
  refine lv_iconst (v := 1) hx hb d_It_allow_4 (by decide) ?_
  refine lv_isub hx hb d_It_allow_5 ?_
  obtain ⟨x2, ex2, hf⟩ := z_bs hf
  refine z_topi (Option.some.inj ex2) ?_
  refine lv_istore_n (lv' := [(3, .int x2), (0, .ref v0), (1, .int v1), (2, .int v2)]) hx hb d_It_allow_6 rfl hl (by decide) rfl (fun ls hl => ?_)
  refine lv_iload_n hx hb d_It_allow_7 rfl (lv_at hl 2 rfl) ?_
  refine lv_istore (lv' := [(4, .int v1), (3, .int x2), (0, .ref v0), (1, .int v1), (2, .int v2)]) hx hb d_It_allow_8 hl (by decide) rfl (fun ls hl => ?_)
  exact s_It_allow_10 X  N v0 v2 x2 v1 h _ _ _ hI (lv_sub hl [2, 4, 1, 0] rfl) hf
def f_It_turn (N : Nat) (v0 : Nat) (h : z_H) : Option z_H :=
  z_b (gI h v0 4 4) fun x1 =>
  z_b (some (x1 - 1)) fun x2 =>
  if x2 < 0 then
  (some h)
  else
  (z_b (gR h v0 4 2) fun x4 =>
  z_b (gR h v0 4 2) fun x5 =>
  z_b (aL h x5 x2) fun x6 =>
  z_b (uL h x4 x2 (x6 ^^^ (-1))) fun h7 =>
  z_b (gR h7 v0 4 3) fun x8 =>
  z_b (gR h7 v0 4 3) fun x9 =>
  z_b (aL h7 x9 x2) fun x10 =>
  z_b (uL h7 x8 x2 (x10 ^^^ (-1))) fun h11 =>
  some h11)
set_option maxRecDepth 20000 in
set_option maxHeartbeats 2000000 in
theorem s_It_turn {l : Launch} {D : va_G} {dA : Nat → ClassId} {B N : Nat} {v0 : Nat} {h h' : z_H} (hf : f_It_turn N v0 h = some h') : z_Met l y_It_turn prog_6_method_4_code 2 none 0 0 D dA B [.ref v0] h none h' := by
  refine z_of (by decide) (Nat.le_of_ble_eq_true rfl) (fun p e s m below meth c ls X hI hl => ?_)
  have hx := z_hx X
  have hb := z_hb X
  have hl : lv_has ls 2 [(0, .ref v0)] := hl
  unfold f_It_turn at hf
  obtain ⟨locs, hlo⟩ : ∃ z : List Loc, z = [] := ⟨_, rfl⟩
  rw [← hlo] at hI ⊢
  refine lv_aload_n hx hb d_It_turn_0 rfl (lv_at hl 0 rfl) ?_
  obtain ⟨x1, ex1, hf⟩ := z_bs hf
  refine z_getF X hI (k := 4) (ci := 4) (gI_s ex1) i_It rfl (by decide) wf_It_25 d_It_turn_1 ?_
  refine lv_iconst (v := 1) hx hb d_It_turn_4 (by decide) ?_
  refine lv_isub hx hb d_It_turn_5 ?_
  obtain ⟨x2, ex2, hf⟩ := z_bs hf
  refine z_topi (Option.some.inj ex2) ?_
  refine lv_istore_n (lv' := [(1, .int x2), (0, .ref v0)]) hx hb d_It_turn_6 rfl hl (by decide) rfl (fun ls hl => ?_)
  refine lv_iload_n hx hb d_It_turn_7 rfl (lv_at hl 0 rfl) ?_
  refine lv_if_lt (tgt := 43) hx hb d_It_turn_8 (by decide) (fun c3 => ?_) (fun c3 => ?_)
  · rw [if_pos c3] at hf
    cases hf
    exact z_vret X hI d_It_turn_43
  · rw [if_neg c3] at hf
    refine lv_aload_n hx hb d_It_turn_11 rfl (lv_at hl 1 rfl) ?_
    obtain ⟨x4, ex4, hf⟩ := z_bs hf
    refine z_getF X hI (k := 2) (ci := 4) (gR_s ex4) i_It rfl (by decide) wf_It_18 d_It_turn_12 ?_
    refine lv_iload_n hx hb d_It_turn_15 rfl (lv_at hl 0 rfl) ?_
    refine lv_aload_n hx hb d_It_turn_16 rfl (lv_at hl 1 rfl) ?_
    obtain ⟨x5, ex5, hf⟩ := z_bs hf
    refine z_getF X hI (k := 2) (ci := 4) (gR_s ex5) i_It rfl (by decide) wf_It_18 d_It_turn_17 ?_
    refine lv_iload_n hx hb d_It_turn_20 rfl (lv_at hl 0 rfl) ?_
    obtain ⟨x6, ex6, hf⟩ := z_bs hf
    refine z_lald X hI ex6 d_It_turn_21 ?_
    refine lv_ldc2 (v := (-1)) hx hb X.1.2.2.2.1 (z_w X wc_It_29) d_It_turn_22 ?_
    refine lv_lxor hx hb d_It_turn_25 ?_
    obtain ⟨h7, eh7, hf⟩ := z_bs hf
    refine z_last X hI eh7 d_It_turn_26 (fun H locs hI => ?_)
    refine lv_aload_n hx hb d_It_turn_27 rfl (lv_at hl 1 rfl) ?_
    obtain ⟨x8, ex8, hf⟩ := z_bs hf
    refine z_getF X hI (k := 3) (ci := 4) (gR_s ex8) i_It rfl (by decide) wf_It_22 d_It_turn_28 ?_
    refine lv_iload_n hx hb d_It_turn_31 rfl (lv_at hl 0 rfl) ?_
    refine lv_aload_n hx hb d_It_turn_32 rfl (lv_at hl 1 rfl) ?_
    obtain ⟨x9, ex9, hf⟩ := z_bs hf
    refine z_getF X hI (k := 3) (ci := 4) (gR_s ex9) i_It rfl (by decide) wf_It_22 d_It_turn_33 ?_
    refine lv_iload_n hx hb d_It_turn_36 rfl (lv_at hl 0 rfl) ?_
    obtain ⟨x10, ex10, hf⟩ := z_bs hf
    refine z_lald X hI ex10 d_It_turn_37 ?_
    refine lv_ldc2 (v := (-1)) hx hb X.1.2.2.2.1 (z_w X wc_It_29) d_It_turn_38 ?_
    refine lv_lxor hx hb d_It_turn_41 ?_
    obtain ⟨h11, eh11, hf⟩ := z_bs hf
    refine z_last X hI eh11 d_It_turn_42 (fun H locs hI => ?_)
    cases hf
    exact z_vret X hI d_It_turn_43
def f_It_takes_44 (N : Nat)  (s0 : Int64) (h : z_H) : Option (Int32 × z_H) :=
  if (lg_cmp (s0 &&& 1) 0) = 0 then
  (some (0, h))
  else
  (some (1, h))
set_option maxRecDepth 20000 in
set_option maxHeartbeats 2000000 in
theorem s_It_takes_44 (X : z_X p s m args meth c prog_6_method_5_code 6 (some .boolean) Ts "StreamForge$Items" D dA B) {N : Nat} {r : Int32} {h' : z_H}   : ∀ (s0 : Int64) (h : z_H) (H : Heap) (locs : List Loc) (ls : Array Slot), z_I D dA B h s.heap H locs → lv_has ls 6 [] → f_It_takes_44 N  s0 h = some (r, h') → W p l e (z_rm 0 0) s m args below meth c H locs 0 0 (MQ below (z_Q D dA B (some (.int r)) h') args s 0 0 (fun q => B ≤ q)) (F0 m 44 ls [.long s0]) := by
  have hx := z_hx X
  have hb := z_hb X
  intro s0 h H locs ls hI hl hf
  unfold f_It_takes_44 at hf
  refine lv_lstore (lv' := [(4, .long s0)]) hx hb d_It_takes_44 hl (by decide) rfl (fun ls hl => ?_)
  refine lv_lload hx hb d_It_takes_46 (lv_at hl 0 rfl) ?_
  refine lv_lconst (v := 1) hx hb d_It_takes_48 (by decide) ?_
  refine lv_land hx hb d_It_takes_49 ?_
  refine lv_lconst (v := 0) hx hb d_It_takes_50 (by decide) ?_
  refine W.lcmp hx hb d_It_takes_51 ?_
  refine lv_if_eq (tgt := 59) hx hb d_It_takes_52 (by decide) (fun c1 => ?_) (fun c1 => ?_)
  · rw [if_pos c1] at hf
    refine lv_iconst (v := 0) hx hb d_It_takes_59 (by decide) ?_
    cases hf
    exact z_zret X hI (Or.inl rfl) d_It_takes_60
  · rw [if_neg c1] at hf
    refine lv_iconst (v := 1) hx hb d_It_takes_55 (by decide) ?_
    refine lv_goto (tgt := 60) hx hb d_It_takes_56 (by decide) ?_
    cases hf
    exact z_zret X hI (Or.inr rfl) d_It_takes_60
def f_It_takes_15 (N : Nat)  (v0 : Nat) (v1 : Int32) (s0 : Int32) (h : z_H) : Option (Int32 × z_H) :=
  if 64 ≤ s0 then
  (z_b (gR h v0 4 3) fun x2 =>
  z_b (aL h x2 v1) fun x3 =>
  f_It_takes_44 N ((Int64.toUInt64 x3 >>> (Int64.toUInt64 (Int32.toInt64 (s0 - 64)) &&& Int64.toUInt64 63)).toInt64) h)
  else
  (z_b (gR h v0 4 2) fun x4 =>
  z_b (aL h x4 v1) fun x5 =>
  f_It_takes_44 N ((Int64.toUInt64 x5 >>> (Int64.toUInt64 (Int32.toInt64 s0) &&& Int64.toUInt64 63)).toInt64) h)
set_option maxRecDepth 20000 in
set_option maxHeartbeats 2000000 in
theorem s_It_takes_15 (X : z_X p s m args meth c prog_6_method_5_code 6 (some .boolean) Ts "StreamForge$Items" D dA B) {N : Nat} {r : Int32} {h' : z_H}   : ∀ (v0 : Nat) (v1 : Int32) (s0 : Int32) (h : z_H) (H : Heap) (locs : List Loc) (ls : Array Slot), z_I D dA B h s.heap H locs → lv_has ls 6 [(0, .ref v0), (1, .int v1)] → f_It_takes_15 N  v0 v1 s0 h = some (r, h') → W p l e (z_rm 0 0) s m args below meth c H locs 0 0 (MQ below (z_Q D dA B (some (.int r)) h') args s 0 0 (fun q => B ≤ q)) (F0 m 15 ls [.int s0]) := by
  have hx := z_hx X
  have hb := z_hb X
  intro v0 v1 s0 h H locs ls hI hl hf
  unfold f_It_takes_15 at hf
  refine lv_istore_n (lv' := [(3, .int s0), (0, .ref v0), (1, .int v1)]) hx hb d_It_takes_15 rfl hl (by decide) rfl (fun ls hl => ?_)
  refine lv_iload_n hx hb d_It_takes_16 rfl (lv_at hl 0 rfl) ?_
  refine lv_bipush (v := 64) hx hb d_It_takes_17 (by decide) ?_
  refine lv_icmp_ge (tgt := 33) hx hb d_It_takes_19 (by decide) (fun c1 => ?_) (fun c1 => ?_)
  · rw [if_pos c1] at hf
    refine lv_aload_n hx hb d_It_takes_33 rfl (lv_at hl 1 rfl) ?_
    obtain ⟨x2, ex2, hf⟩ := z_bs hf
    refine z_getF X hI (k := 3) (ci := 4) (gR_s ex2) i_It rfl (by decide) wf_It_22 d_It_takes_34 ?_
    refine lv_iload_n hx hb d_It_takes_37 rfl (lv_at hl 2 rfl) ?_
    obtain ⟨x3, ex3, hf⟩ := z_bs hf
    refine z_lald X hI ex3 d_It_takes_38 ?_
    refine lv_iload_n hx hb d_It_takes_39 rfl (lv_at hl 0 rfl) ?_
    refine lv_bipush (v := 64) hx hb d_It_takes_40 (by decide) ?_
    refine lv_isub hx hb d_It_takes_42 ?_
    refine lv_lushr hx hb d_It_takes_43 rfl ?_
    exact s_It_takes_44 X  ((Int64.toUInt64 x3 >>> (Int64.toUInt64 (Int32.toInt64 (s0 - 64)) &&& Int64.toUInt64 63)).toInt64) h _ _ _ hI (lv_sub hl [] rfl) hf
  · rw [if_neg c1] at hf
    refine lv_aload_n hx hb d_It_takes_22 rfl (lv_at hl 1 rfl) ?_
    obtain ⟨x4, ex4, hf⟩ := z_bs hf
    refine z_getF X hI (k := 2) (ci := 4) (gR_s ex4) i_It rfl (by decide) wf_It_18 d_It_takes_23 ?_
    refine lv_iload_n hx hb d_It_takes_26 rfl (lv_at hl 2 rfl) ?_
    obtain ⟨x5, ex5, hf⟩ := z_bs hf
    refine z_lald X hI ex5 d_It_takes_27 ?_
    refine lv_iload_n hx hb d_It_takes_28 rfl (lv_at hl 0 rfl) ?_
    refine lv_lushr hx hb d_It_takes_29 rfl ?_
    refine lv_goto (tgt := 44) hx hb d_It_takes_30 (by decide) ?_
    exact s_It_takes_44 X  ((Int64.toUInt64 x5 >>> (Int64.toUInt64 (Int32.toInt64 s0) &&& Int64.toUInt64 63)).toInt64) h _ _ _ hI (lv_sub hl [] rfl) hf
def f_It_takes (N : Nat) (v0 : Nat) (v1 : Int32) (v2 : Int32) (h : z_H) : Option (Int32 × z_H) :=
  if v2 = 10 then
  (f_It_takes_15 N v0 v1 95 h)
  else
  (f_It_takes_15 N v0 v1 (v2 - 32) h)
set_option maxRecDepth 20000 in
set_option maxHeartbeats 2000000 in
theorem s_It_takes {l : Launch} {D : va_G} {dA : Nat → ClassId} {B N : Nat} {v0 : Nat} {v1 : Int32} {v2 : Int32} {h h' : z_H} {r : Int32} (hf : f_It_takes N v0 v1 v2 h = some (r, h')) : z_Met l y_It_takes prog_6_method_5_code 6 (some .boolean) 0 0 D dA B [.ref v0, .int v1, .int v2] h (some (.int r)) h' := by
  refine z_of (by decide) (Nat.le_of_ble_eq_true rfl) (fun p e s m below meth c ls X hI hl => ?_)
  have hx := z_hx X
  have hb := z_hb X
  have hl : lv_has ls 6 [(0, .ref v0), (1, .int v1), (2, .int v2)] := hl
  unfold f_It_takes at hf
  obtain ⟨locs, hlo⟩ : ∃ z : List Loc, z = [] := ⟨_, rfl⟩
  rw [← hlo] at hI ⊢
  refine lv_iload_n hx hb d_It_takes_0 rfl (lv_at hl 2 rfl) ?_
  refine lv_bipush (v := 10) hx hb d_It_takes_1 (by decide) ?_
  refine lv_icmp_ne (tgt := 11) hx hb d_It_takes_3 (by decide) (fun c1 => ?_) (fun c1 => ?_)
  · rw [if_neg c1] at hf
    refine lv_iload_n hx hb d_It_takes_11 rfl (lv_at hl 2 rfl) ?_
    refine lv_bipush (v := 32) hx hb d_It_takes_12 (by decide) ?_
    refine lv_isub hx hb d_It_takes_14 ?_
    exact s_It_takes_15 X  v0 v1 (v2 - 32) h _ _ _ hI (lv_sub hl [0, 1] rfl) hf
  · rw [if_pos c1] at hf
    refine lv_bipush (v := 95) hx hb d_It_takes_6 (by decide) ?_
    refine lv_goto (tgt := 15) hx hb d_It_takes_8 (by decide) ?_
    exact s_It_takes_15 X  v0 v1 95 h _ _ _ hI (lv_sub hl [0, 1] rfl) hf
def f_Cmd_reset (N : Nat) (v0 : Nat) (h : z_H) : Option z_H :=
  z_b (sF h v0 1 5 (.int 0)) fun h1 =>
  z_b (sF h1 v0 1 6 (.int 0)) fun h2 =>
  z_b (sF h2 v0 1 8 (.int (-1))) fun h3 =>
  z_b (sF h3 v0 1 12 (.int 0)) fun h4 =>
  z_b (sF h4 v0 1 13 (.int 0)) fun h5 =>
  z_b (sF h5 v0 1 14 (.int 0)) fun h6 =>
  some h6
set_option maxRecDepth 20000 in
set_option maxHeartbeats 2000000 in
theorem s_Cmd_reset {l : Launch} {D : va_G} {dA : Nat → ClassId} {B N : Nat} {v0 : Nat} {h h' : z_H} (hf : f_Cmd_reset N v0 h = some h') : z_Met l y_Cmd_reset prog_3_method_2_code 1 none 0 0 D dA B [.ref v0] h none h' := by
  refine z_of (by decide) (Nat.le_of_ble_eq_true rfl) (fun p e s m below meth c ls X hI hl => ?_)
  have hx := z_hx X
  have hb := z_hb X
  have hl : lv_has ls 1 [(0, .ref v0)] := hl
  unfold f_Cmd_reset at hf
  obtain ⟨locs, hlo⟩ : ∃ z : List Loc, z = [] := ⟨_, rfl⟩
  rw [← hlo] at hI ⊢
  refine lv_aload_n hx hb d_Cmd_reset_0 rfl (lv_at hl 0 rfl) ?_
  refine lv_iconst (v := 0) hx hb d_Cmd_reset_1 (by decide) ?_
  obtain ⟨h1, eh1, hf⟩ := z_bs hf
  refine z_putF X hI (k := 5) (ci := 1) (ty0 := t_Cmd) eh1 i_Cmd t_Cmd_ok n_Cmd rfl (by decide) wf_Cmd_28 rfl rfl rfl d_Cmd_reset_2 (fun H locs hI => ?_)
  refine lv_aload_n hx hb d_Cmd_reset_5 rfl (lv_at hl 0 rfl) ?_
  refine lv_iconst (v := 0) hx hb d_Cmd_reset_6 (by decide) ?_
  obtain ⟨h2, eh2, hf⟩ := z_bs hf
  refine z_putF X hI (k := 6) (ci := 1) (ty0 := t_Cmd) eh2 i_Cmd t_Cmd_ok n_Cmd rfl (by decide) wf_Cmd_32 rfl rfl rfl d_Cmd_reset_7 (fun H locs hI => ?_)
  refine lv_aload_n hx hb d_Cmd_reset_10 rfl (lv_at hl 0 rfl) ?_
  refine lv_iconst (v := (-1)) hx hb d_Cmd_reset_11 (by decide) ?_
  obtain ⟨h3, eh3, hf⟩ := z_bs hf
  refine z_putF X hI (k := 8) (ci := 1) (ty0 := t_Cmd) eh3 i_Cmd t_Cmd_ok n_Cmd rfl (by decide) wf_Cmd_36 rfl rfl rfl d_Cmd_reset_12 (fun H locs hI => ?_)
  refine lv_aload_n hx hb d_Cmd_reset_15 rfl (lv_at hl 0 rfl) ?_
  refine lv_iconst (v := 0) hx hb d_Cmd_reset_16 (by decide) ?_
  obtain ⟨h4, eh4, hf⟩ := z_bs hf
  refine z_putF X hI (k := 12) (ci := 1) (ty0 := t_Cmd) eh4 i_Cmd t_Cmd_ok n_Cmd rfl (by decide) wf_Cmd_39 rfl rfl rfl d_Cmd_reset_17 (fun H locs hI => ?_)
  refine lv_aload_n hx hb d_Cmd_reset_20 rfl (lv_at hl 0 rfl) ?_
  refine lv_iconst (v := 0) hx hb d_Cmd_reset_21 (by decide) ?_
  obtain ⟨h5, eh5, hf⟩ := z_bs hf
  refine z_putF X hI (k := 13) (ci := 1) (ty0 := t_Cmd) eh5 i_Cmd t_Cmd_ok n_Cmd rfl (by decide) wf_Cmd_42 rfl rfl rfl d_Cmd_reset_22 (fun H locs hI => ?_)
  refine lv_aload_n hx hb d_Cmd_reset_25 rfl (lv_at hl 0 rfl) ?_
  refine lv_iconst (v := 0) hx hb d_Cmd_reset_26 (by decide) ?_
  obtain ⟨h6, eh6, hf⟩ := z_bs hf
  refine z_putF X hI (k := 14) (ci := 1) (ty0 := t_Cmd) eh6 i_Cmd t_Cmd_ok n_Cmd rfl (by decide) wf_Cmd_45 rfl rfl rfl d_Cmd_reset_27 (fun H locs hI => ?_)
  cases hf
  exact z_vret X hI d_Cmd_reset_30
def f_Cmd_replaces (N : Nat) (v0 : Nat) (v1 : Int32) (h : z_H) : Option (Int32 × z_H) :=
  z_b (gI h v0 1 14) fun x1 =>
  z_b (some (if x1 < 1 then 1 else x1)) fun x2 =>
  z_b (gI h v0 1 12) fun x3 =>
  if x3 = 0 then
  (if v1 = x2 then
  (some (1, h))
  else
  (some (0, h)))
  else
  (if v1 < x2 then
  (some (0, h))
  else
  (some (1, h)))
set_option maxRecDepth 20000 in
set_option maxHeartbeats 2000000 in
theorem s_Cmd_replaces {l : Launch} {D : va_G} {dA : Nat → ClassId} {B N : Nat} {v0 : Nat} {v1 : Int32} {h h' : z_H} {r : Int32} (hf : f_Cmd_replaces N v0 v1 h = some (r, h')) : z_Met l y_Cmd_replaces prog_3_method_3_code 3 (some .boolean) 1 24 D dA B [.ref v0, .int v1] h (some (.int r)) h' := by
  refine z_of (by decide) (Nat.le_of_ble_eq_true rfl) (fun p e s m below meth c ls X hI hl => ?_)
  have hx := z_hx X
  have hb := z_hb X
  have hl : lv_has ls 3 [(0, .ref v0), (1, .int v1)] := hl
  unfold f_Cmd_replaces at hf
  obtain ⟨locs, hlo⟩ : ∃ z : List Loc, z = [] := ⟨_, rfl⟩
  rw [← hlo] at hI ⊢
  refine lv_aload_n hx hb d_Cmd_replaces_0 rfl (lv_at hl 0 rfl) ?_
  obtain ⟨x1, ex1, hf⟩ := z_bs hf
  refine z_getF X hI (k := 14) (ci := 1) (gI_s ex1) i_Cmd rfl (by decide) wf_Cmd_45 d_Cmd_replaces_1 ?_
  refine lv_iconst (v := 1) hx hb d_Cmd_replaces_4 (by decide) ?_
  obtain ⟨x2, ex2, hf⟩ := z_bs hf
  refine va_mmax hx hb (X.1.2.2.1.trans hl.1.symm) X.1.2.2.2.1 (z_w X wmax_Cmd_48) (z_w X wmax_s) (z_w X wmax_i) (z_w X wmax_c) (by decide) (by decide) (by decide) (by decide) d_Cmd_replaces_5 ?_
  refine z_topi (Option.some.inj ex2) ?_
  refine lv_istore_n (lv' := [(2, .int x2), (0, .ref v0), (1, .int v1)]) hx hb d_Cmd_replaces_8 rfl hl (by decide) rfl (fun ls hl => ?_)
  refine lv_aload_n hx hb d_Cmd_replaces_9 rfl (lv_at hl 1 rfl) ?_
  obtain ⟨x3, ex3, hf⟩ := z_bs hf
  refine z_getF X hI (k := 12) (ci := 1) (gI_s ex3) i_Cmd rfl (by decide) wf_Cmd_39 d_Cmd_replaces_10 ?_
  refine lv_if_eq (tgt := 29) hx hb d_Cmd_replaces_13 (by decide) (fun c4 => ?_) (fun c4 => ?_)
  · rw [if_pos c4] at hf
    refine lv_iload_n hx hb d_Cmd_replaces_29 rfl (lv_at hl 2 rfl) ?_
    refine lv_iload_n hx hb d_Cmd_replaces_30 rfl (lv_at hl 0 rfl) ?_
    refine lv_icmp_ne (tgt := 38) hx hb d_Cmd_replaces_31 (by decide) (fun c5 => ?_) (fun c5 => ?_)
    · rw [if_neg c5] at hf
      refine lv_iconst (v := 0) hx hb d_Cmd_replaces_38 (by decide) ?_
      cases hf
      exact z_zret X hI (Or.inl rfl) d_Cmd_replaces_39
    · rw [if_pos c5] at hf
      refine lv_iconst (v := 1) hx hb d_Cmd_replaces_34 (by decide) ?_
      refine lv_goto (tgt := 39) hx hb d_Cmd_replaces_35 (by decide) ?_
      cases hf
      exact z_zret X hI (Or.inr rfl) d_Cmd_replaces_39
  · rw [if_neg c4] at hf
    refine lv_iload_n hx hb d_Cmd_replaces_16 rfl (lv_at hl 2 rfl) ?_
    refine lv_iload_n hx hb d_Cmd_replaces_17 rfl (lv_at hl 0 rfl) ?_
    refine lv_icmp_lt (tgt := 25) hx hb d_Cmd_replaces_18 (by decide) (fun c6 => ?_) (fun c6 => ?_)
    · rw [if_pos c6] at hf
      refine lv_iconst (v := 0) hx hb d_Cmd_replaces_25 (by decide) ?_
      refine lv_goto (tgt := 39) hx hb d_Cmd_replaces_26 (by decide) ?_
      cases hf
      exact z_zret X hI (Or.inl rfl) d_Cmd_replaces_39
    · rw [if_neg c6] at hf
      refine lv_iconst (v := 1) hx hb d_Cmd_replaces_21 (by decide) ?_
      refine lv_goto (tgt := 39) hx hb d_Cmd_replaces_22 (by decide) ?_
      cases hf
      exact z_zret X hI (Or.inr rfl) d_Cmd_replaces_39
end
