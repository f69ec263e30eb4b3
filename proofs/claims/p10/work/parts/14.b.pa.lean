section
variable {p : Program} {l : Launch} {e : Env} {s : State} {m : MethodId} {args : Array Value} {below : List Frame} {meth : Method} {c : Code} {Ts : List Cond} {own : String} {D : va_G} {dA : Nat → ClassId} {B : Nat}
def f_Pa_refusedAt (N : Nat) (v0 : Nat) (h : z_H) : Option (Int32 × z_H) :=
  z_b (gR h v0 6 0) fun x1 =>
  z_b (gI h x1 2 2) fun x2 =>
  some (x2, h)
set_option maxRecDepth 20000 in
set_option maxHeartbeats 2000000 in
theorem s_Pa_refusedAt {l : Launch} {D : va_G} {dA : Nat → ClassId} {B N : Nat} {v0 : Nat} {h h' : z_H} {r : Int32} (hf : f_Pa_refusedAt N v0 h = some (r, h')) : z_Met l y_Pa_refusedAt prog_8_method_2_code 1 (some .int) 0 0 D dA B [.ref v0] h (some (.int r)) h' := by
  refine z_of (by decide) (Nat.le_of_ble_eq_true rfl) (fun p e s m below meth c ls X hI hl => ?_)
  have hx := z_hx X
  have hb := z_hb X
  have hl : lv_has ls 1 [(0, .ref v0)] := hl
  unfold f_Pa_refusedAt at hf
  obtain ⟨locs, hlo⟩ : ∃ z : List Loc, z = [] := ⟨_, rfl⟩
  rw [← hlo] at hI ⊢
  refine lv_aload_n hx hb d_Pa_refusedAt_0 rfl (lv_at hl 0 rfl) ?_
  obtain ⟨x1, ex1, hf⟩ := z_bs hf
  refine z_getF X hI (k := 0) (ci := 6) (gR_s ex1) i_Pa rfl (by decide) wf_Pa_12 d_Pa_refusedAt_1 ?_
  obtain ⟨x2, ex2, hf⟩ := z_bs hf
  refine z_getF X hI (k := 2) (ci := 2) (gI_s ex2) i_Cur rfl (by decide) wf_Pa_34 d_Pa_refusedAt_4 ?_
  cases hf
  exact z_iret X hI d_Pa_refusedAt_7
def f_Pa_begin_79 (N : Nat)  : Nat → Nat → Int32 → z_H → Option z_H
  | 0, _, _, _ => none
  | n + 1, v0, v3, h =>
    if 26 ≤ v3 then
    (some h)
    else
    (z_b (gR h v0 6 3) fun x2 =>
    z_b (uI h x2 0 v3 (-1)) fun h3 =>
    z_b (some (v3 + 1)) fun x4 =>
    (f_Pa_begin_79 N  n) v0 x4 h3)
set_option maxRecDepth 20000 in
set_option maxHeartbeats 2000000 in
theorem s_Pa_begin_79 (X : z_X p s m args meth c prog_8_method_4_code 4 none Ts "StreamForge$Parser" D dA B) {N : Nat} {h' : z_H}   : ∀ n : Nat, ∀ (v0 : Nat) (v3 : Int32) (h : z_H) (H : Heap) (locs : List Loc) (ls : Array Slot), z_I D dA B h s.heap H locs → lv_has ls 4 [(0, .ref v0), (3, .int v3)] → f_Pa_begin_79 N  n v0 v3 h = some h' → W p l e (z_rm 1 24) s m args below meth c H locs 0 0 (MQ below (z_Q D dA B none h') args s 0 0 (fun q => B ≤ q)) (F0 m 79 ls []) := by
  have hx := z_hx X
  have hb := z_hb X
  intro n
  induction n with
  | zero => intro v0 v3 h H locs ls hI hl hf; rw [f_Pa_begin_79] at hf; cases hf
  | succ n ih =>
    intro v0 v3 h H locs ls hI hl hf
    rw [f_Pa_begin_79] at hf
    refine lv_iload_n hx hb d_Pa_begin_79 rfl (lv_at hl 1 rfl) ?_
    refine lv_bipush (v := 26) hx hb d_Pa_begin_80 (by decide) ?_
    refine lv_icmp_ge (tgt := 98) hx hb d_Pa_begin_82 (by decide) (fun c1 => ?_) (fun c1 => ?_)
    · rw [if_pos c1] at hf
      cases hf
      exact z_vret X hI d_Pa_begin_98
    · rw [if_neg c1] at hf
      refine lv_aload_n hx hb d_Pa_begin_85 rfl (lv_at hl 0 rfl) ?_
      obtain ⟨x2, ex2, hf⟩ := z_bs hf
      refine z_getF X hI (k := 3) (ci := 6) (gR_s ex2) i_Pa rfl (by decide) wf_Pa_31 d_Pa_begin_86 ?_
      refine lv_iload_n hx hb d_Pa_begin_89 rfl (lv_at hl 1 rfl) ?_
      refine lv_iconst (v := (-1)) hx hb d_Pa_begin_90 (by decide) ?_
      obtain ⟨h3, eh3, hf⟩ := z_bs hf
      refine z_iast X hI eh3 d_Pa_begin_91 (fun H locs hI => ?_)
      obtain ⟨x4, ex4, hf⟩ := z_bs hf
      refine lv_iinc (v := x4) (lv' := [(3, .int x4), (0, .ref v0)]) hx hb d_Pa_begin_92 hl (k := 1) rfl (by rw [← Option.some.inj ex4]; rfl) (by decide) rfl (fun ls hl => ?_)
      refine lv_goto (tgt := 79) hx hb d_Pa_begin_95 (by decide) ?_
      exact ih v0 x4 h3 _ _ _ hI (lv_sub hl [1, 0] rfl) hf
def f_Pa_begin (N : Nat) (v0 : Nat) (v1 : Nat) (v2 : Nat) (h : z_H) : Option z_H :=
  z_b (sF h v0 6 5 (.ref v2)) fun h1 =>
  z_b (gR h1 v0 6 5) fun x2 =>
  z_b (gR h1 x2 9 0) fun x3 =>
  z_b (gO h1 x3 10) fun u4 =>
  z_b (f_Row_empty N x3 h1) fun r5 =>
  z_b (gR r5 v0 6 5) fun x6 =>
  z_b (gR r5 x6 9 0) fun x7 =>
  z_b (gI r5 v1 10 1) fun x8 =>
  z_b (gO r5 x7 10) fun u9 =>
  z_b (f_Row_addPart N x7 v1 0 x8 r5) fun r10 =>
  z_b (gR r10 v0 6 5) fun x11 =>
  z_b (gR r10 x11 9 1) fun x12 =>
  z_b (sF r10 x12 4 4 (.int 0)) fun h13 =>
  z_b (gR h13 v0 6 5) fun x14 =>
  z_b (sF h13 x14 9 3 (.int 0)) fun h15 =>
  z_b (gR h15 v0 6 0) fun x16 =>
  z_b (gR h15 v0 6 5) fun x17 =>
  z_b (gR h15 x17 9 0) fun x18 =>
  z_b (sF h15 x16 2 0 (.ref x18)) fun h19 =>
  z_b (gR h19 v0 6 0) fun x20 =>
  z_b (sF h19 x20 2 1 (.int 0)) fun h21 =>
  z_b (sF h21 v0 6 4 (.int 0)) fun h22 =>
  f_Pa_begin_79 N N v0 0 h22
set_option maxRecDepth 20000 in
set_option maxHeartbeats 2000000 in
theorem s_Pa_begin {l : Launch} {D : va_G} {dA : Nat → ClassId} {B N : Nat} {v0 : Nat} {v1 : Nat} {v2 : Nat} {h h' : z_H} (hf : f_Pa_begin N v0 v1 v2 h = some h') : z_Met l y_Pa_begin prog_8_method_4_code 4 none 1 24 D dA B [.ref v0, .ref v1, .ref v2] h none h' := by
  refine z_of (by decide) (Nat.le_of_ble_eq_true rfl) (fun p e s m below meth c ls X hI hl => ?_)
  have hx := z_hx X
  have hb := z_hb X
  have hl : lv_has ls 4 [(0, .ref v0), (1, .ref v1), (2, .ref v2)] := hl
  unfold f_Pa_begin at hf
  obtain ⟨locs, hlo⟩ : ∃ z : List Loc, z = [] := ⟨_, rfl⟩
  rw [← hlo] at hI ⊢
  refine lv_aload_n hx hb d_Pa_begin_0 rfl (lv_at hl 0 rfl) ?_
  refine lv_aload_n hx hb d_Pa_begin_1 rfl (lv_at hl 2 rfl) ?_
  obtain ⟨h1, eh1, hf⟩ := z_bs hf
  refine z_putF X hI (k := 5) (ci := 6) (ty0 := t_Pa) eh1 i_Pa t_Pa_ok n_Pa rfl (by decide) wf_Pa_72 rfl rfl rfl d_Pa_begin_2 (fun H locs hI => ?_)
  refine lv_aload_n hx hb d_Pa_begin_5 rfl (lv_at hl 0 rfl) ?_
  obtain ⟨x2, ex2, hf⟩ := z_bs hf
  refine z_getF X hI (k := 5) (ci := 6) (gR_s ex2) i_Pa rfl (by decide) wf_Pa_72 d_Pa_begin_6 ?_
  obtain ⟨x3, ex3, hf⟩ := z_bs hf
  refine z_getF X hI (k := 0) (ci := 9) (gR_s ex3) i_Prog rfl (by decide) wf_Pa_76 d_Pa_begin_9 ?_
  obtain ⟨u4, eu4, hf⟩ := z_bs hf
  obtain ⟨r5, er5, hf⟩ := z_bs hf
  refine z_callV (As := []) (rest := []) (r := none) (h' := r5) X hI eu4 (s_Row_empty er5) rfl rfl wm_Pa_82 yi_Row_empty rfl hl.1 rfl (Nat.le_of_ble_eq_true rfl) (by decide) (by decide) d_Pa_begin_12 (fun H locs hI => ?_)
  refine W.eq (g2 := F0 m 15 ls []) rfl ?_
  refine lv_aload_n hx hb d_Pa_begin_15 rfl (lv_at hl 0 rfl) ?_
  obtain ⟨x6, ex6, hf⟩ := z_bs hf
  refine z_getF X hI (k := 5) (ci := 6) (gR_s ex6) i_Pa rfl (by decide) wf_Pa_72 d_Pa_begin_16 ?_
  obtain ⟨x7, ex7, hf⟩ := z_bs hf
  refine z_getF X hI (k := 0) (ci := 9) (gR_s ex7) i_Prog rfl (by decide) wf_Pa_76 d_Pa_begin_19 ?_
  refine lv_aload_n hx hb d_Pa_begin_22 rfl (lv_at hl 1 rfl) ?_
  refine lv_iconst (v := 0) hx hb d_Pa_begin_23 (by decide) ?_
  refine lv_aload_n hx hb d_Pa_begin_24 rfl (lv_at hl 1 rfl) ?_
  obtain ⟨x8, ex8, hf⟩ := z_bs hf
  refine z_getF X hI (k := 1) (ci := 10) (gI_s ex8) i_Row rfl (by decide) wf_Pa_87 d_Pa_begin_25 ?_
  obtain ⟨u9, eu9, hf⟩ := z_bs hf
  obtain ⟨r10, er10, hf⟩ := z_bs hf
  refine z_callV (As := [.ref v1, .int 0, .int x8]) (rest := []) (r := none) (h' := r10) X hI eu9 (s_Row_addPart er10) rfl rfl wm_Pa_90 yi_Row_addPart rfl hl.1 rfl (Nat.le_of_ble_eq_true rfl) (by decide) (by decide) d_Pa_begin_28 (fun H locs hI => ?_)
  refine W.eq (g2 := F0 m 31 ls []) rfl ?_
  refine lv_aload_n hx hb d_Pa_begin_31 rfl (lv_at hl 0 rfl) ?_
  obtain ⟨x11, ex11, hf⟩ := z_bs hf
  refine z_getF X hI (k := 5) (ci := 6) (gR_s ex11) i_Pa rfl (by decide) wf_Pa_72 d_Pa_begin_32 ?_
  obtain ⟨x12, ex12, hf⟩ := z_bs hf
  refine z_getF X hI (k := 1) (ci := 9) (gR_s ex12) i_Prog rfl (by decide) wf_Pa_94 d_Pa_begin_35 ?_
  refine lv_iconst (v := 0) hx hb d_Pa_begin_38 (by decide) ?_
  obtain ⟨h13, eh13, hf⟩ := z_bs hf
  refine z_putF X hI (k := 4) (ci := 4) (ty0 := t_It) eh13 i_It t_It_ok n_It rfl (by decide) wf_Pa_98 rfl rfl rfl d_Pa_begin_39 (fun H locs hI => ?_)
  refine lv_aload_n hx hb d_Pa_begin_42 rfl (lv_at hl 0 rfl) ?_
  obtain ⟨x14, ex14, hf⟩ := z_bs hf
  refine z_getF X hI (k := 5) (ci := 6) (gR_s ex14) i_Pa rfl (by decide) wf_Pa_72 d_Pa_begin_43 ?_
  refine lv_iconst (v := 0) hx hb d_Pa_begin_46 (by decide) ?_
  obtain ⟨h15, eh15, hf⟩ := z_bs hf
  refine z_putF X hI (k := 3) (ci := 9) (ty0 := t_Prog) eh15 i_Prog t_Prog_ok n_Prog rfl (by decide) wf_Pa_103 rfl rfl rfl d_Pa_begin_47 (fun H locs hI => ?_)
  refine lv_aload_n hx hb d_Pa_begin_50 rfl (lv_at hl 0 rfl) ?_
  obtain ⟨x16, ex16, hf⟩ := z_bs hf
  refine z_getF X hI (k := 0) (ci := 6) (gR_s ex16) i_Pa rfl (by decide) wf_Pa_12 d_Pa_begin_51 ?_
  refine lv_aload_n hx hb d_Pa_begin_54 rfl (lv_at hl 0 rfl) ?_
  obtain ⟨x17, ex17, hf⟩ := z_bs hf
  refine z_getF X hI (k := 5) (ci := 6) (gR_s ex17) i_Pa rfl (by decide) wf_Pa_72 d_Pa_begin_55 ?_
  obtain ⟨x18, ex18, hf⟩ := z_bs hf
  refine z_getF X hI (k := 0) (ci := 9) (gR_s ex18) i_Prog rfl (by decide) wf_Pa_76 d_Pa_begin_58 ?_
  obtain ⟨h19, eh19, hf⟩ := z_bs hf
  refine z_putF X hI (k := 0) (ci := 2) (ty0 := t_Cur) eh19 i_Cur t_Cur_ok n_Cur rfl (by decide) wf_Pa_104 rfl rfl rfl d_Pa_begin_61 (fun H locs hI => ?_)
  refine lv_aload_n hx hb d_Pa_begin_64 rfl (lv_at hl 0 rfl) ?_
  obtain ⟨x20, ex20, hf⟩ := z_bs hf
  refine z_getF X hI (k := 0) (ci := 6) (gR_s ex20) i_Pa rfl (by decide) wf_Pa_12 d_Pa_begin_65 ?_
  refine lv_iconst (v := 0) hx hb d_Pa_begin_68 (by decide) ?_
  obtain ⟨h21, eh21, hf⟩ := z_bs hf
  refine z_putF X hI (k := 1) (ci := 2) (ty0 := t_Cur) eh21 i_Cur t_Cur_ok n_Cur rfl (by decide) wf_Pa_46 rfl rfl rfl d_Pa_begin_69 (fun H locs hI => ?_)
  refine lv_aload_n hx hb d_Pa_begin_72 rfl (lv_at hl 0 rfl) ?_
  refine lv_iconst (v := 0) hx hb d_Pa_begin_73 (by decide) ?_
  obtain ⟨h22, eh22, hf⟩ := z_bs hf
  refine z_putF X hI (k := 4) (ci := 6) (ty0 := t_Pa) eh22 i_Pa t_Pa_ok n_Pa rfl (by decide) wf_Pa_62 rfl rfl rfl d_Pa_begin_74 (fun H locs hI => ?_)
  refine lv_iconst (v := 0) hx hb d_Pa_begin_77 (by decide) ?_
  refine lv_istore_n (lv' := [(3, .int 0), (0, .ref v0), (1, .ref v1), (2, .ref v2)]) hx hb d_Pa_begin_78 rfl hl (by decide) rfl (fun ls hl => ?_)
  exact s_Pa_begin_79 X  N v0 0 h22 _ _ _ hI (lv_sub hl [1, 0] rfl) hf
def f_Pa_closeBlock (N : Nat) (v0 : Nat) (h : z_H) : Option (Int32 × z_H) :=
  z_b (gI h v0 6 4) fun x1 =>
  if x1 = 0 then
  (z_b (gR h v0 6 0) fun x17 =>
  z_b (gO h x17 2) fun u18 =>
  z_b (f_Cur_refuse N x17 0 h) fun r19 =>
  z_b (zB (r19.1)) fun x20 =>
  some (x20, r19.2))
  else
  (z_b (gI h v0 6 4) fun x3 =>
  z_b (sF h v0 6 4 (.int (x3 - 1))) fun h4 =>
  z_b (gR h4 v0 6 5) fun x5 =>
  z_b (gR h4 x5 9 2) fun x6 =>
  z_b (gR h4 v0 6 2) fun x7 =>
  z_b (gI h4 v0 6 4) fun x8 =>
  z_b (aI h4 x7 0 x8) fun x9 =>
  z_b (aR h4 x6 5 x9) fun x10 =>
  z_b (gR h4 v0 6 5) fun x11 =>
  z_b (gI h4 x11 9 3) fun x12 =>
  z_b (sF h4 x10 1 7 (.int x12)) fun h13 =>
  z_b (gR h13 v0 6 0) fun x14 =>
  z_b (gI h13 x14 2 1) fun x15 =>
  z_b (sF h13 x14 2 1 (.int (x15 + 1))) fun h16 =>
  some (1, h16))
set_option maxRecDepth 20000 in
set_option maxHeartbeats 2000000 in
theorem s_Pa_closeBlock {l : Launch} {D : va_G} {dA : Nat → ClassId} {B N : Nat} {v0 : Nat} {h h' : z_H} {r : Int32} (hf : f_Pa_closeBlock N v0 h = some (r, h')) : z_Met l y_Pa_closeBlock prog_8_method_5_code 1 (some .boolean) 1 21 D dA B [.ref v0] h (some (.int r)) h' := by
  refine z_of (by decide) (Nat.le_of_ble_eq_true rfl) (fun p e s m below meth c ls X hI hl => ?_)
  have hx := z_hx X
  have hb := z_hb X
  have hl : lv_has ls 1 [(0, .ref v0)] := hl
  unfold f_Pa_closeBlock at hf
  obtain ⟨locs, hlo⟩ : ∃ z : List Loc, z = [] := ⟨_, rfl⟩
  rw [← hlo] at hI ⊢
  refine lv_aload_n hx hb d_Pa_closeBlock_0 rfl (lv_at hl 0 rfl) ?_
  obtain ⟨x1, ex1, hf⟩ := z_bs hf
  refine z_getF X hI (k := 4) (ci := 6) (gI_s ex1) i_Pa rfl (by decide) wf_Pa_62 d_Pa_closeBlock_1 ?_
  refine lv_if_ne (tgt := 16) hx hb d_Pa_closeBlock_4 (by decide) (fun c2 => ?_) (fun c2 => ?_)
  · rw [if_neg c2] at hf
    refine lv_aload_n hx hb d_Pa_closeBlock_16 rfl (lv_at hl 0 rfl) ?_
    refine lv_dup hx hb d_Pa_closeBlock_17 rfl ?_
    obtain ⟨x3, ex3, hf⟩ := z_bs hf
    refine z_getF X hI (k := 4) (ci := 6) (gI_s ex3) i_Pa rfl (by decide) wf_Pa_62 d_Pa_closeBlock_18 ?_
    refine lv_iconst (v := 1) hx hb d_Pa_closeBlock_21 (by decide) ?_
    refine lv_isub hx hb d_Pa_closeBlock_22 ?_
    obtain ⟨h4, eh4, hf⟩ := z_bs hf
    refine z_putF X hI (k := 4) (ci := 6) (ty0 := t_Pa) eh4 i_Pa t_Pa_ok n_Pa rfl (by decide) wf_Pa_62 rfl rfl rfl d_Pa_closeBlock_23 (fun H locs hI => ?_)
    refine lv_aload_n hx hb d_Pa_closeBlock_26 rfl (lv_at hl 0 rfl) ?_
    obtain ⟨x5, ex5, hf⟩ := z_bs hf
    refine z_getF X hI (k := 5) (ci := 6) (gR_s ex5) i_Pa rfl (by decide) wf_Pa_72 d_Pa_closeBlock_27 ?_
    obtain ⟨x6, ex6, hf⟩ := z_bs hf
    refine z_getF X hI (k := 2) (ci := 9) (gR_s ex6) i_Prog rfl (by decide) wf_Pa_105 d_Pa_closeBlock_30 ?_
    refine lv_aload_n hx hb d_Pa_closeBlock_33 rfl (lv_at hl 0 rfl) ?_
    obtain ⟨x7, ex7, hf⟩ := z_bs hf
    refine z_getF X hI (k := 2) (ci := 6) (gR_s ex7) i_Pa rfl (by decide) wf_Pa_27 d_Pa_closeBlock_34 ?_
    refine lv_aload_n hx hb d_Pa_closeBlock_37 rfl (lv_at hl 0 rfl) ?_
    obtain ⟨x8, ex8, hf⟩ := z_bs hf
    refine z_getF X hI (k := 4) (ci := 6) (gI_s ex8) i_Pa rfl (by decide) wf_Pa_62 d_Pa_closeBlock_38 ?_
    obtain ⟨x9, ex9, hf⟩ := z_bs hf
    refine z_iald X hI ex9 d_Pa_closeBlock_41 ?_
    obtain ⟨x10, ex10, hf⟩ := z_bs hf
    refine z_aald5 X hI ex10 d_Pa_closeBlock_42 ?_
    refine lv_aload_n hx hb d_Pa_closeBlock_43 rfl (lv_at hl 0 rfl) ?_
    obtain ⟨x11, ex11, hf⟩ := z_bs hf
    refine z_getF X hI (k := 5) (ci := 6) (gR_s ex11) i_Pa rfl (by decide) wf_Pa_72 d_Pa_closeBlock_44 ?_
    obtain ⟨x12, ex12, hf⟩ := z_bs hf
    refine z_getF X hI (k := 3) (ci := 9) (gI_s ex12) i_Prog rfl (by decide) wf_Pa_103 d_Pa_closeBlock_47 ?_
    obtain ⟨h13, eh13, hf⟩ := z_bs hf
    refine z_putF X hI (k := 7) (ci := 1) (ty0 := t_Cmd) eh13 i_Cmd t_Cmd_ok n_Cmd rfl (by decide) wf_Pa_109 rfl rfl rfl d_Pa_closeBlock_50 (fun H locs hI => ?_)
    refine lv_aload_n hx hb d_Pa_closeBlock_53 rfl (lv_at hl 0 rfl) ?_
    obtain ⟨x14, ex14, hf⟩ := z_bs hf
    refine z_getF X hI (k := 0) (ci := 6) (gR_s ex14) i_Pa rfl (by decide) wf_Pa_12 d_Pa_closeBlock_54 ?_
    refine lv_dup hx hb d_Pa_closeBlock_57 rfl ?_
    obtain ⟨x15, ex15, hf⟩ := z_bs hf
    refine z_getF X hI (k := 1) (ci := 2) (gI_s ex15) i_Cur rfl (by decide) wf_Pa_46 d_Pa_closeBlock_58 ?_
    refine lv_iconst (v := 1) hx hb d_Pa_closeBlock_61 (by decide) ?_
    refine lv_iadd hx hb d_Pa_closeBlock_62 ?_
    obtain ⟨h16, eh16, hf⟩ := z_bs hf
    refine z_putF X hI (k := 1) (ci := 2) (ty0 := t_Cur) eh16 i_Cur t_Cur_ok n_Cur rfl (by decide) wf_Pa_46 rfl rfl rfl d_Pa_closeBlock_63 (fun H locs hI => ?_)
    refine lv_iconst (v := 1) hx hb d_Pa_closeBlock_66 (by decide) ?_
    cases hf
    exact z_zret X hI (Or.inr rfl) d_Pa_closeBlock_67
  · rw [if_pos c2] at hf
    refine lv_aload_n hx hb d_Pa_closeBlock_7 rfl (lv_at hl 0 rfl) ?_
    obtain ⟨x17, ex17, hf⟩ := z_bs hf
    refine z_getF X hI (k := 0) (ci := 6) (gR_s ex17) i_Pa rfl (by decide) wf_Pa_12 d_Pa_closeBlock_8 ?_
    refine lv_iconst (v := 0) hx hb d_Pa_closeBlock_11 (by decide) ?_
    obtain ⟨u18, eu18, hf⟩ := z_bs hf
    obtain ⟨r19, er19, hf⟩ := z_bs hf
    refine z_callV (As := [.int 0]) (rest := []) (r := (some (.int r19.1))) (h' := r19.2) X hI eu18 (s_Cur_refuse er19) rfl rfl wm_Pa_68 yi_Cur_refuse rfl hl.1 rfl (Nat.le_of_ble_eq_true rfl) (by decide) (by decide) d_Pa_closeBlock_12 (fun H locs hI => ?_)
    refine W.eq (g2 := F0 m 15 ls [.int (r19.1)]) rfl ?_
    obtain ⟨x20, ex20, hf⟩ := z_bs hf
    refine z_topi (zB_s ex20).1 ?_
    cases hf
    exact z_zret X hI (zB_s2 ex20) d_Pa_closeBlock_15
def f_Pa_beginCommand (N : Nat) (v0 : Nat) (h : z_H) : Option (Int32 × z_H) :=
  z_b (gR h v0 6 5) fun x1 =>
  z_b (gI h x1 9 3) fun x2 =>
  if x2 = 40 then
  (z_b (gR h v0 6 0) fun x16 =>
  z_b (gO h x16 2) fun u17 =>
  z_b (f_Cur_refuse N x16 0 h) fun r18 =>
  z_b (zB (r18.1)) fun x19 =>
  some (x19, r18.2))
  else
  (z_b (gR h v0 6 5) fun x4 =>
  z_b (gR h x4 9 2) fun x5 =>
  z_b (gR h v0 6 5) fun x6 =>
  z_b (gI h x6 9 3) fun x7 =>
  z_b (aR h x5 5 x7) fun x8 =>
  z_b (sF h v0 6 6 (.ref x8)) fun h9 =>
  z_b (gR h9 v0 6 6) fun x10 =>
  z_b (gO h9 x10 1) fun u11 =>
  z_b (f_Cmd_reset N x10 h9) fun r12 =>
  z_b (gR r12 v0 6 5) fun x13 =>
  z_b (gI r12 x13 9 3) fun x14 =>
  z_b (sF r12 x13 9 3 (.int (x14 + 1))) fun h15 =>
  some (1, h15))
set_option maxRecDepth 20000 in
set_option maxHeartbeats 2000000 in
theorem s_Pa_beginCommand {l : Launch} {D : va_G} {dA : Nat → ClassId} {B N : Nat} {v0 : Nat} {h h' : z_H} {r : Int32} (hf : f_Pa_beginCommand N v0 h = some (r, h')) : z_Met l y_Pa_beginCommand prog_8_method_6_code 1 (some .boolean) 1 21 D dA B [.ref v0] h (some (.int r)) h' := by
  refine z_of (by decide) (Nat.le_of_ble_eq_true rfl) (fun p e s m below meth c ls X hI hl => ?_)
  have hx := z_hx X
  have hb := z_hb X
  have hl : lv_has ls 1 [(0, .ref v0)] := hl
  unfold f_Pa_beginCommand at hf
  obtain ⟨locs, hlo⟩ : ∃ z : List Loc, z = [] := ⟨_, rfl⟩
  rw [← hlo] at hI ⊢
  refine lv_aload_n hx hb d_Pa_beginCommand_0 rfl (lv_at hl 0 rfl) ?_
  obtain ⟨x1, ex1, hf⟩ := z_bs hf
  refine z_getF X hI (k := 5) (ci := 6) (gR_s ex1) i_Pa rfl (by decide) wf_Pa_72 d_Pa_beginCommand_1 ?_
  obtain ⟨x2, ex2, hf⟩ := z_bs hf
  refine z_getF X hI (k := 3) (ci := 9) (gI_s ex2) i_Prog rfl (by decide) wf_Pa_103 d_Pa_beginCommand_4 ?_
  refine lv_bipush (v := 40) hx hb d_Pa_beginCommand_7 (by decide) ?_
  refine lv_icmp_ne (tgt := 21) hx hb d_Pa_beginCommand_9 (by decide) (fun c3 => ?_) (fun c3 => ?_)
  · rw [if_neg c3] at hf
    refine lv_aload_n hx hb d_Pa_beginCommand_21 rfl (lv_at hl 0 rfl) ?_
    refine lv_aload_n hx hb d_Pa_beginCommand_22 rfl (lv_at hl 0 rfl) ?_
    obtain ⟨x4, ex4, hf⟩ := z_bs hf
    refine z_getF X hI (k := 5) (ci := 6) (gR_s ex4) i_Pa rfl (by decide) wf_Pa_72 d_Pa_beginCommand_23 ?_
    obtain ⟨x5, ex5, hf⟩ := z_bs hf
    refine z_getF X hI (k := 2) (ci := 9) (gR_s ex5) i_Prog rfl (by decide) wf_Pa_105 d_Pa_beginCommand_26 ?_
    refine lv_aload_n hx hb d_Pa_beginCommand_29 rfl (lv_at hl 0 rfl) ?_
    obtain ⟨x6, ex6, hf⟩ := z_bs hf
    refine z_getF X hI (k := 5) (ci := 6) (gR_s ex6) i_Pa rfl (by decide) wf_Pa_72 d_Pa_beginCommand_30 ?_
    obtain ⟨x7, ex7, hf⟩ := z_bs hf
    refine z_getF X hI (k := 3) (ci := 9) (gI_s ex7) i_Prog rfl (by decide) wf_Pa_103 d_Pa_beginCommand_33 ?_
    obtain ⟨x8, ex8, hf⟩ := z_bs hf
    refine z_aald5 X hI ex8 d_Pa_beginCommand_36 ?_
    obtain ⟨h9, eh9, hf⟩ := z_bs hf
    refine z_putF X hI (k := 6) (ci := 6) (ty0 := t_Pa) eh9 i_Pa t_Pa_ok n_Pa rfl (by decide) wf_Pa_114 rfl rfl rfl d_Pa_beginCommand_37 (fun H locs hI => ?_)
    refine lv_aload_n hx hb d_Pa_beginCommand_40 rfl (lv_at hl 0 rfl) ?_
    obtain ⟨x10, ex10, hf⟩ := z_bs hf
    refine z_getF X hI (k := 6) (ci := 6) (gR_s ex10) i_Pa rfl (by decide) wf_Pa_114 d_Pa_beginCommand_41 ?_
    obtain ⟨u11, eu11, hf⟩ := z_bs hf
    obtain ⟨r12, er12, hf⟩ := z_bs hf
    refine z_callV (As := []) (rest := []) (r := none) (h' := r12) X hI eu11 (s_Cmd_reset er12) rfl rfl wm_Pa_118 yi_Cmd_reset rfl hl.1 rfl (Nat.le_of_ble_eq_true rfl) (by decide) (by decide) d_Pa_beginCommand_44 (fun H locs hI => ?_)
    refine W.eq (g2 := F0 m 47 ls []) rfl ?_
    refine lv_aload_n hx hb d_Pa_beginCommand_47 rfl (lv_at hl 0 rfl) ?_
    obtain ⟨x13, ex13, hf⟩ := z_bs hf
    refine z_getF X hI (k := 5) (ci := 6) (gR_s ex13) i_Pa rfl (by decide) wf_Pa_72 d_Pa_beginCommand_48 ?_
    refine lv_dup hx hb d_Pa_beginCommand_51 rfl ?_
    obtain ⟨x14, ex14, hf⟩ := z_bs hf
    refine z_getF X hI (k := 3) (ci := 9) (gI_s ex14) i_Prog rfl (by decide) wf_Pa_103 d_Pa_beginCommand_52 ?_
    refine lv_iconst (v := 1) hx hb d_Pa_beginCommand_55 (by decide) ?_
    refine lv_iadd hx hb d_Pa_beginCommand_56 ?_
    obtain ⟨h15, eh15, hf⟩ := z_bs hf
    refine z_putF X hI (k := 3) (ci := 9) (ty0 := t_Prog) eh15 i_Prog t_Prog_ok n_Prog rfl (by decide) wf_Pa_103 rfl rfl rfl d_Pa_beginCommand_57 (fun H locs hI => ?_)
    refine lv_iconst (v := 1) hx hb d_Pa_beginCommand_60 (by decide) ?_
    cases hf
    exact z_zret X hI (Or.inr rfl) d_Pa_beginCommand_61
  · rw [if_pos c3] at hf
    refine lv_aload_n hx hb d_Pa_beginCommand_12 rfl (lv_at hl 0 rfl) ?_
    obtain ⟨x16, ex16, hf⟩ := z_bs hf
    refine z_getF X hI (k := 0) (ci := 6) (gR_s ex16) i_Pa rfl (by decide) wf_Pa_12 d_Pa_beginCommand_13 ?_
    refine lv_iconst (v := 0) hx hb d_Pa_beginCommand_16 (by decide) ?_
    obtain ⟨u17, eu17, hf⟩ := z_bs hf
    obtain ⟨r18, er18, hf⟩ := z_bs hf
    refine z_callV (As := [.int 0]) (rest := []) (r := (some (.int r18.1))) (h' := r18.2) X hI eu17 (s_Cur_refuse er18) rfl rfl wm_Pa_68 yi_Cur_refuse rfl hl.1 rfl (Nat.le_of_ble_eq_true rfl) (by decide) (by decide) d_Pa_beginCommand_17 (fun H locs hI => ?_)
    refine W.eq (g2 := F0 m 20 ls [.int (r18.1)]) rfl ?_
    obtain ⟨x19, ex19, hf⟩ := z_bs hf
    refine z_topi (zB_s ex19).1 ?_
    cases hf
    exact z_zret X hI (zB_s2 ex19) d_Pa_beginCommand_20
def f_Pa_startsAddress (N : Nat) (v0 : Int32) (h : z_H) : Option (Int32 × z_H) :=
  if v0 = 36 then
  (some (1, h))
  else
  (if v0 = 47 then
  (some (1, h))
  else
  (if v0 < 49 then
  (some (0, h))
  else
  (if 57 < v0 then
  (some (0, h))
  else
  (some (1, h)))))
set_option maxRecDepth 20000 in
set_option maxHeartbeats 2000000 in
theorem s_Pa_startsAddress {l : Launch} {D : va_G} {dA : Nat → ClassId} {B N : Nat} {v0 : Int32} {h h' : z_H} {r : Int32} (hf : f_Pa_startsAddress N v0 h = some (r, h')) : z_Met l y_Pa_startsAddress prog_8_method_8_code 1 (some .boolean) 0 0 D dA B [.int v0] h (some (.int r)) h' := by
  refine z_of (by decide) (Nat.le_of_ble_eq_true rfl) (fun p e s m below meth c ls X hI hl => ?_)
  have hx := z_hx X
  have hb := z_hb X
  have hl : lv_has ls 1 [(0, .int v0)] := hl
  unfold f_Pa_startsAddress at hf
  obtain ⟨locs, hlo⟩ : ∃ z : List Loc, z = [] := ⟨_, rfl⟩
  rw [← hlo] at hI ⊢
  refine lv_iload_n hx hb d_Pa_startsAddress_0 rfl (lv_at hl 0 rfl) ?_
  refine lv_bipush (v := 36) hx hb d_Pa_startsAddress_1 (by decide) ?_
  refine lv_icmp_eq (tgt := 24) hx hb d_Pa_startsAddress_3 (by decide) (fun c1 => ?_) (fun c1 => ?_)
  · rw [if_pos c1] at hf
    refine lv_iconst (v := 1) hx hb d_Pa_startsAddress_24 (by decide) ?_
    refine lv_goto (tgt := 29) hx hb d_Pa_startsAddress_25 (by decide) ?_
    cases hf
    exact z_zret X hI (Or.inr rfl) d_Pa_startsAddress_29
  · rw [if_neg c1] at hf
    refine lv_iload_n hx hb d_Pa_startsAddress_6 rfl (lv_at hl 0 rfl) ?_
    refine lv_bipush (v := 47) hx hb d_Pa_startsAddress_7 (by decide) ?_
    refine lv_icmp_eq (tgt := 24) hx hb d_Pa_startsAddress_9 (by decide) (fun c2 => ?_) (fun c2 => ?_)
    · rw [if_pos c2] at hf
      refine lv_iconst (v := 1) hx hb d_Pa_startsAddress_24 (by decide) ?_
      refine lv_goto (tgt := 29) hx hb d_Pa_startsAddress_25 (by decide) ?_
      cases hf
      exact z_zret X hI (Or.inr rfl) d_Pa_startsAddress_29
    · rw [if_neg c2] at hf
      refine lv_iload_n hx hb d_Pa_startsAddress_12 rfl (lv_at hl 0 rfl) ?_
      refine lv_bipush (v := 49) hx hb d_Pa_startsAddress_13 (by decide) ?_
      refine lv_icmp_lt (tgt := 28) hx hb d_Pa_startsAddress_15 (by decide) (fun c3 => ?_) (fun c3 => ?_)
      · rw [if_pos c3] at hf
        refine lv_iconst (v := 0) hx hb d_Pa_startsAddress_28 (by decide) ?_
        cases hf
        exact z_zret X hI (Or.inl rfl) d_Pa_startsAddress_29
      · rw [if_neg c3] at hf
        refine lv_iload_n hx hb d_Pa_startsAddress_18 rfl (lv_at hl 0 rfl) ?_
        refine lv_bipush (v := 57) hx hb d_Pa_startsAddress_19 (by decide) ?_
        refine lv_icmp_gt (tgt := 28) hx hb d_Pa_startsAddress_21 (by decide) (fun c4 => ?_) (fun c4 => ?_)
        · rw [if_pos c4] at hf
          refine lv_iconst (v := 0) hx hb d_Pa_startsAddress_28 (by decide) ?_
          cases hf
          exact z_zret X hI (Or.inl rfl) d_Pa_startsAddress_29
        · rw [if_neg c4] at hf
          refine lv_iconst (v := 1) hx hb d_Pa_startsAddress_24 (by decide) ?_
          refine lv_goto (tgt := 29) hx hb d_Pa_startsAddress_25 (by decide) ?_
          cases hf
          exact z_zret X hI (Or.inr rfl) d_Pa_startsAddress_29
def f_Pa_readAddress (N : Nat) (v0 : Nat) (v1 : Nat) (h : z_H) : Option (Int32 × z_H) :=
  z_b (gR h v0 6 0) fun x1 =>
  z_b (gO h x1 2) fun u2 =>
  z_b (f_Cur_look N x1 0 h) fun r3 =>
  z_b (some (r3.1)) fun x4 =>
  z_b (f_Pa_startsAddress N x4 r3.2) fun r5 =>
  if (r5.1) = 0 then
  (z_b (gR r5.2 v0 6 0) fun x34 =>
  z_b (gO r5.2 x34 2) fun u35 =>
  z_b (f_Cur_refuse N x34 0 r5.2) fun r36 =>
  z_b (zB (r36.1)) fun x37 =>
  some (x37, r36.2))
  else
  (z_b (gR r5.2 v0 6 0) fun x7 =>
  z_b (gI r5.2 x7 2 1) fun x8 =>
  z_b (sF r5.2 x7 2 1 (.int (x8 + 1))) fun h9 =>
  if x4 = 47 then
  (z_b (sF h9 v1 0 1 (.int 2)) fun h26 =>
  z_b (gR h26 v0 6 1) fun x27 =>
  z_b (gR h26 v1 0 0) fun x28 =>
  z_b (gR h26 v0 6 5) fun x29 =>
  z_b (gR h26 x29 9 1) fun x30 =>
  z_b (gO h26 x27 8) fun u31 =>
  z_b (f_Pr_read N x27 x28 x30 h26) fun r32 =>
  z_b (zB (r32.1)) fun x33 =>
  some (x33, r32.2))
  else
  (if x4 = 36 then
  (z_b (sF h9 v1 0 1 (.int 1)) fun h25 =>
  some (1, h25))
  else
  (z_b (sF h9 v1 0 1 (.int 0)) fun h12 =>
  z_b (sF h12 v1 0 2 (.int (x4 - 48))) fun h13 =>
  z_b (gR h13 v0 6 0) fun x14 =>
  z_b (gO h13 x14 2) fun u15 =>
  z_b (f_Cur_look N x14 0 h13) fun r16 =>
  z_b (some (r16.1)) fun x17 =>
  if x17 < 48 then
  (some (1, r16.2))
  else
  (if 57 < x17 then
  (some (1, r16.2))
  else
  (z_b (gI r16.2 v1 0 2) fun x20 =>
  z_b (sF r16.2 v1 0 2 (.int (((10 * x20) + x17) - 48))) fun h21 =>
  z_b (gR h21 v0 6 0) fun x22 =>
  z_b (gI h21 x22 2 1) fun x23 =>
  z_b (sF h21 x22 2 1 (.int (x23 + 1))) fun h24 =>
  some (1, h24))))))
set_option maxRecDepth 20000 in
set_option maxHeartbeats 2000000 in
theorem s_Pa_readAddress {l : Launch} {D : va_G} {dA : Nat → ClassId} {B N : Nat} {v0 : Nat} {v1 : Nat} {h h' : z_H} {r : Int32} (hf : f_Pa_readAddress N v0 v1 h = some (r, h')) : z_Met l y_Pa_readAddress prog_8_method_10_code 4 (some .boolean) 4 95 D dA B [.ref v0, .ref v1] h (some (.int r)) h' := by
  refine z_of (by decide) (Nat.le_of_ble_eq_true rfl) (fun p e s m below meth c ls X hI hl => ?_)
  have hx := z_hx X
  have hb := z_hb X
  have hl : lv_has ls 4 [(0, .ref v0), (1, .ref v1)] := hl
  unfold f_Pa_readAddress at hf
  obtain ⟨locs, hlo⟩ : ∃ z : List Loc, z = [] := ⟨_, rfl⟩
  rw [← hlo] at hI ⊢
  refine lv_aload_n hx hb d_Pa_readAddress_0 rfl (lv_at hl 0 rfl) ?_
  obtain ⟨x1, ex1, hf⟩ := z_bs hf
  refine z_getF X hI (k := 0) (ci := 6) (gR_s ex1) i_Pa rfl (by decide) wf_Pa_12 d_Pa_readAddress_1 ?_
  refine lv_iconst (v := 0) hx hb d_Pa_readAddress_4 (by decide) ?_
  obtain ⟨u2, eu2, hf⟩ := z_bs hf
  obtain ⟨r3, er3, hf⟩ := z_bs hf
  refine z_callV (As := [.int 0]) (rest := []) (r := (some (.int r3.1))) (h' := r3.2) X hI eu2 (s_Cur_look er3) rfl rfl wm_Pa_42 yi_Cur_look rfl hl.1 rfl (Nat.le_of_ble_eq_true rfl) (by decide) (by decide) d_Pa_readAddress_5 (fun H locs hI => ?_)
  refine W.eq (g2 := F0 m 8 ls [.int (r3.1)]) rfl ?_
  obtain ⟨x4, ex4, hf⟩ := z_bs hf
  refine z_topi (Option.some.inj ex4) ?_
  refine lv_istore_n (lv' := [(2, .int x4), (0, .ref v0), (1, .ref v1)]) hx hb d_Pa_readAddress_8 rfl hl (by decide) rfl (fun ls hl => ?_)
  refine lv_iload_n hx hb d_Pa_readAddress_9 rfl (lv_at hl 0 rfl) ?_
  obtain ⟨r5, er5, hf⟩ := z_bs hf
  refine z_callS (As := [.int x4]) (rest := []) (r := (some (.int r5.1))) (h' := r5.2) X hI (s_Pa_startsAddress er5) rfl wm_Pa_121 yi_Pa_startsAddress rfl hl.1 rfl (Nat.le_of_ble_eq_true rfl) (by decide) (by decide) d_Pa_readAddress_10 (fun H locs hI => ?_)
  refine W.eq (g2 := F0 m 13 ls [.int (r5.1)]) rfl ?_
  refine lv_if_ne (tgt := 25) hx hb d_Pa_readAddress_13 (by decide) (fun c6 => ?_) (fun c6 => ?_)
  · rw [if_neg c6] at hf
    refine lv_aload_n hx hb d_Pa_readAddress_25 rfl (lv_at hl 1 rfl) ?_
    obtain ⟨x7, ex7, hf⟩ := z_bs hf
    refine z_getF X hI (k := 0) (ci := 6) (gR_s ex7) i_Pa rfl (by decide) wf_Pa_12 d_Pa_readAddress_26 ?_
    refine lv_dup hx hb d_Pa_readAddress_29 rfl ?_
    obtain ⟨x8, ex8, hf⟩ := z_bs hf
    refine z_getF X hI (k := 1) (ci := 2) (gI_s ex8) i_Cur rfl (by decide) wf_Pa_46 d_Pa_readAddress_30 ?_
    refine lv_iconst (v := 1) hx hb d_Pa_readAddress_33 (by decide) ?_
    refine lv_iadd hx hb d_Pa_readAddress_34 ?_
    obtain ⟨h9, eh9, hf⟩ := z_bs hf
    refine z_putF X hI (k := 1) (ci := 2) (ty0 := t_Cur) eh9 i_Cur t_Cur_ok n_Cur rfl (by decide) wf_Pa_46 rfl rfl rfl d_Pa_readAddress_35 (fun H locs hI => ?_)
    refine lv_iload_n hx hb d_Pa_readAddress_38 rfl (lv_at hl 0 rfl) ?_
    refine lv_bipush (v := 47) hx hb d_Pa_readAddress_39 (by decide) ?_
    refine lv_icmp_ne (tgt := 68) hx hb d_Pa_readAddress_41 (by decide) (fun c10 => ?_) (fun c10 => ?_)
    · rw [if_neg c10] at hf
      refine lv_iload_n hx hb d_Pa_readAddress_68 rfl (lv_at hl 0 rfl) ?_
      refine lv_bipush (v := 36) hx hb d_Pa_readAddress_69 (by decide) ?_
      refine lv_icmp_ne (tgt := 81) hx hb d_Pa_readAddress_71 (by decide) (fun c11 => ?_) (fun c11 => ?_)
      · rw [if_neg c11] at hf
        refine lv_aload_n hx hb d_Pa_readAddress_81 rfl (lv_at hl 2 rfl) ?_
        refine lv_iconst (v := 0) hx hb d_Pa_readAddress_82 (by decide) ?_
        obtain ⟨h12, eh12, hf⟩ := z_bs hf
        refine z_putF X hI (k := 1) (ci := 0) (ty0 := t_Addr) eh12 i_Addr t_Addr_ok n_Addr rfl (by decide) wf_Pa_147 rfl rfl rfl d_Pa_readAddress_83 (fun H locs hI => ?_)
        refine lv_aload_n hx hb d_Pa_readAddress_86 rfl (lv_at hl 2 rfl) ?_
        refine lv_iload_n hx hb d_Pa_readAddress_87 rfl (lv_at hl 0 rfl) ?_
        refine lv_bipush (v := 48) hx hb d_Pa_readAddress_88 (by decide) ?_
        refine lv_isub hx hb d_Pa_readAddress_90 ?_
        obtain ⟨h13, eh13, hf⟩ := z_bs hf
        refine z_putF X hI (k := 2) (ci := 0) (ty0 := t_Addr) eh13 i_Addr t_Addr_ok n_Addr rfl (by decide) wf_Pa_158 rfl rfl rfl d_Pa_readAddress_91 (fun H locs hI => ?_)
        refine lv_aload_n hx hb d_Pa_readAddress_94 rfl (lv_at hl 1 rfl) ?_
        obtain ⟨x14, ex14, hf⟩ := z_bs hf
        refine z_getF X hI (k := 0) (ci := 6) (gR_s ex14) i_Pa rfl (by decide) wf_Pa_12 d_Pa_readAddress_95 ?_
        refine lv_iconst (v := 0) hx hb d_Pa_readAddress_98 (by decide) ?_
        obtain ⟨u15, eu15, hf⟩ := z_bs hf
        obtain ⟨r16, er16, hf⟩ := z_bs hf
        refine z_callV (As := [.int 0]) (rest := []) (r := (some (.int r16.1))) (h' := r16.2) X hI eu15 (s_Cur_look er16) rfl rfl wm_Pa_42 yi_Cur_look rfl hl.1 rfl (Nat.le_of_ble_eq_true rfl) (by decide) (by decide) d_Pa_readAddress_99 (fun H locs hI => ?_)
        refine W.eq (g2 := F0 m 102 ls [.int (r16.1)]) rfl ?_
        obtain ⟨x17, ex17, hf⟩ := z_bs hf
        refine z_topi (Option.some.inj ex17) ?_
        refine lv_istore_n (lv' := [(3, .int x17), (2, .int x4), (0, .ref v0), (1, .ref v1)]) hx hb d_Pa_readAddress_102 rfl hl (by decide) rfl (fun ls hl => ?_)
        refine lv_iload_n hx hb d_Pa_readAddress_103 rfl (lv_at hl 0 rfl) ?_
        refine lv_bipush (v := 48) hx hb d_Pa_readAddress_104 (by decide) ?_
        refine lv_icmp_lt (tgt := 144) hx hb d_Pa_readAddress_106 (by decide) (fun c18 => ?_) (fun c18 => ?_)
        · rw [if_pos c18] at hf
          refine lv_iconst (v := 1) hx hb d_Pa_readAddress_144 (by decide) ?_
          cases hf
          exact z_zret X hI (Or.inr rfl) d_Pa_readAddress_145
        · rw [if_neg c18] at hf
          refine lv_iload_n hx hb d_Pa_readAddress_109 rfl (lv_at hl 0 rfl) ?_
          refine lv_bipush (v := 57) hx hb d_Pa_readAddress_110 (by decide) ?_
          refine lv_icmp_gt (tgt := 144) hx hb d_Pa_readAddress_112 (by decide) (fun c19 => ?_) (fun c19 => ?_)
          · rw [if_pos c19] at hf
            refine lv_iconst (v := 1) hx hb d_Pa_readAddress_144 (by decide) ?_
            cases hf
            exact z_zret X hI (Or.inr rfl) d_Pa_readAddress_145
          · rw [if_neg c19] at hf
            refine lv_aload_n hx hb d_Pa_readAddress_115 rfl (lv_at hl 3 rfl) ?_
            refine lv_bipush (v := 10) hx hb d_Pa_readAddress_116 (by decide) ?_
            refine lv_aload_n hx hb d_Pa_readAddress_118 rfl (lv_at hl 3 rfl) ?_
            obtain ⟨x20, ex20, hf⟩ := z_bs hf
            refine z_getF X hI (k := 2) (ci := 0) (gI_s ex20) i_Addr rfl (by decide) wf_Pa_158 d_Pa_readAddress_119 ?_
            refine lv_imul hx hb d_Pa_readAddress_122 ?_
            refine lv_iload_n hx hb d_Pa_readAddress_123 rfl (lv_at hl 0 rfl) ?_
            refine lv_iadd hx hb d_Pa_readAddress_124 ?_
            refine lv_bipush (v := 48) hx hb d_Pa_readAddress_125 (by decide) ?_
            refine lv_isub hx hb d_Pa_readAddress_127 ?_
            obtain ⟨h21, eh21, hf⟩ := z_bs hf
            refine z_putF X hI (k := 2) (ci := 0) (ty0 := t_Addr) eh21 i_Addr t_Addr_ok n_Addr rfl (by decide) wf_Pa_158 rfl rfl rfl d_Pa_readAddress_128 (fun H locs hI => ?_)
            refine lv_aload_n hx hb d_Pa_readAddress_131 rfl (lv_at hl 2 rfl) ?_
            obtain ⟨x22, ex22, hf⟩ := z_bs hf
            refine z_getF X hI (k := 0) (ci := 6) (gR_s ex22) i_Pa rfl (by decide) wf_Pa_12 d_Pa_readAddress_132 ?_
            refine lv_dup hx hb d_Pa_readAddress_135 rfl ?_
            obtain ⟨x23, ex23, hf⟩ := z_bs hf
            refine z_getF X hI (k := 1) (ci := 2) (gI_s ex23) i_Cur rfl (by decide) wf_Pa_46 d_Pa_readAddress_136 ?_
            refine lv_iconst (v := 1) hx hb d_Pa_readAddress_139 (by decide) ?_
            refine lv_iadd hx hb d_Pa_readAddress_140 ?_
            obtain ⟨h24, eh24, hf⟩ := z_bs hf
            refine z_putF X hI (k := 1) (ci := 2) (ty0 := t_Cur) eh24 i_Cur t_Cur_ok n_Cur rfl (by decide) wf_Pa_46 rfl rfl rfl d_Pa_readAddress_141 (fun H locs hI => ?_)
            refine lv_iconst (v := 1) hx hb d_Pa_readAddress_144 (by decide) ?_
            cases hf
            exact z_zret X hI (Or.inr rfl) d_Pa_readAddress_145
      · rw [if_pos c11] at hf
        refine lv_aload_n hx hb d_Pa_readAddress_74 rfl (lv_at hl 2 rfl) ?_
        refine lv_iconst (v := 1) hx hb d_Pa_readAddress_75 (by decide) ?_
        obtain ⟨h25, eh25, hf⟩ := z_bs hf
        refine z_putF X hI (k := 1) (ci := 0) (ty0 := t_Addr) eh25 i_Addr t_Addr_ok n_Addr rfl (by decide) wf_Pa_147 rfl rfl rfl d_Pa_readAddress_76 (fun H locs hI => ?_)
        refine lv_iconst (v := 1) hx hb d_Pa_readAddress_79 (by decide) ?_
        cases hf
        exact z_zret X hI (Or.inr rfl) d_Pa_readAddress_80
    · rw [if_pos c10] at hf
      refine lv_aload_n hx hb d_Pa_readAddress_44 rfl (lv_at hl 2 rfl) ?_
      refine lv_iconst (v := 2) hx hb d_Pa_readAddress_45 (by decide) ?_
      obtain ⟨h26, eh26, hf⟩ := z_bs hf
      refine z_putF X hI (k := 1) (ci := 0) (ty0 := t_Addr) eh26 i_Addr t_Addr_ok n_Addr rfl (by decide) wf_Pa_147 rfl rfl rfl d_Pa_readAddress_46 (fun H locs hI => ?_)
      refine lv_aload_n hx hb d_Pa_readAddress_49 rfl (lv_at hl 1 rfl) ?_
      obtain ⟨x27, ex27, hf⟩ := z_bs hf
      refine z_getF X hI (k := 1) (ci := 6) (gR_s ex27) i_Pa rfl (by decide) wf_Pa_23 d_Pa_readAddress_50 ?_
      refine lv_aload_n hx hb d_Pa_readAddress_53 rfl (lv_at hl 2 rfl) ?_
      obtain ⟨x28, ex28, hf⟩ := z_bs hf
      refine z_getF X hI (k := 0) (ci := 0) (gR_s ex28) i_Addr rfl (by decide) wf_Pa_150 d_Pa_readAddress_54 ?_
      refine lv_aload_n hx hb d_Pa_readAddress_57 rfl (lv_at hl 1 rfl) ?_
      obtain ⟨x29, ex29, hf⟩ := z_bs hf
      refine z_getF X hI (k := 5) (ci := 6) (gR_s ex29) i_Pa rfl (by decide) wf_Pa_72 d_Pa_readAddress_58 ?_
      obtain ⟨x30, ex30, hf⟩ := z_bs hf
      refine z_getF X hI (k := 1) (ci := 9) (gR_s ex30) i_Prog rfl (by decide) wf_Pa_94 d_Pa_readAddress_61 ?_
      obtain ⟨u31, eu31, hf⟩ := z_bs hf
      obtain ⟨r32, er32, hf⟩ := z_bs hf
      refine z_callV (As := [.ref x28, .ref x30]) (rest := []) (r := (some (.int r32.1))) (h' := r32.2) X hI eu31 (s_Pr_read er32) rfl rfl wm_Pa_154 yi_Pr_read rfl hl.1 rfl (Nat.le_of_ble_eq_true rfl) (by decide) (by decide) d_Pa_readAddress_64 (fun H locs hI => ?_)
      refine W.eq (g2 := F0 m 67 ls [.int (r32.1)]) rfl ?_
      obtain ⟨x33, ex33, hf⟩ := z_bs hf
      refine z_topi (zB_s ex33).1 ?_
      cases hf
      exact z_zret X hI (zB_s2 ex33) d_Pa_readAddress_67
  · rw [if_pos c6] at hf
    refine lv_aload_n hx hb d_Pa_readAddress_16 rfl (lv_at hl 1 rfl) ?_
    obtain ⟨x34, ex34, hf⟩ := z_bs hf
    refine z_getF X hI (k := 0) (ci := 6) (gR_s ex34) i_Pa rfl (by decide) wf_Pa_12 d_Pa_readAddress_17 ?_
    refine lv_iconst (v := 0) hx hb d_Pa_readAddress_20 (by decide) ?_
    obtain ⟨u35, eu35, hf⟩ := z_bs hf
    obtain ⟨r36, er36, hf⟩ := z_bs hf
    refine z_callV (As := [.int 0]) (rest := []) (r := (some (.int r36.1))) (h' := r36.2) X hI eu35 (s_Cur_refuse er36) rfl rfl wm_Pa_68 yi_Cur_refuse rfl hl.1 rfl (Nat.le_of_ble_eq_true rfl) (by decide) (by decide) d_Pa_readAddress_21 (fun H locs hI => ?_)
    refine W.eq (g2 := F0 m 24 ls [.int (r36.1)]) rfl ?_
    obtain ⟨x37, ex37, hf⟩ := z_bs hf
    refine z_topi (zB_s ex37).1 ?_
    cases hf
    exact z_zret X hI (zB_s2 ex37) d_Pa_readAddress_24
def f_Pa_passBlanks_2 (N : Nat)  : Nat → Nat → Int32 → z_H → Option z_H
  | 0, _, _, _ => none
  | n + 1, v0, v1, h =>
    if 240 ≤ v1 then
    (some h)
    else
    (z_b (gR h v0 6 0) fun x2 =>
    z_b (gO h x2 2) fun u3 =>
    z_b (f_Cur_look N x2 0 h) fun r4 =>
    if (r4.1) = 32 then
    (z_b (gR r4.2 v0 6 0) fun x6 =>
    z_b (gI r4.2 x6 2 1) fun x7 =>
    z_b (sF r4.2 x6 2 1 (.int (x7 + 1))) fun h8 =>
    z_b (some (v1 + 1)) fun x9 =>
    (f_Pa_passBlanks_2 N  n) v0 x9 h8)
    else
    (some r4.2))
set_option maxRecDepth 20000 in
set_option maxHeartbeats 2000000 in
theorem s_Pa_passBlanks_2 (X : z_X p s m args meth c prog_8_method_9_code 2 none Ts "StreamForge$Parser" D dA B) {N : Nat} {h' : z_H}   : ∀ n : Nat, ∀ (v0 : Nat) (v1 : Int32) (h : z_H) (H : Heap) (locs : List Loc) (ls : Array Slot), z_I D dA B h s.heap H locs → lv_has ls 2 [(0, .ref v0), (1, .int v1)] → f_Pa_passBlanks_2 N  n v0 v1 h = some h' → W p l e (z_rm 1 22) s m args below meth c H locs 0 0 (MQ below (z_Q D dA B none h') args s 0 0 (fun q => B ≤ q)) (F0 m 2 ls []) := by
  have hx := z_hx X
  have hb := z_hb X
  intro n
  induction n with
  | zero => intro v0 v1 h H locs ls hI hl hf; rw [f_Pa_passBlanks_2] at hf; cases hf
  | succ n ih =>
    intro v0 v1 h H locs ls hI hl hf
    rw [f_Pa_passBlanks_2] at hf
    refine lv_iload_n hx hb d_Pa_passBlanks_2 rfl (lv_at hl 1 rfl) ?_
    refine lv_sipush (v := 240) hx hb d_Pa_passBlanks_3 (by decide) ?_
    refine lv_icmp_ge (tgt := 41) hx hb d_Pa_passBlanks_6 (by decide) (fun c1 => ?_) (fun c1 => ?_)
    · rw [if_pos c1] at hf
      cases hf
      exact z_vret X hI d_Pa_passBlanks_41
    · rw [if_neg c1] at hf
      refine lv_aload_n hx hb d_Pa_passBlanks_9 rfl (lv_at hl 0 rfl) ?_
      obtain ⟨x2, ex2, hf⟩ := z_bs hf
      refine z_getF X hI (k := 0) (ci := 6) (gR_s ex2) i_Pa rfl (by decide) wf_Pa_12 d_Pa_passBlanks_10 ?_
      refine lv_iconst (v := 0) hx hb d_Pa_passBlanks_13 (by decide) ?_
      obtain ⟨u3, eu3, hf⟩ := z_bs hf
      obtain ⟨r4, er4, hf⟩ := z_bs hf
      refine z_callV (As := [.int 0]) (rest := []) (r := (some (.int r4.1))) (h' := r4.2) X hI eu3 (s_Cur_look er4) rfl rfl wm_Pa_42 yi_Cur_look rfl hl.1 rfl (Nat.le_of_ble_eq_true rfl) (by decide) (by decide) d_Pa_passBlanks_14 (fun H locs hI => ?_)
      refine W.eq (g2 := F0 m 17 ls [.int (r4.1)]) rfl ?_
      refine lv_bipush (v := 32) hx hb d_Pa_passBlanks_17 (by decide) ?_
      refine lv_icmp_ne (tgt := 41) hx hb d_Pa_passBlanks_19 (by decide) (fun c5 => ?_) (fun c5 => ?_)
      · rw [if_neg c5] at hf
        cases hf
        exact z_vret X hI d_Pa_passBlanks_41
      · rw [if_pos c5] at hf
        refine lv_aload_n hx hb d_Pa_passBlanks_22 rfl (lv_at hl 0 rfl) ?_
        obtain ⟨x6, ex6, hf⟩ := z_bs hf
        refine z_getF X hI (k := 0) (ci := 6) (gR_s ex6) i_Pa rfl (by decide) wf_Pa_12 d_Pa_passBlanks_23 ?_
        refine lv_dup hx hb d_Pa_passBlanks_26 rfl ?_
        obtain ⟨x7, ex7, hf⟩ := z_bs hf
        refine z_getF X hI (k := 1) (ci := 2) (gI_s ex7) i_Cur rfl (by decide) wf_Pa_46 d_Pa_passBlanks_27 ?_
        refine lv_iconst (v := 1) hx hb d_Pa_passBlanks_30 (by decide) ?_
        refine lv_iadd hx hb d_Pa_passBlanks_31 ?_
        obtain ⟨h8, eh8, hf⟩ := z_bs hf
        refine z_putF X hI (k := 1) (ci := 2) (ty0 := t_Cur) eh8 i_Cur t_Cur_ok n_Cur rfl (by decide) wf_Pa_46 rfl rfl rfl d_Pa_passBlanks_32 (fun H locs hI => ?_)
        obtain ⟨x9, ex9, hf⟩ := z_bs hf
        refine lv_iinc (v := x9) (lv' := [(1, .int x9), (0, .ref v0)]) hx hb d_Pa_passBlanks_35 hl (k := 1) rfl (by rw [← Option.some.inj ex9]; rfl) (by decide) rfl (fun ls hl => ?_)
        refine lv_goto (tgt := 2) hx hb d_Pa_passBlanks_38 (by decide) ?_
        exact ih v0 x9 h8 _ _ _ hI (lv_sub hl [1, 0] rfl) hf
def f_Pa_passBlanks (N : Nat) (v0 : Nat) (h : z_H) : Option z_H :=
  f_Pa_passBlanks_2 N N v0 0 h
set_option maxRecDepth 20000 in
set_option maxHeartbeats 2000000 in
theorem s_Pa_passBlanks {l : Launch} {D : va_G} {dA : Nat → ClassId} {B N : Nat} {v0 : Nat} {h h' : z_H} (hf : f_Pa_passBlanks N v0 h = some h') : z_Met l y_Pa_passBlanks prog_8_method_9_code 2 none 1 22 D dA B [.ref v0] h none h' := by
  refine z_of (by decide) (Nat.le_of_ble_eq_true rfl) (fun p e s m below meth c ls X hI hl => ?_)
  have hx := z_hx X
  have hb := z_hb X
  have hl : lv_has ls 2 [(0, .ref v0)] := hl
  unfold f_Pa_passBlanks at hf
  obtain ⟨locs, hlo⟩ : ∃ z : List Loc, z = [] := ⟨_, rfl⟩
  rw [← hlo] at hI ⊢
  refine lv_iconst (v := 0) hx hb d_Pa_passBlanks_0 (by decide) ?_
  refine lv_istore_n (lv' := [(1, .int 0), (0, .ref v0)]) hx hb d_Pa_passBlanks_1 rfl hl (by decide) rfl (fun ls hl => ?_)
  exact s_Pa_passBlanks_2 X  N v0 0 h _ _ _ hI (lv_sub hl [1, 0] rfl) hf
def f_Pa_readAddresses_88 (N : Nat)  (v0 : Nat) (h : z_H) : Option (Int32 × z_H) :=
  z_b (gO h v0 6) fun u1 =>
  z_b (f_Pa_passBlanks N v0 h) fun r2 =>
  z_b (gR r2 v0 6 0) fun x3 =>
  z_b (gO r2 x3 2) fun u4 =>
  z_b (f_Cur_look N x3 0 r2) fun r5 =>
  if (r5.1) = 33 then
  (z_b (gR r5.2 v0 6 6) fun x7 =>
  z_b (sF r5.2 x7 1 6 (.int 1)) fun h8 =>
  z_b (gR h8 v0 6 0) fun x9 =>
  z_b (gI h8 x9 2 1) fun x10 =>
  z_b (sF h8 x9 2 1 (.int (x10 + 1))) fun h11 =>
  z_b (gO h11 v0 6) fun u12 =>
  z_b (f_Pa_passBlanks N v0 h11) fun r13 =>
  some (1, r13))
  else
  (some (1, r5.2))
set_option maxRecDepth 20000 in
set_option maxHeartbeats 2000000 in
theorem s_Pa_readAddresses_88 (X : z_X p s m args meth c prog_8_method_7_code 1 (some .boolean) Ts "StreamForge$Parser" D dA B) {N : Nat} {r : Int32} {h' : z_H}   : ∀ (v0 : Nat) (h : z_H) (H : Heap) (locs : List Loc) (ls : Array Slot), z_I D dA B h s.heap H locs → lv_has ls 1 [(0, .ref v0)] → f_Pa_readAddresses_88 N  v0 h = some (r, h') → W p l e (z_rm 5 118) s m args below meth c H locs 0 0 (MQ below (z_Q D dA B (some (.int r)) h') args s 0 0 (fun q => B ≤ q)) (F0 m 88 ls []) := by
  have hx := z_hx X
  have hb := z_hb X
  intro v0 h H locs ls hI hl hf
  unfold f_Pa_readAddresses_88 at hf
  refine lv_aload_n hx hb d_Pa_readAddresses_88 rfl (lv_at hl 0 rfl) ?_
  obtain ⟨u1, eu1, hf⟩ := z_bs hf
  obtain ⟨r2, er2, hf⟩ := z_bs hf
  refine z_callV (As := []) (rest := []) (r := none) (h' := r2) X hI eu1 (s_Pa_passBlanks er2) rfl rfl wm_Pa_138 yi_Pa_passBlanks rfl hl.1 rfl (Nat.le_of_ble_eq_true rfl) (by decide) (by decide) d_Pa_readAddresses_89 (fun H locs hI => ?_)
  refine W.eq (g2 := F0 m 92 ls []) rfl ?_
  refine lv_aload_n hx hb d_Pa_readAddresses_92 rfl (lv_at hl 0 rfl) ?_
  obtain ⟨x3, ex3, hf⟩ := z_bs hf
  refine z_getF X hI (k := 0) (ci := 6) (gR_s ex3) i_Pa rfl (by decide) wf_Pa_12 d_Pa_readAddresses_93 ?_
  refine lv_iconst (v := 0) hx hb d_Pa_readAddresses_96 (by decide) ?_
  obtain ⟨u4, eu4, hf⟩ := z_bs hf
  obtain ⟨r5, er5, hf⟩ := z_bs hf
  refine z_callV (As := [.int 0]) (rest := []) (r := (some (.int r5.1))) (h' := r5.2) X hI eu4 (s_Cur_look er5) rfl rfl wm_Pa_42 yi_Cur_look rfl hl.1 rfl (Nat.le_of_ble_eq_true rfl) (by decide) (by decide) d_Pa_readAddresses_97 (fun H locs hI => ?_)
  refine W.eq (g2 := F0 m 100 ls [.int (r5.1)]) rfl ?_
  refine lv_bipush (v := 33) hx hb d_Pa_readAddresses_100 (by decide) ?_
  refine lv_icmp_ne (tgt := 130) hx hb d_Pa_readAddresses_102 (by decide) (fun c6 => ?_) (fun c6 => ?_)
  · rw [if_neg c6] at hf
    refine lv_iconst (v := 1) hx hb d_Pa_readAddresses_130 (by decide) ?_
    cases hf
    exact z_zret X hI (Or.inr rfl) d_Pa_readAddresses_131
  · rw [if_pos c6] at hf
    refine lv_aload_n hx hb d_Pa_readAddresses_105 rfl (lv_at hl 0 rfl) ?_
    obtain ⟨x7, ex7, hf⟩ := z_bs hf
    refine z_getF X hI (k := 6) (ci := 6) (gR_s ex7) i_Pa rfl (by decide) wf_Pa_114 d_Pa_readAddresses_106 ?_
    refine lv_iconst (v := 1) hx hb d_Pa_readAddresses_109 (by decide) ?_
    obtain ⟨h8, eh8, hf⟩ := z_bs hf
    refine z_putF X hI (k := 6) (ci := 1) (ty0 := t_Cmd) eh8 i_Cmd t_Cmd_ok n_Cmd rfl (by decide) wf_Pa_141 rfl rfl rfl d_Pa_readAddresses_110 (fun H locs hI => ?_)
    refine lv_aload_n hx hb d_Pa_readAddresses_113 rfl (lv_at hl 0 rfl) ?_
    obtain ⟨x9, ex9, hf⟩ := z_bs hf
    refine z_getF X hI (k := 0) (ci := 6) (gR_s ex9) i_Pa rfl (by decide) wf_Pa_12 d_Pa_readAddresses_114 ?_
    refine lv_dup hx hb d_Pa_readAddresses_117 rfl ?_
    obtain ⟨x10, ex10, hf⟩ := z_bs hf
    refine z_getF X hI (k := 1) (ci := 2) (gI_s ex10) i_Cur rfl (by decide) wf_Pa_46 d_Pa_readAddresses_118 ?_
    refine lv_iconst (v := 1) hx hb d_Pa_readAddresses_121 (by decide) ?_
    refine lv_iadd hx hb d_Pa_readAddresses_122 ?_
    obtain ⟨h11, eh11, hf⟩ := z_bs hf
    refine z_putF X hI (k := 1) (ci := 2) (ty0 := t_Cur) eh11 i_Cur t_Cur_ok n_Cur rfl (by decide) wf_Pa_46 rfl rfl rfl d_Pa_readAddresses_123 (fun H locs hI => ?_)
    refine lv_aload_n hx hb d_Pa_readAddresses_126 rfl (lv_at hl 0 rfl) ?_
    obtain ⟨u12, eu12, hf⟩ := z_bs hf
    obtain ⟨r13, er13, hf⟩ := z_bs hf
    refine z_callV (As := []) (rest := []) (r := none) (h' := r13) X hI eu12 (s_Pa_passBlanks er13) rfl rfl wm_Pa_138 yi_Pa_passBlanks rfl hl.1 rfl (Nat.le_of_ble_eq_true rfl) (by decide) (by decide) d_Pa_readAddresses_127 (fun H locs hI => ?_)
    refine W.eq (g2 := F0 m 130 ls []) rfl ?_
    refine lv_iconst (v := 1) hx hb d_Pa_readAddresses_130 (by decide) ?_
    cases hf
    exact z_zret X hI (Or.inr rfl) d_Pa_readAddresses_131
def f_Pa_readAddresses (N : Nat) (v0 : Nat) (h : z_H) : Option (Int32 × z_H) :=
  z_b (gR h v0 6 0) fun x1 =>
  z_b (gO h x1 2) fun u2 =>
  z_b (f_Cur_look N x1 0 h) fun r3 =>
  z_b (f_Pa_startsAddress N (r3.1) r3.2) fun r4 =>
  if (r4.1) = 0 then
  (f_Pa_readAddresses_88 N v0 r4.2)
  else
  (z_b (gR r4.2 v0 6 6) fun x6 =>
  z_b (gR r4.2 x6 1 0) fun x7 =>
  z_b (gO r4.2 v0 6) fun u8 =>
  z_b (f_Pa_readAddress N v0 x7 r4.2) fun r9 =>
  if (r9.1) = 0 then
  (some (0, r9.2))
  else
  (z_b (gR r9.2 v0 6 6) fun x11 =>
  z_b (sF r9.2 x11 1 5 (.int 1)) fun h12 =>
  z_b (gR h12 v0 6 0) fun x13 =>
  z_b (gO h12 x13 2) fun u14 =>
  z_b (f_Cur_look N x13 0 h12) fun r15 =>
  if (r15.1) = 44 then
  (z_b (gR r15.2 v0 6 0) fun x17 =>
  z_b (gI r15.2 x17 2 1) fun x18 =>
  z_b (sF r15.2 x17 2 1 (.int (x18 + 1))) fun h19 =>
  z_b (gR h19 v0 6 6) fun x20 =>
  z_b (gR h19 x20 1 1) fun x21 =>
  z_b (gO h19 v0 6) fun u22 =>
  z_b (f_Pa_readAddress N v0 x21 h19) fun r23 =>
  if (r23.1) = 0 then
  (some (0, r23.2))
  else
  (z_b (gR r23.2 v0 6 6) fun x25 =>
  z_b (sF r23.2 x25 1 5 (.int 2)) fun h26 =>
  f_Pa_readAddresses_88 N v0 h26))
  else
  (f_Pa_readAddresses_88 N v0 r15.2)))
set_option maxRecDepth 20000 in
set_option maxHeartbeats 2000000 in
theorem s_Pa_readAddresses {l : Launch} {D : va_G} {dA : Nat → ClassId} {B N : Nat} {v0 : Nat} {h h' : z_H} {r : Int32} (hf : f_Pa_readAddresses N v0 h = some (r, h')) : z_Met l y_Pa_readAddresses prog_8_method_7_code 1 (some .boolean) 5 118 D dA B [.ref v0] h (some (.int r)) h' := by
  refine z_of (by decide) (Nat.le_of_ble_eq_true rfl) (fun p e s m below meth c ls X hI hl => ?_)
  have hx := z_hx X
  have hb := z_hb X
  have hl : lv_has ls 1 [(0, .ref v0)] := hl
  unfold f_Pa_readAddresses at hf
  obtain ⟨locs, hlo⟩ : ∃ z : List Loc, z = [] := ⟨_, rfl⟩
  rw [← hlo] at hI ⊢
  refine lv_aload_n hx hb d_Pa_readAddresses_0 rfl (lv_at hl 0 rfl) ?_
  obtain ⟨x1, ex1, hf⟩ := z_bs hf
  refine z_getF X hI (k := 0) (ci := 6) (gR_s ex1) i_Pa rfl (by decide) wf_Pa_12 d_Pa_readAddresses_1 ?_
  refine lv_iconst (v := 0) hx hb d_Pa_readAddresses_4 (by decide) ?_
  obtain ⟨u2, eu2, hf⟩ := z_bs hf
  obtain ⟨r3, er3, hf⟩ := z_bs hf
  refine z_callV (As := [.int 0]) (rest := []) (r := (some (.int r3.1))) (h' := r3.2) X hI eu2 (s_Cur_look er3) rfl rfl wm_Pa_42 yi_Cur_look rfl hl.1 rfl (Nat.le_of_ble_eq_true rfl) (by decide) (by decide) d_Pa_readAddresses_5 (fun H locs hI => ?_)
  refine W.eq (g2 := F0 m 8 ls [.int (r3.1)]) rfl ?_
  obtain ⟨r4, er4, hf⟩ := z_bs hf
  refine z_callS (As := [.int (r3.1)]) (rest := []) (r := (some (.int r4.1))) (h' := r4.2) X hI (s_Pa_startsAddress er4) rfl wm_Pa_121 yi_Pa_startsAddress rfl hl.1 rfl (Nat.le_of_ble_eq_true rfl) (by decide) (by decide) d_Pa_readAddresses_8 (fun H locs hI => ?_)
  refine W.eq (g2 := F0 m 11 ls [.int (r4.1)]) rfl ?_
  refine lv_if_eq (tgt := 88) hx hb d_Pa_readAddresses_11 (by decide) (fun c5 => ?_) (fun c5 => ?_)
  · rw [if_pos c5] at hf
    exact s_Pa_readAddresses_88 X  v0 r4.2 _ _ _ hI (lv_sub hl [0] rfl) hf
  · rw [if_neg c5] at hf
    refine lv_aload_n hx hb d_Pa_readAddresses_14 rfl (lv_at hl 0 rfl) ?_
    refine lv_aload_n hx hb d_Pa_readAddresses_15 rfl (lv_at hl 0 rfl) ?_
    obtain ⟨x6, ex6, hf⟩ := z_bs hf
    refine z_getF X hI (k := 6) (ci := 6) (gR_s ex6) i_Pa rfl (by decide) wf_Pa_114 d_Pa_readAddresses_16 ?_
    obtain ⟨x7, ex7, hf⟩ := z_bs hf
    refine z_getF X hI (k := 0) (ci := 1) (gR_s ex7) i_Cmd rfl (by decide) wf_Pa_124 d_Pa_readAddresses_19 ?_
    obtain ⟨u8, eu8, hf⟩ := z_bs hf
    obtain ⟨r9, er9, hf⟩ := z_bs hf
    refine z_callV (As := [.ref x7]) (rest := []) (r := (some (.int r9.1))) (h' := r9.2) X hI eu8 (s_Pa_readAddress er9) rfl rfl wm_Pa_128 yi_Pa_readAddress rfl hl.1 rfl (Nat.le_of_ble_eq_true rfl) (by decide) (by decide) d_Pa_readAddresses_22 (fun H locs hI => ?_)
    refine W.eq (g2 := F0 m 25 ls [.int (r9.1)]) rfl ?_
    refine lv_if_ne (tgt := 30) hx hb d_Pa_readAddresses_25 (by decide) (fun c10 => ?_) (fun c10 => ?_)
    · rw [if_neg c10] at hf
      refine lv_aload_n hx hb d_Pa_readAddresses_30 rfl (lv_at hl 0 rfl) ?_
      obtain ⟨x11, ex11, hf⟩ := z_bs hf
      refine z_getF X hI (k := 6) (ci := 6) (gR_s ex11) i_Pa rfl (by decide) wf_Pa_114 d_Pa_readAddresses_31 ?_
      refine lv_iconst (v := 1) hx hb d_Pa_readAddresses_34 (by decide) ?_
      obtain ⟨h12, eh12, hf⟩ := z_bs hf
      refine z_putF X hI (k := 5) (ci := 1) (ty0 := t_Cmd) eh12 i_Cmd t_Cmd_ok n_Cmd rfl (by decide) wf_Pa_132 rfl rfl rfl d_Pa_readAddresses_35 (fun H locs hI => ?_)
      refine lv_aload_n hx hb d_Pa_readAddresses_38 rfl (lv_at hl 0 rfl) ?_
      obtain ⟨x13, ex13, hf⟩ := z_bs hf
      refine z_getF X hI (k := 0) (ci := 6) (gR_s ex13) i_Pa rfl (by decide) wf_Pa_12 d_Pa_readAddresses_39 ?_
      refine lv_iconst (v := 0) hx hb d_Pa_readAddresses_42 (by decide) ?_
      obtain ⟨u14, eu14, hf⟩ := z_bs hf
      obtain ⟨r15, er15, hf⟩ := z_bs hf
      refine z_callV (As := [.int 0]) (rest := []) (r := (some (.int r15.1))) (h' := r15.2) X hI eu14 (s_Cur_look er15) rfl rfl wm_Pa_42 yi_Cur_look rfl hl.1 rfl (Nat.le_of_ble_eq_true rfl) (by decide) (by decide) d_Pa_readAddresses_43 (fun H locs hI => ?_)
      refine W.eq (g2 := F0 m 46 ls [.int (r15.1)]) rfl ?_
      refine lv_bipush (v := 44) hx hb d_Pa_readAddresses_46 (by decide) ?_
      refine lv_icmp_ne (tgt := 88) hx hb d_Pa_readAddresses_48 (by decide) (fun c16 => ?_) (fun c16 => ?_)
      · rw [if_neg c16] at hf
        exact s_Pa_readAddresses_88 X  v0 r15.2 _ _ _ hI (lv_sub hl [0] rfl) hf
      · rw [if_pos c16] at hf
        refine lv_aload_n hx hb d_Pa_readAddresses_51 rfl (lv_at hl 0 rfl) ?_
        obtain ⟨x17, ex17, hf⟩ := z_bs hf
        refine z_getF X hI (k := 0) (ci := 6) (gR_s ex17) i_Pa rfl (by decide) wf_Pa_12 d_Pa_readAddresses_52 ?_
        refine lv_dup hx hb d_Pa_readAddresses_55 rfl ?_
        obtain ⟨x18, ex18, hf⟩ := z_bs hf
        refine z_getF X hI (k := 1) (ci := 2) (gI_s ex18) i_Cur rfl (by decide) wf_Pa_46 d_Pa_readAddresses_56 ?_
        refine lv_iconst (v := 1) hx hb d_Pa_readAddresses_59 (by decide) ?_
        refine lv_iadd hx hb d_Pa_readAddresses_60 ?_
        obtain ⟨h19, eh19, hf⟩ := z_bs hf
        refine z_putF X hI (k := 1) (ci := 2) (ty0 := t_Cur) eh19 i_Cur t_Cur_ok n_Cur rfl (by decide) wf_Pa_46 rfl rfl rfl d_Pa_readAddresses_61 (fun H locs hI => ?_)
        refine lv_aload_n hx hb d_Pa_readAddresses_64 rfl (lv_at hl 0 rfl) ?_
        refine lv_aload_n hx hb d_Pa_readAddresses_65 rfl (lv_at hl 0 rfl) ?_
        obtain ⟨x20, ex20, hf⟩ := z_bs hf
        refine z_getF X hI (k := 6) (ci := 6) (gR_s ex20) i_Pa rfl (by decide) wf_Pa_114 d_Pa_readAddresses_66 ?_
        obtain ⟨x21, ex21, hf⟩ := z_bs hf
        refine z_getF X hI (k := 1) (ci := 1) (gR_s ex21) i_Cmd rfl (by decide) wf_Pa_135 d_Pa_readAddresses_69 ?_
        obtain ⟨u22, eu22, hf⟩ := z_bs hf
        obtain ⟨r23, er23, hf⟩ := z_bs hf
        refine z_callV (As := [.ref x21]) (rest := []) (r := (some (.int r23.1))) (h' := r23.2) X hI eu22 (s_Pa_readAddress er23) rfl rfl wm_Pa_128 yi_Pa_readAddress rfl hl.1 rfl (Nat.le_of_ble_eq_true rfl) (by decide) (by decide) d_Pa_readAddresses_72 (fun H locs hI => ?_)
        refine W.eq (g2 := F0 m 75 ls [.int (r23.1)]) rfl ?_
        refine lv_if_ne (tgt := 80) hx hb d_Pa_readAddresses_75 (by decide) (fun c24 => ?_) (fun c24 => ?_)
        · rw [if_neg c24] at hf
          refine lv_aload_n hx hb d_Pa_readAddresses_80 rfl (lv_at hl 0 rfl) ?_
          obtain ⟨x25, ex25, hf⟩ := z_bs hf
          refine z_getF X hI (k := 6) (ci := 6) (gR_s ex25) i_Pa rfl (by decide) wf_Pa_114 d_Pa_readAddresses_81 ?_
          refine lv_iconst (v := 2) hx hb d_Pa_readAddresses_84 (by decide) ?_
          obtain ⟨h26, eh26, hf⟩ := z_bs hf
          refine z_putF X hI (k := 5) (ci := 1) (ty0 := t_Cmd) eh26 i_Cmd t_Cmd_ok n_Cmd rfl (by decide) wf_Pa_132 rfl rfl rfl d_Pa_readAddresses_85 (fun H locs hI => ?_)
          exact s_Pa_readAddresses_88 X  v0 h26 _ _ _ hI (lv_sub hl [0] rfl) hf
        · rw [if_pos c24] at hf
          refine lv_iconst (v := 0) hx hb d_Pa_readAddresses_78 (by decide) ?_
          cases hf
          exact z_zret X hI (Or.inl rfl) d_Pa_readAddresses_79
    · rw [if_pos c10] at hf
      refine lv_iconst (v := 0) hx hb d_Pa_readAddresses_28 (by decide) ?_
      cases hf
      exact z_zret X hI (Or.inl rfl) d_Pa_readAddresses_29
def f_Pa_openBlock (N : Nat) (v0 : Nat) (h : z_H) : Option (Int32 × z_H) :=
  z_b (gI h v0 6 4) fun x1 =>
  if x1 = 4 then
  (z_b (gR h v0 6 0) fun x13 =>
  z_b (gO h x13 2) fun u14 =>
  z_b (f_Cur_refuse N x13 0 h) fun r15 =>
  z_b (zB (r15.1)) fun x16 =>
  some (x16, r15.2))
  else
  (z_b (gR h v0 6 2) fun x3 =>
  z_b (gI h v0 6 4) fun x4 =>
  z_b (gR h v0 6 5) fun x5 =>
  z_b (gI h x5 9 3) fun x6 =>
  z_b (uI h x3 0 x4 (x6 - 1)) fun h7 =>
  z_b (gI h7 v0 6 4) fun x8 =>
  z_b (sF h7 v0 6 4 (.int (x8 + 1))) fun h9 =>
  z_b (gR h9 v0 6 0) fun x10 =>
  z_b (gI h9 x10 2 1) fun x11 =>
  z_b (sF h9 x10 2 1 (.int (x11 + 1))) fun h12 =>
  some (1, h12))
set_option maxRecDepth 20000 in
set_option maxHeartbeats 2000000 in
theorem s_Pa_openBlock {l : Launch} {D : va_G} {dA : Nat → ClassId} {B N : Nat} {v0 : Nat} {h h' : z_H} {r : Int32} (hf : f_Pa_openBlock N v0 h = some (r, h')) : z_Met l y_Pa_openBlock prog_8_method_13_code 1 (some .boolean) 1 21 D dA B [.ref v0] h (some (.int r)) h' := by
  refine z_of (by decide) (Nat.le_of_ble_eq_true rfl) (fun p e s m below meth c ls X hI hl => ?_)
  have hx := z_hx X
  have hb := z_hb X
  have hl : lv_has ls 1 [(0, .ref v0)] := hl
  unfold f_Pa_openBlock at hf
  obtain ⟨locs, hlo⟩ : ∃ z : List Loc, z = [] := ⟨_, rfl⟩
  rw [← hlo] at hI ⊢
  refine lv_aload_n hx hb d_Pa_openBlock_0 rfl (lv_at hl 0 rfl) ?_
  obtain ⟨x1, ex1, hf⟩ := z_bs hf
  refine z_getF X hI (k := 4) (ci := 6) (gI_s ex1) i_Pa rfl (by decide) wf_Pa_62 d_Pa_openBlock_1 ?_
  refine lv_iconst (v := 4) hx hb d_Pa_openBlock_4 (by decide) ?_
  refine lv_icmp_ne (tgt := 17) hx hb d_Pa_openBlock_5 (by decide) (fun c2 => ?_) (fun c2 => ?_)
  · rw [if_neg c2] at hf
    refine lv_aload_n hx hb d_Pa_openBlock_17 rfl (lv_at hl 0 rfl) ?_
    obtain ⟨x3, ex3, hf⟩ := z_bs hf
    refine z_getF X hI (k := 2) (ci := 6) (gR_s ex3) i_Pa rfl (by decide) wf_Pa_27 d_Pa_openBlock_18 ?_
    refine lv_aload_n hx hb d_Pa_openBlock_21 rfl (lv_at hl 0 rfl) ?_
    obtain ⟨x4, ex4, hf⟩ := z_bs hf
    refine z_getF X hI (k := 4) (ci := 6) (gI_s ex4) i_Pa rfl (by decide) wf_Pa_62 d_Pa_openBlock_22 ?_
    refine lv_aload_n hx hb d_Pa_openBlock_25 rfl (lv_at hl 0 rfl) ?_
    obtain ⟨x5, ex5, hf⟩ := z_bs hf
    refine z_getF X hI (k := 5) (ci := 6) (gR_s ex5) i_Pa rfl (by decide) wf_Pa_72 d_Pa_openBlock_26 ?_
    obtain ⟨x6, ex6, hf⟩ := z_bs hf
    refine z_getF X hI (k := 3) (ci := 9) (gI_s ex6) i_Prog rfl (by decide) wf_Pa_103 d_Pa_openBlock_29 ?_
    refine lv_iconst (v := 1) hx hb d_Pa_openBlock_32 (by decide) ?_
    refine lv_isub hx hb d_Pa_openBlock_33 ?_
    obtain ⟨h7, eh7, hf⟩ := z_bs hf
    refine z_iast X hI eh7 d_Pa_openBlock_34 (fun H locs hI => ?_)
    refine lv_aload_n hx hb d_Pa_openBlock_35 rfl (lv_at hl 0 rfl) ?_
    refine lv_dup hx hb d_Pa_openBlock_36 rfl ?_
    obtain ⟨x8, ex8, hf⟩ := z_bs hf
    refine z_getF X hI (k := 4) (ci := 6) (gI_s ex8) i_Pa rfl (by decide) wf_Pa_62 d_Pa_openBlock_37 ?_
    refine lv_iconst (v := 1) hx hb d_Pa_openBlock_40 (by decide) ?_
    refine lv_iadd hx hb d_Pa_openBlock_41 ?_
    obtain ⟨h9, eh9, hf⟩ := z_bs hf
    refine z_putF X hI (k := 4) (ci := 6) (ty0 := t_Pa) eh9 i_Pa t_Pa_ok n_Pa rfl (by decide) wf_Pa_62 rfl rfl rfl d_Pa_openBlock_42 (fun H locs hI => ?_)
    refine lv_aload_n hx hb d_Pa_openBlock_45 rfl (lv_at hl 0 rfl) ?_
    obtain ⟨x10, ex10, hf⟩ := z_bs hf
    refine z_getF X hI (k := 0) (ci := 6) (gR_s ex10) i_Pa rfl (by decide) wf_Pa_12 d_Pa_openBlock_46 ?_
    refine lv_dup hx hb d_Pa_openBlock_49 rfl ?_
    obtain ⟨x11, ex11, hf⟩ := z_bs hf
    refine z_getF X hI (k := 1) (ci := 2) (gI_s ex11) i_Cur rfl (by decide) wf_Pa_46 d_Pa_openBlock_50 ?_
    refine lv_iconst (v := 1) hx hb d_Pa_openBlock_53 (by decide) ?_
    refine lv_iadd hx hb d_Pa_openBlock_54 ?_
    obtain ⟨h12, eh12, hf⟩ := z_bs hf
    refine z_putF X hI (k := 1) (ci := 2) (ty0 := t_Cur) eh12 i_Cur t_Cur_ok n_Cur rfl (by decide) wf_Pa_46 rfl rfl rfl d_Pa_openBlock_55 (fun H locs hI => ?_)
    refine lv_iconst (v := 1) hx hb d_Pa_openBlock_58 (by decide) ?_
    cases hf
    exact z_zret X hI (Or.inr rfl) d_Pa_openBlock_59
  · rw [if_pos c2] at hf
    refine lv_aload_n hx hb d_Pa_openBlock_8 rfl (lv_at hl 0 rfl) ?_
    obtain ⟨x13, ex13, hf⟩ := z_bs hf
    refine z_getF X hI (k := 0) (ci := 6) (gR_s ex13) i_Pa rfl (by decide) wf_Pa_12 d_Pa_openBlock_9 ?_
    refine lv_iconst (v := 0) hx hb d_Pa_openBlock_12 (by decide) ?_
    obtain ⟨u14, eu14, hf⟩ := z_bs hf
    obtain ⟨r15, er15, hf⟩ := z_bs hf
    refine z_callV (As := [.int 0]) (rest := []) (r := (some (.int r15.1))) (h' := r15.2) X hI eu14 (s_Cur_refuse er15) rfl rfl wm_Pa_68 yi_Cur_refuse rfl hl.1 rfl (Nat.le_of_ble_eq_true rfl) (by decide) (by decide) d_Pa_openBlock_13 (fun H locs hI => ?_)
    refine W.eq (g2 := F0 m 16 ls [.int (r15.1)]) rfl ?_
    obtain ⟨x16, ex16, hf⟩ := z_bs hf
    refine z_topi (zB_s ex16).1 ?_
    cases hf
    exact z_zret X hI (zB_s2 ex16) d_Pa_openBlock_16
def f_Pa_isLetter (N : Nat) (v0 : Int32) (h : z_H) : Option (Int32 × z_H) :=
  if v0 < 97 then
  (some (0, h))
  else
  (if 122 < v0 then
  (some (0, h))
  else
  (some (1, h)))
set_option maxRecDepth 20000 in
set_option maxHeartbeats 2000000 in
theorem s_Pa_isLetter {l : Launch} {D : va_G} {dA : Nat → ClassId} {B N : Nat} {v0 : Int32} {h h' : z_H} {r : Int32} (hf : f_Pa_isLetter N v0 h = some (r, h')) : z_Met l y_Pa_isLetter prog_8_method_16_code 1 (some .boolean) 0 0 D dA B [.int v0] h (some (.int r)) h' := by
  refine z_of (by decide) (Nat.le_of_ble_eq_true rfl) (fun p e s m below meth c ls X hI hl => ?_)
  have hx := z_hx X
  have hb := z_hb X
  have hl : lv_has ls 1 [(0, .int v0)] := hl
  unfold f_Pa_isLetter at hf
  obtain ⟨locs, hlo⟩ : ∃ z : List Loc, z = [] := ⟨_, rfl⟩
  rw [← hlo] at hI ⊢
  refine lv_iload_n hx hb d_Pa_isLetter_0 rfl (lv_at hl 0 rfl) ?_
  refine lv_bipush (v := 97) hx hb d_Pa_isLetter_1 (by decide) ?_
  refine lv_icmp_lt (tgt := 16) hx hb d_Pa_isLetter_3 (by decide) (fun c1 => ?_) (fun c1 => ?_)
  · rw [if_pos c1] at hf
    refine lv_iconst (v := 0) hx hb d_Pa_isLetter_16 (by decide) ?_
    cases hf
    exact z_zret X hI (Or.inl rfl) d_Pa_isLetter_17
  · rw [if_neg c1] at hf
    refine lv_iload_n hx hb d_Pa_isLetter_6 rfl (lv_at hl 0 rfl) ?_
    refine lv_bipush (v := 122) hx hb d_Pa_isLetter_7 (by decide) ?_
    refine lv_icmp_gt (tgt := 16) hx hb d_Pa_isLetter_9 (by decide) (fun c2 => ?_) (fun c2 => ?_)
    · rw [if_pos c2] at hf
      refine lv_iconst (v := 0) hx hb d_Pa_isLetter_16 (by decide) ?_
      cases hf
      exact z_zret X hI (Or.inl rfl) d_Pa_isLetter_17
    · rw [if_neg c2] at hf
      refine lv_iconst (v := 1) hx hb d_Pa_isLetter_12 (by decide) ?_
      refine lv_goto (tgt := 17) hx hb d_Pa_isLetter_13 (by decide) ?_
      cases hf
      exact z_zret X hI (Or.inr rfl) d_Pa_isLetter_17
def f_Pa_placeLabel_20 (N : Nat)  (v0 : Nat) (h : z_H) : Option (Int32 × z_H) :=
  z_b (gR h v0 6 0) fun x1 =>
  z_b (gO h x1 2) fun u2 =>
  z_b (f_Cur_refuse N x1 0 h) fun r3 =>
  z_b (zB (r3.1)) fun x4 =>
  some (x4, r3.2)
set_option maxRecDepth 20000 in
set_option maxHeartbeats 2000000 in
theorem s_Pa_placeLabel_20 (X : z_X p s m args meth c prog_8_method_14_code 2 (some .boolean) Ts "StreamForge$Parser" D dA B) {N : Nat} {r : Int32} {h' : z_H}   : ∀ (v0 : Nat) (h : z_H) (H : Heap) (locs : List Loc) (ls : Array Slot), z_I D dA B h s.heap H locs → lv_has ls 2 [(0, .ref v0)] → f_Pa_placeLabel_20 N  v0 h = some (r, h') → W p l e (z_rm 1 22) s m args below meth c H locs 0 0 (MQ below (z_Q D dA B (some (.int r)) h') args s 0 0 (fun q => B ≤ q)) (F0 m 20 ls []) := by
  have hx := z_hx X
  have hb := z_hb X
  intro v0 h H locs ls hI hl hf
  unfold f_Pa_placeLabel_20 at hf
  refine lv_aload_n hx hb d_Pa_placeLabel_20 rfl (lv_at hl 0 rfl) ?_
  obtain ⟨x1, ex1, hf⟩ := z_bs hf
  refine z_getF X hI (k := 0) (ci := 6) (gR_s ex1) i_Pa rfl (by decide) wf_Pa_12 d_Pa_placeLabel_21 ?_
  refine lv_iconst (v := 0) hx hb d_Pa_placeLabel_24 (by decide) ?_
  obtain ⟨u2, eu2, hf⟩ := z_bs hf
  obtain ⟨r3, er3, hf⟩ := z_bs hf
  refine z_callV (As := [.int 0]) (rest := []) (r := (some (.int r3.1))) (h' := r3.2) X hI eu2 (s_Cur_refuse er3) rfl rfl wm_Pa_68 yi_Cur_refuse rfl hl.1 rfl (Nat.le_of_ble_eq_true rfl) (by decide) (by decide) d_Pa_placeLabel_25 (fun H locs hI => ?_)
  refine W.eq (g2 := F0 m 28 ls [.int (r3.1)]) rfl ?_
  obtain ⟨x4, ex4, hf⟩ := z_bs hf
  refine z_topi (zB_s ex4).1 ?_
  cases hf
  exact z_zret X hI (zB_s2 ex4) d_Pa_placeLabel_28
def f_Pa_placeLabel_71 (N : Nat)  (v0 : Nat) (h : z_H) : Option (Int32 × z_H) :=
  z_b (gR h v0 6 0) fun x1 =>
  z_b (gO h x1 2) fun u2 =>
  z_b (f_Cur_refuse N x1 0 h) fun r3 =>
  z_b (zB (r3.1)) fun x4 =>
  some (x4, r3.2)
set_option maxRecDepth 20000 in
set_option maxHeartbeats 2000000 in
theorem s_Pa_placeLabel_71 (X : z_X p s m args meth c prog_8_method_14_code 2 (some .boolean) Ts "StreamForge$Parser" D dA B) {N : Nat} {r : Int32} {h' : z_H}   : ∀ (v0 : Nat) (h : z_H) (H : Heap) (locs : List Loc) (ls : Array Slot), z_I D dA B h s.heap H locs → lv_has ls 2 [(0, .ref v0)] → f_Pa_placeLabel_71 N  v0 h = some (r, h') → W p l e (z_rm 1 22) s m args below meth c H locs 0 0 (MQ below (z_Q D dA B (some (.int r)) h') args s 0 0 (fun q => B ≤ q)) (F0 m 71 ls []) := by
  have hx := z_hx X
  have hb := z_hb X
  intro v0 h H locs ls hI hl hf
  unfold f_Pa_placeLabel_71 at hf
  refine lv_aload_n hx hb d_Pa_placeLabel_71 rfl (lv_at hl 0 rfl) ?_
  obtain ⟨x1, ex1, hf⟩ := z_bs hf
  refine z_getF X hI (k := 0) (ci := 6) (gR_s ex1) i_Pa rfl (by decide) wf_Pa_12 d_Pa_placeLabel_72 ?_
  refine lv_iconst (v := 0) hx hb d_Pa_placeLabel_75 (by decide) ?_
  obtain ⟨u2, eu2, hf⟩ := z_bs hf
  obtain ⟨r3, er3, hf⟩ := z_bs hf
  refine z_callV (As := [.int 0]) (rest := []) (r := (some (.int r3.1))) (h' := r3.2) X hI eu2 (s_Cur_refuse er3) rfl rfl wm_Pa_68 yi_Cur_refuse rfl hl.1 rfl (Nat.le_of_ble_eq_true rfl) (by decide) (by decide) d_Pa_placeLabel_76 (fun H locs hI => ?_)
  refine W.eq (g2 := F0 m 79 ls [.int (r3.1)]) rfl ?_
  obtain ⟨x4, ex4, hf⟩ := z_bs hf
  refine z_topi (zB_s ex4).1 ?_
  cases hf
  exact z_zret X hI (zB_s2 ex4) d_Pa_placeLabel_79
def f_Pa_placeLabel (N : Nat) (v0 : Nat) (h : z_H) : Option (Int32 × z_H) :=
  z_b (gR h v0 6 6) fun x1 =>
  z_b (gI h x1 1 5) fun x2 =>
  if 0 < x2 then
  (f_Pa_placeLabel_20 N v0 h)
  else
  (z_b (gR h v0 6 6) fun x4 =>
  z_b (gI h x4 1 6) fun x5 =>
  if x5 = 0 then
  (z_b (gR h v0 6 0) fun x7 =>
  z_b (gI h x7 2 1) fun x8 =>
  z_b (sF h x7 2 1 (.int (x8 + 1))) fun h9 =>
  z_b (gR h9 v0 6 0) fun x10 =>
  z_b (gO h9 x10 2) fun u11 =>
  z_b (f_Cur_look N x10 0 h9) fun r12 =>
  z_b (some (r12.1)) fun x13 =>
  z_b (f_Pa_isLetter N x13 r12.2) fun r14 =>
  if (r14.1) = 0 then
  (f_Pa_placeLabel_71 N v0 r14.2)
  else
  (z_b (gR r14.2 v0 6 3) fun x16 =>
  z_b (aI r14.2 x16 0 (x13 - 97)) fun x17 =>
  if x17 = (-1) then
  (z_b (gR r14.2 v0 6 3) fun x19 =>
  z_b (gR r14.2 v0 6 5) fun x20 =>
  z_b (gI r14.2 x20 9 3) fun x21 =>
  z_b (uI r14.2 x19 0 (x13 - 97) x21) fun h22 =>
  z_b (gR h22 v0 6 0) fun x23 =>
  z_b (gI h22 x23 2 1) fun x24 =>
  z_b (sF h22 x23 2 1 (.int (x24 + 1))) fun h25 =>
  some (1, h25))
  else
  (f_Pa_placeLabel_71 N v0 r14.2)))
  else
  (f_Pa_placeLabel_20 N v0 h))
set_option maxRecDepth 20000 in
set_option maxHeartbeats 2000000 in
theorem s_Pa_placeLabel {l : Launch} {D : va_G} {dA : Nat → ClassId} {B N : Nat} {v0 : Nat} {h h' : z_H} {r : Int32} (hf : f_Pa_placeLabel N v0 h = some (r, h')) : z_Met l y_Pa_placeLabel prog_8_method_14_code 2 (some .boolean) 1 22 D dA B [.ref v0] h (some (.int r)) h' := by
  refine z_of (by decide) (Nat.le_of_ble_eq_true rfl) (fun p e s m below meth c ls X hI hl => ?_)
  have hx := z_hx X
  have hb := z_hb X
  have hl : lv_has ls 2 [(0, .ref v0)] := hl
  unfold f_Pa_placeLabel at hf
  obtain ⟨locs, hlo⟩ : ∃ z : List Loc, z = [] := ⟨_, rfl⟩
  rw [← hlo] at hI ⊢
  refine lv_aload_n hx hb d_Pa_placeLabel_0 rfl (lv_at hl 0 rfl) ?_
  obtain ⟨x1, ex1, hf⟩ := z_bs hf
  refine z_getF X hI (k := 6) (ci := 6) (gR_s ex1) i_Pa rfl (by decide) wf_Pa_114 d_Pa_placeLabel_1 ?_
  obtain ⟨x2, ex2, hf⟩ := z_bs hf
  refine z_getF X hI (k := 5) (ci := 1) (gI_s ex2) i_Cmd rfl (by decide) wf_Pa_132 d_Pa_placeLabel_4 ?_
  refine lv_if_gt (tgt := 20) hx hb d_Pa_placeLabel_7 (by decide) (fun c3 => ?_) (fun c3 => ?_)
  · rw [if_pos c3] at hf
    exact s_Pa_placeLabel_20 X  v0 h _ _ _ hI (lv_sub hl [0] rfl) hf
  · rw [if_neg c3] at hf
    refine lv_aload_n hx hb d_Pa_placeLabel_10 rfl (lv_at hl 0 rfl) ?_
    obtain ⟨x4, ex4, hf⟩ := z_bs hf
    refine z_getF X hI (k := 6) (ci := 6) (gR_s ex4) i_Pa rfl (by decide) wf_Pa_114 d_Pa_placeLabel_11 ?_
    obtain ⟨x5, ex5, hf⟩ := z_bs hf
    refine z_getF X hI (k := 6) (ci := 1) (gI_s ex5) i_Cmd rfl (by decide) wf_Pa_141 d_Pa_placeLabel_14 ?_
    refine lv_if_eq (tgt := 29) hx hb d_Pa_placeLabel_17 (by decide) (fun c6 => ?_) (fun c6 => ?_)
    · rw [if_pos c6] at hf
      refine lv_aload_n hx hb d_Pa_placeLabel_29 rfl (lv_at hl 0 rfl) ?_
      obtain ⟨x7, ex7, hf⟩ := z_bs hf
      refine z_getF X hI (k := 0) (ci := 6) (gR_s ex7) i_Pa rfl (by decide) wf_Pa_12 d_Pa_placeLabel_30 ?_
      refine lv_dup hx hb d_Pa_placeLabel_33 rfl ?_
      obtain ⟨x8, ex8, hf⟩ := z_bs hf
      refine z_getF X hI (k := 1) (ci := 2) (gI_s ex8) i_Cur rfl (by decide) wf_Pa_46 d_Pa_placeLabel_34 ?_
      refine lv_iconst (v := 1) hx hb d_Pa_placeLabel_37 (by decide) ?_
      refine lv_iadd hx hb d_Pa_placeLabel_38 ?_
      obtain ⟨h9, eh9, hf⟩ := z_bs hf
      refine z_putF X hI (k := 1) (ci := 2) (ty0 := t_Cur) eh9 i_Cur t_Cur_ok n_Cur rfl (by decide) wf_Pa_46 rfl rfl rfl d_Pa_placeLabel_39 (fun H locs hI => ?_)
      refine lv_aload_n hx hb d_Pa_placeLabel_42 rfl (lv_at hl 0 rfl) ?_
      obtain ⟨x10, ex10, hf⟩ := z_bs hf
      refine z_getF X hI (k := 0) (ci := 6) (gR_s ex10) i_Pa rfl (by decide) wf_Pa_12 d_Pa_placeLabel_43 ?_
      refine lv_iconst (v := 0) hx hb d_Pa_placeLabel_46 (by decide) ?_
      obtain ⟨u11, eu11, hf⟩ := z_bs hf
      obtain ⟨r12, er12, hf⟩ := z_bs hf
      refine z_callV (As := [.int 0]) (rest := []) (r := (some (.int r12.1))) (h' := r12.2) X hI eu11 (s_Cur_look er12) rfl rfl wm_Pa_42 yi_Cur_look rfl hl.1 rfl (Nat.le_of_ble_eq_true rfl) (by decide) (by decide) d_Pa_placeLabel_47 (fun H locs hI => ?_)
      refine W.eq (g2 := F0 m 50 ls [.int (r12.1)]) rfl ?_
      obtain ⟨x13, ex13, hf⟩ := z_bs hf
      refine z_topi (Option.some.inj ex13) ?_
      refine lv_istore_n (lv' := [(1, .int x13), (0, .ref v0)]) hx hb d_Pa_placeLabel_50 rfl hl (by decide) rfl (fun ls hl => ?_)
      refine lv_iload_n hx hb d_Pa_placeLabel_51 rfl (lv_at hl 0 rfl) ?_
      obtain ⟨r14, er14, hf⟩ := z_bs hf
      refine z_callS (As := [.int x13]) (rest := []) (r := (some (.int r14.1))) (h' := r14.2) X hI (s_Pa_isLetter er14) rfl wm_Pa_184 yi_Pa_isLetter rfl hl.1 rfl (Nat.le_of_ble_eq_true rfl) (by decide) (by decide) d_Pa_placeLabel_52 (fun H locs hI => ?_)
      refine W.eq (g2 := F0 m 55 ls [.int (r14.1)]) rfl ?_
      refine lv_if_eq (tgt := 71) hx hb d_Pa_placeLabel_55 (by decide) (fun c15 => ?_) (fun c15 => ?_)
      · rw [if_pos c15] at hf
        exact s_Pa_placeLabel_71 X  v0 r14.2 _ _ _ hI (lv_sub hl [1] rfl) hf
      · rw [if_neg c15] at hf
        refine lv_aload_n hx hb d_Pa_placeLabel_58 rfl (lv_at hl 1 rfl) ?_
        obtain ⟨x16, ex16, hf⟩ := z_bs hf
        refine z_getF X hI (k := 3) (ci := 6) (gR_s ex16) i_Pa rfl (by decide) wf_Pa_31 d_Pa_placeLabel_59 ?_
        refine lv_iload_n hx hb d_Pa_placeLabel_62 rfl (lv_at hl 0 rfl) ?_
        refine lv_bipush (v := 97) hx hb d_Pa_placeLabel_63 (by decide) ?_
        refine lv_isub hx hb d_Pa_placeLabel_65 ?_
        obtain ⟨x17, ex17, hf⟩ := z_bs hf
        refine z_iald X hI ex17 d_Pa_placeLabel_66 ?_
        refine lv_iconst (v := (-1)) hx hb d_Pa_placeLabel_67 (by decide) ?_
        refine lv_icmp_eq (tgt := 80) hx hb d_Pa_placeLabel_68 (by decide) (fun c18 => ?_) (fun c18 => ?_)
        · rw [if_pos c18] at hf
          refine lv_aload_n hx hb d_Pa_placeLabel_80 rfl (lv_at hl 1 rfl) ?_
          obtain ⟨x19, ex19, hf⟩ := z_bs hf
          refine z_getF X hI (k := 3) (ci := 6) (gR_s ex19) i_Pa rfl (by decide) wf_Pa_31 d_Pa_placeLabel_81 ?_
          refine lv_iload_n hx hb d_Pa_placeLabel_84 rfl (lv_at hl 0 rfl) ?_
          refine lv_bipush (v := 97) hx hb d_Pa_placeLabel_85 (by decide) ?_
          refine lv_isub hx hb d_Pa_placeLabel_87 ?_
          refine lv_aload_n hx hb d_Pa_placeLabel_88 rfl (lv_at hl 1 rfl) ?_
          obtain ⟨x20, ex20, hf⟩ := z_bs hf
          refine z_getF X hI (k := 5) (ci := 6) (gR_s ex20) i_Pa rfl (by decide) wf_Pa_72 d_Pa_placeLabel_89 ?_
          obtain ⟨x21, ex21, hf⟩ := z_bs hf
          refine z_getF X hI (k := 3) (ci := 9) (gI_s ex21) i_Prog rfl (by decide) wf_Pa_103 d_Pa_placeLabel_92 ?_
          obtain ⟨h22, eh22, hf⟩ := z_bs hf
          refine z_iast X hI eh22 d_Pa_placeLabel_95 (fun H locs hI => ?_)
          refine lv_aload_n hx hb d_Pa_placeLabel_96 rfl (lv_at hl 1 rfl) ?_
          obtain ⟨x23, ex23, hf⟩ := z_bs hf
          refine z_getF X hI (k := 0) (ci := 6) (gR_s ex23) i_Pa rfl (by decide) wf_Pa_12 d_Pa_placeLabel_97 ?_
          refine lv_dup hx hb d_Pa_placeLabel_100 rfl ?_
          obtain ⟨x24, ex24, hf⟩ := z_bs hf
          refine z_getF X hI (k := 1) (ci := 2) (gI_s ex24) i_Cur rfl (by decide) wf_Pa_46 d_Pa_placeLabel_101 ?_
          refine lv_iconst (v := 1) hx hb d_Pa_placeLabel_104 (by decide) ?_
          refine lv_iadd hx hb d_Pa_placeLabel_105 ?_
          obtain ⟨h25, eh25, hf⟩ := z_bs hf
          refine z_putF X hI (k := 1) (ci := 2) (ty0 := t_Cur) eh25 i_Cur t_Cur_ok n_Cur rfl (by decide) wf_Pa_46 rfl rfl rfl d_Pa_placeLabel_106 (fun H locs hI => ?_)
          refine lv_iconst (v := 1) hx hb d_Pa_placeLabel_109 (by decide) ?_
          cases hf
          exact z_zret X hI (Or.inr rfl) d_Pa_placeLabel_110
        · rw [if_neg c18] at hf
          exact s_Pa_placeLabel_71 X  v0 r14.2 _ _ _ hI (lv_sub hl [1] rfl) hf
    · rw [if_neg c6] at hf
      exact s_Pa_placeLabel_20 X  v0 h _ _ _ hI (lv_sub hl [0] rfl) hf
def f_Pa_endCommand (N : Nat) (v0 : Nat) (h : z_H) : Option (Int32 × z_H) :=
  z_b (gR h v0 6 0) fun x1 =>
  z_b (gO h x1 2) fun u2 =>
  z_b (f_Cur_look N x1 0 h) fun r3 =>
  z_b (some (r3.1)) fun x4 =>
  if x4 = (-1) then
  (some (1, r3.2))
  else
  (if x4 = 32 then
  (some (1, r3.2))
  else
  (if x4 = 10 then
  (some (1, r3.2))
  else
  (if x4 = 59 then
  (some (1, r3.2))
  else
  (if x4 = 125 then
  (some (1, r3.2))
  else
  (z_b (gR r3.2 v0 6 0) fun x10 =>
  z_b (gO r3.2 x10 2) fun u11 =>
  z_b (f_Cur_refuse N x10 0 r3.2) fun r12 =>
  z_b (zB (r12.1)) fun x13 =>
  some (x13, r12.2))))))
set_option maxRecDepth 20000 in
set_option maxHeartbeats 2000000 in
theorem s_Pa_endCommand {l : Launch} {D : va_G} {dA : Nat → ClassId} {B N : Nat} {v0 : Nat} {h h' : z_H} {r : Int32} (hf : f_Pa_endCommand N v0 h = some (r, h')) : z_Met l y_Pa_endCommand prog_8_method_12_code 2 (some .boolean) 1 22 D dA B [.ref v0] h (some (.int r)) h' := by
  refine z_of (by decide) (Nat.le_of_ble_eq_true rfl) (fun p e s m below meth c ls X hI hl => ?_)
  have hx := z_hx X
  have hb := z_hb X
  have hl : lv_has ls 2 [(0, .ref v0)] := hl
  unfold f_Pa_endCommand at hf
  obtain ⟨locs, hlo⟩ : ∃ z : List Loc, z = [] := ⟨_, rfl⟩
  rw [← hlo] at hI ⊢
  refine lv_aload_n hx hb d_Pa_endCommand_0 rfl (lv_at hl 0 rfl) ?_
  obtain ⟨x1, ex1, hf⟩ := z_bs hf
  refine z_getF X hI (k := 0) (ci := 6) (gR_s ex1) i_Pa rfl (by decide) wf_Pa_12 d_Pa_endCommand_1 ?_
  refine lv_iconst (v := 0) hx hb d_Pa_endCommand_4 (by decide) ?_
  obtain ⟨u2, eu2, hf⟩ := z_bs hf
  obtain ⟨r3, er3, hf⟩ := z_bs hf
  refine z_callV (As := [.int 0]) (rest := []) (r := (some (.int r3.1))) (h' := r3.2) X hI eu2 (s_Cur_look er3) rfl rfl wm_Pa_42 yi_Cur_look rfl hl.1 rfl (Nat.le_of_ble_eq_true rfl) (by decide) (by decide) d_Pa_endCommand_5 (fun H locs hI => ?_)
  refine W.eq (g2 := F0 m 8 ls [.int (r3.1)]) rfl ?_
  obtain ⟨x4, ex4, hf⟩ := z_bs hf
  refine z_topi (Option.some.inj ex4) ?_
  refine lv_istore_n (lv' := [(1, .int x4), (0, .ref v0)]) hx hb d_Pa_endCommand_8 rfl hl (by decide) rfl (fun ls hl => ?_)
  refine lv_iload_n hx hb d_Pa_endCommand_9 rfl (lv_at hl 0 rfl) ?_
  refine lv_iconst (v := (-1)) hx hb d_Pa_endCommand_10 (by decide) ?_
  refine lv_icmp_eq (tgt := 38) hx hb d_Pa_endCommand_11 (by decide) (fun c5 => ?_) (fun c5 => ?_)
  · rw [if_pos c5] at hf
    refine lv_iconst (v := 1) hx hb d_Pa_endCommand_38 (by decide) ?_
    cases hf
    exact z_zret X hI (Or.inr rfl) d_Pa_endCommand_39
  · rw [if_neg c5] at hf
    refine lv_iload_n hx hb d_Pa_endCommand_14 rfl (lv_at hl 0 rfl) ?_
    refine lv_bipush (v := 32) hx hb d_Pa_endCommand_15 (by decide) ?_
    refine lv_icmp_eq (tgt := 38) hx hb d_Pa_endCommand_17 (by decide) (fun c6 => ?_) (fun c6 => ?_)
    · rw [if_pos c6] at hf
      refine lv_iconst (v := 1) hx hb d_Pa_endCommand_38 (by decide) ?_
      cases hf
      exact z_zret X hI (Or.inr rfl) d_Pa_endCommand_39
    · rw [if_neg c6] at hf
      refine lv_iload_n hx hb d_Pa_endCommand_20 rfl (lv_at hl 0 rfl) ?_
      refine lv_bipush (v := 10) hx hb d_Pa_endCommand_21 (by decide) ?_
      refine lv_icmp_eq (tgt := 38) hx hb d_Pa_endCommand_23 (by decide) (fun c7 => ?_) (fun c7 => ?_)
      · rw [if_pos c7] at hf
        refine lv_iconst (v := 1) hx hb d_Pa_endCommand_38 (by decide) ?_
        cases hf
        exact z_zret X hI (Or.inr rfl) d_Pa_endCommand_39
      · rw [if_neg c7] at hf
        refine lv_iload_n hx hb d_Pa_endCommand_26 rfl (lv_at hl 0 rfl) ?_
        refine lv_bipush (v := 59) hx hb d_Pa_endCommand_27 (by decide) ?_
        refine lv_icmp_eq (tgt := 38) hx hb d_Pa_endCommand_29 (by decide) (fun c8 => ?_) (fun c8 => ?_)
        · rw [if_pos c8] at hf
          refine lv_iconst (v := 1) hx hb d_Pa_endCommand_38 (by decide) ?_
          cases hf
          exact z_zret X hI (Or.inr rfl) d_Pa_endCommand_39
        · rw [if_neg c8] at hf
          refine lv_iload_n hx hb d_Pa_endCommand_32 rfl (lv_at hl 0 rfl) ?_
          refine lv_bipush (v := 125) hx hb d_Pa_endCommand_33 (by decide) ?_
          refine lv_icmp_ne (tgt := 40) hx hb d_Pa_endCommand_35 (by decide) (fun c9 => ?_) (fun c9 => ?_)
          · rw [if_neg c9] at hf
            refine lv_aload_n hx hb d_Pa_endCommand_40 rfl (lv_at hl 1 rfl) ?_
            obtain ⟨x10, ex10, hf⟩ := z_bs hf
            refine z_getF X hI (k := 0) (ci := 6) (gR_s ex10) i_Pa rfl (by decide) wf_Pa_12 d_Pa_endCommand_41 ?_
            refine lv_iconst (v := 0) hx hb d_Pa_endCommand_44 (by decide) ?_
            obtain ⟨u11, eu11, hf⟩ := z_bs hf
            obtain ⟨r12, er12, hf⟩ := z_bs hf
            refine z_callV (As := [.int 0]) (rest := []) (r := (some (.int r12.1))) (h' := r12.2) X hI eu11 (s_Cur_refuse er12) rfl rfl wm_Pa_68 yi_Cur_refuse rfl hl.1 rfl (Nat.le_of_ble_eq_true rfl) (by decide) (by decide) d_Pa_endCommand_45 (fun H locs hI => ?_)
            refine W.eq (g2 := F0 m 48 ls [.int (r12.1)]) rfl ?_
            obtain ⟨x13, ex13, hf⟩ := z_bs hf
            refine z_topi (zB_s ex13).1 ?_
            cases hf
            exact z_zret X hI (zB_s2 ex13) d_Pa_endCommand_48
          · rw [if_pos c9] at hf
            refine lv_iconst (v := 1) hx hb d_Pa_endCommand_38 (by decide) ?_
            cases hf
            exact z_zret X hI (Or.inr rfl) d_Pa_endCommand_39
def f_Pa_readBranch (N : Nat) (v0 : Nat) (h : z_H) : Option (Int32 × z_H) :=
  z_b (gR h v0 6 0) fun x1 =>
  z_b (gI h x1 2 1) fun x2 =>
  z_b (sF h x1 2 1 (.int (x2 + 1))) fun h3 =>
  z_b (gR h3 v0 6 0) fun x4 =>
  z_b (gO h3 x4 2) fun u5 =>
  z_b (f_Cur_look N x4 0 h3) fun r6 =>
  z_b (some (r6.1)) fun x7 =>
  z_b (f_Pa_isLetter N x7 r6.2) fun r8 =>
  if (r8.1) = 0 then
  (some (1, r8.2))
  else
  (z_b (gR r8.2 v0 6 6) fun x10 =>
  z_b (sF r8.2 x10 1 8 (.int (x7 - 97))) fun h11 =>
  z_b (gR h11 v0 6 0) fun x12 =>
  z_b (gI h11 x12 2 1) fun x13 =>
  z_b (sF h11 x12 2 1 (.int (x13 + 1))) fun h14 =>
  some (1, h14))
set_option maxRecDepth 20000 in
set_option maxHeartbeats 2000000 in
theorem s_Pa_readBranch {l : Launch} {D : va_G} {dA : Nat → ClassId} {B N : Nat} {v0 : Nat} {h h' : z_H} {r : Int32} (hf : f_Pa_readBranch N v0 h = some (r, h')) : z_Met l y_Pa_readBranch prog_8_method_15_code 2 (some .boolean) 1 22 D dA B [.ref v0] h (some (.int r)) h' := by
  refine z_of (by decide) (Nat.le_of_ble_eq_true rfl) (fun p e s m below meth c ls X hI hl => ?_)
  have hx := z_hx X
  have hb := z_hb X
  have hl : lv_has ls 2 [(0, .ref v0)] := hl
  unfold f_Pa_readBranch at hf
  obtain ⟨locs, hlo⟩ : ∃ z : List Loc, z = [] := ⟨_, rfl⟩
  rw [← hlo] at hI ⊢
  refine lv_aload_n hx hb d_Pa_readBranch_0 rfl (lv_at hl 0 rfl) ?_
  obtain ⟨x1, ex1, hf⟩ := z_bs hf
  refine z_getF X hI (k := 0) (ci := 6) (gR_s ex1) i_Pa rfl (by decide) wf_Pa_12 d_Pa_readBranch_1 ?_
  refine lv_dup hx hb d_Pa_readBranch_4 rfl ?_
  obtain ⟨x2, ex2, hf⟩ := z_bs hf
  refine z_getF X hI (k := 1) (ci := 2) (gI_s ex2) i_Cur rfl (by decide) wf_Pa_46 d_Pa_readBranch_5 ?_
  refine lv_iconst (v := 1) hx hb d_Pa_readBranch_8 (by decide) ?_
  refine lv_iadd hx hb d_Pa_readBranch_9 ?_
  obtain ⟨h3, eh3, hf⟩ := z_bs hf
  refine z_putF X hI (k := 1) (ci := 2) (ty0 := t_Cur) eh3 i_Cur t_Cur_ok n_Cur rfl (by decide) wf_Pa_46 rfl rfl rfl d_Pa_readBranch_10 (fun H locs hI => ?_)
  refine lv_aload_n hx hb d_Pa_readBranch_13 rfl (lv_at hl 0 rfl) ?_
  obtain ⟨x4, ex4, hf⟩ := z_bs hf
  refine z_getF X hI (k := 0) (ci := 6) (gR_s ex4) i_Pa rfl (by decide) wf_Pa_12 d_Pa_readBranch_14 ?_
  refine lv_iconst (v := 0) hx hb d_Pa_readBranch_17 (by decide) ?_
  obtain ⟨u5, eu5, hf⟩ := z_bs hf
  obtain ⟨r6, er6, hf⟩ := z_bs hf
  refine z_callV (As := [.int 0]) (rest := []) (r := (some (.int r6.1))) (h' := r6.2) X hI eu5 (s_Cur_look er6) rfl rfl wm_Pa_42 yi_Cur_look rfl hl.1 rfl (Nat.le_of_ble_eq_true rfl) (by decide) (by decide) d_Pa_readBranch_18 (fun H locs hI => ?_)
  refine W.eq (g2 := F0 m 21 ls [.int (r6.1)]) rfl ?_
  obtain ⟨x7, ex7, hf⟩ := z_bs hf
  refine z_topi (Option.some.inj ex7) ?_
  refine lv_istore_n (lv' := [(1, .int x7), (0, .ref v0)]) hx hb d_Pa_readBranch_21 rfl hl (by decide) rfl (fun ls hl => ?_)
  refine lv_iload_n hx hb d_Pa_readBranch_22 rfl (lv_at hl 0 rfl) ?_
  obtain ⟨r8, er8, hf⟩ := z_bs hf
  refine z_callS (As := [.int x7]) (rest := []) (r := (some (.int r8.1))) (h' := r8.2) X hI (s_Pa_isLetter er8) rfl wm_Pa_184 yi_Pa_isLetter rfl hl.1 rfl (Nat.le_of_ble_eq_true rfl) (by decide) (by decide) d_Pa_readBranch_23 (fun H locs hI => ?_)
  refine W.eq (g2 := F0 m 26 ls [.int (r8.1)]) rfl ?_
  refine lv_if_eq (tgt := 53) hx hb d_Pa_readBranch_26 (by decide) (fun c9 => ?_) (fun c9 => ?_)
  · rw [if_pos c9] at hf
    refine lv_iconst (v := 1) hx hb d_Pa_readBranch_53 (by decide) ?_
    cases hf
    exact z_zret X hI (Or.inr rfl) d_Pa_readBranch_54
  · rw [if_neg c9] at hf
    refine lv_aload_n hx hb d_Pa_readBranch_29 rfl (lv_at hl 1 rfl) ?_
    obtain ⟨x10, ex10, hf⟩ := z_bs hf
    refine z_getF X hI (k := 6) (ci := 6) (gR_s ex10) i_Pa rfl (by decide) wf_Pa_114 d_Pa_readBranch_30 ?_
    refine lv_iload_n hx hb d_Pa_readBranch_33 rfl (lv_at hl 0 rfl) ?_
    refine lv_bipush (v := 97) hx hb d_Pa_readBranch_34 (by decide) ?_
    refine lv_isub hx hb d_Pa_readBranch_36 ?_
    obtain ⟨h11, eh11, hf⟩ := z_bs hf
    refine z_putF X hI (k := 8) (ci := 1) (ty0 := t_Cmd) eh11 i_Cmd t_Cmd_ok n_Cmd rfl (by decide) wf_Pa_187 rfl rfl rfl d_Pa_readBranch_37 (fun H locs hI => ?_)
    refine lv_aload_n hx hb d_Pa_readBranch_40 rfl (lv_at hl 1 rfl) ?_
    obtain ⟨x12, ex12, hf⟩ := z_bs hf
    refine z_getF X hI (k := 0) (ci := 6) (gR_s ex12) i_Pa rfl (by decide) wf_Pa_12 d_Pa_readBranch_41 ?_
    refine lv_dup hx hb d_Pa_readBranch_44 rfl ?_
    obtain ⟨x13, ex13, hf⟩ := z_bs hf
    refine z_getF X hI (k := 1) (ci := 2) (gI_s ex13) i_Cur rfl (by decide) wf_Pa_46 d_Pa_readBranch_45 ?_
    refine lv_iconst (v := 1) hx hb d_Pa_readBranch_48 (by decide) ?_
    refine lv_iadd hx hb d_Pa_readBranch_49 ?_
    obtain ⟨h14, eh14, hf⟩ := z_bs hf
    refine z_putF X hI (k := 1) (ci := 2) (ty0 := t_Cur) eh14 i_Cur t_Cur_ok n_Cur rfl (by decide) wf_Pa_46 rfl rfl rfl d_Pa_readBranch_50 (fun H locs hI => ?_)
    refine lv_iconst (v := 1) hx hb d_Pa_readBranch_53 (by decide) ?_
    cases hf
    exact z_zret X hI (Or.inr rfl) d_Pa_readBranch_54
def f_Pa_mayFollowBackslash_28 (N : Nat)  (v1 : Int32) (s0 : Int32) (h : z_H) : Option (Int32 × z_H) :=
  if s0 = 0 then
  (if v1 = 38 then
  (some (1, h))
  else
  (if v1 = 47 then
  (some (1, h))
  else
  (if v1 = 92 then
  (some (1, h))
  else
  (if v1 = 110 then
  (some (1, h))
  else
  (some (0, h))))))
  else
  (some (1, h))
set_option maxRecDepth 20000 in
set_option maxHeartbeats 2000000 in
theorem s_Pa_mayFollowBackslash_28 (X : z_X p s m args meth c prog_8_method_20_code 3 (some .boolean) Ts "StreamForge$Parser" D dA B) {N : Nat} {r : Int32} {h' : z_H}   : ∀ (v1 : Int32) (s0 : Int32) (h : z_H) (H : Heap) (locs : List Loc) (ls : Array Slot), z_I D dA B h s.heap H locs → lv_has ls 3 [(1, .int v1)] → f_Pa_mayFollowBackslash_28 N  v1 s0 h = some (r, h') → W p l e (z_rm 0 0) s m args below meth c H locs 0 0 (MQ below (z_Q D dA B (some (.int r)) h') args s 0 0 (fun q => B ≤ q)) (F0 m 28 ls [.int s0]) := by
  have hx := z_hx X
  have hb := z_hb X
  intro v1 s0 h H locs ls hI hl hf
  unfold f_Pa_mayFollowBackslash_28 at hf
  refine lv_istore_n (lv' := [(2, .int s0), (1, .int v1)]) hx hb d_Pa_mayFollowBackslash_28 rfl hl (by decide) rfl (fun ls hl => ?_)
  refine lv_iload_n hx hb d_Pa_mayFollowBackslash_29 rfl (lv_at hl 0 rfl) ?_
  refine lv_if_ne (tgt := 57) hx hb d_Pa_mayFollowBackslash_30 (by decide) (fun c1 => ?_) (fun c1 => ?_)
  · rw [if_neg c1] at hf
    refine lv_iconst (v := 1) hx hb d_Pa_mayFollowBackslash_57 (by decide) ?_
    refine lv_goto (tgt := 62) hx hb d_Pa_mayFollowBackslash_58 (by decide) ?_
    cases hf
    exact z_zret X hI (Or.inr rfl) d_Pa_mayFollowBackslash_62
  · rw [if_pos c1] at hf
    refine lv_iload_n hx hb d_Pa_mayFollowBackslash_33 rfl (lv_at hl 1 rfl) ?_
    refine lv_bipush (v := 38) hx hb d_Pa_mayFollowBackslash_34 (by decide) ?_
    refine lv_icmp_eq (tgt := 57) hx hb d_Pa_mayFollowBackslash_36 (by decide) (fun c2 => ?_) (fun c2 => ?_)
    · rw [if_pos c2] at hf
      refine lv_iconst (v := 1) hx hb d_Pa_mayFollowBackslash_57 (by decide) ?_
      refine lv_goto (tgt := 62) hx hb d_Pa_mayFollowBackslash_58 (by decide) ?_
      cases hf
      exact z_zret X hI (Or.inr rfl) d_Pa_mayFollowBackslash_62
    · rw [if_neg c2] at hf
      refine lv_iload_n hx hb d_Pa_mayFollowBackslash_39 rfl (lv_at hl 1 rfl) ?_
      refine lv_bipush (v := 47) hx hb d_Pa_mayFollowBackslash_40 (by decide) ?_
      refine lv_icmp_eq (tgt := 57) hx hb d_Pa_mayFollowBackslash_42 (by decide) (fun c3 => ?_) (fun c3 => ?_)
      · rw [if_pos c3] at hf
        refine lv_iconst (v := 1) hx hb d_Pa_mayFollowBackslash_57 (by decide) ?_
        refine lv_goto (tgt := 62) hx hb d_Pa_mayFollowBackslash_58 (by decide) ?_
        cases hf
        exact z_zret X hI (Or.inr rfl) d_Pa_mayFollowBackslash_62
      · rw [if_neg c3] at hf
        refine lv_iload_n hx hb d_Pa_mayFollowBackslash_45 rfl (lv_at hl 1 rfl) ?_
        refine lv_bipush (v := 92) hx hb d_Pa_mayFollowBackslash_46 (by decide) ?_
        refine lv_icmp_eq (tgt := 57) hx hb d_Pa_mayFollowBackslash_48 (by decide) (fun c4 => ?_) (fun c4 => ?_)
        · rw [if_pos c4] at hf
          refine lv_iconst (v := 1) hx hb d_Pa_mayFollowBackslash_57 (by decide) ?_
          refine lv_goto (tgt := 62) hx hb d_Pa_mayFollowBackslash_58 (by decide) ?_
          cases hf
          exact z_zret X hI (Or.inr rfl) d_Pa_mayFollowBackslash_62
        · rw [if_neg c4] at hf
          refine lv_iload_n hx hb d_Pa_mayFollowBackslash_51 rfl (lv_at hl 1 rfl) ?_
          refine lv_bipush (v := 110) hx hb d_Pa_mayFollowBackslash_52 (by decide) ?_
          refine lv_icmp_ne (tgt := 61) hx hb d_Pa_mayFollowBackslash_54 (by decide) (fun c5 => ?_) (fun c5 => ?_)
          · rw [if_neg c5] at hf
            refine lv_iconst (v := 0) hx hb d_Pa_mayFollowBackslash_61 (by decide) ?_
            cases hf
            exact z_zret X hI (Or.inl rfl) d_Pa_mayFollowBackslash_62
          · rw [if_pos c5] at hf
            refine lv_iconst (v := 1) hx hb d_Pa_mayFollowBackslash_57 (by decide) ?_
            refine lv_goto (tgt := 62) hx hb d_Pa_mayFollowBackslash_58 (by decide) ?_
            cases hf
            exact z_zret X hI (Or.inr rfl) d_Pa_mayFollowBackslash_62
def f_Pa_mayFollowBackslash (N : Nat) (v0 : Nat) (v1 : Int32) (h : z_H) : Option (Int32 × z_H) :=
  if v1 < 49 then
  (f_Pa_mayFollowBackslash_28 N v1 0 h)
  else
  (z_b (gR h v0 6 6) fun x2 =>
  z_b (gR h x2 1 2) fun x3 =>
  z_b (gI h x3 7 6) fun x4 =>
  if (48 + x4) < v1 then
  (f_Pa_mayFollowBackslash_28 N v1 0 h)
  else
  (f_Pa_mayFollowBackslash_28 N v1 1 h))
set_option maxRecDepth 20000 in
set_option maxHeartbeats 2000000 in
theorem s_Pa_mayFollowBackslash {l : Launch} {D : va_G} {dA : Nat → ClassId} {B N : Nat} {v0 : Nat} {v1 : Int32} {h h' : z_H} {r : Int32} (hf : f_Pa_mayFollowBackslash N v0 v1 h = some (r, h')) : z_Met l y_Pa_mayFollowBackslash prog_8_method_20_code 3 (some .boolean) 0 0 D dA B [.ref v0, .int v1] h (some (.int r)) h' := by
  refine z_of (by decide) (Nat.le_of_ble_eq_true rfl) (fun p e s m below meth c ls X hI hl => ?_)
  have hx := z_hx X
  have hb := z_hb X
  have hl : lv_has ls 3 [(0, .ref v0), (1, .int v1)] := hl
  unfold f_Pa_mayFollowBackslash at hf
  obtain ⟨locs, hlo⟩ : ∃ z : List Loc, z = [] := ⟨_, rfl⟩
  rw [← hlo] at hI ⊢
  refine lv_iload_n hx hb d_Pa_mayFollowBackslash_0 rfl (lv_at hl 1 rfl) ?_
  refine lv_bipush (v := 49) hx hb d_Pa_mayFollowBackslash_1 (by decide) ?_
  refine lv_icmp_lt (tgt := 27) hx hb d_Pa_mayFollowBackslash_3 (by decide) (fun c1 => ?_) (fun c1 => ?_)
  · rw [if_pos c1] at hf
    refine lv_iconst (v := 0) hx hb d_Pa_mayFollowBackslash_27 (by decide) ?_
    exact s_Pa_mayFollowBackslash_28 X  v1 0 h _ _ _ hI (lv_sub hl [1] rfl) hf
  · rw [if_neg c1] at hf
    refine lv_iload_n hx hb d_Pa_mayFollowBackslash_6 rfl (lv_at hl 1 rfl) ?_
    refine lv_bipush (v := 48) hx hb d_Pa_mayFollowBackslash_7 (by decide) ?_
    refine lv_aload_n hx hb d_Pa_mayFollowBackslash_9 rfl (lv_at hl 0 rfl) ?_
    obtain ⟨x2, ex2, hf⟩ := z_bs hf
    refine z_getF X hI (k := 6) (ci := 6) (gR_s ex2) i_Pa rfl (by decide) wf_Pa_114 d_Pa_mayFollowBackslash_10 ?_
    obtain ⟨x3, ex3, hf⟩ := z_bs hf
    refine z_getF X hI (k := 2) (ci := 1) (gR_s ex3) i_Cmd rfl (by decide) wf_Pa_202 d_Pa_mayFollowBackslash_13 ?_
    obtain ⟨x4, ex4, hf⟩ := z_bs hf
    refine z_getF X hI (k := 6) (ci := 7) (gI_s ex4) i_Pt rfl (by decide) wf_Pa_212 d_Pa_mayFollowBackslash_16 ?_
    refine lv_iadd hx hb d_Pa_mayFollowBackslash_19 ?_
    refine lv_icmp_gt (tgt := 27) hx hb d_Pa_mayFollowBackslash_20 (by decide) (fun c5 => ?_) (fun c5 => ?_)
    · rw [if_pos c5] at hf
      refine lv_iconst (v := 0) hx hb d_Pa_mayFollowBackslash_27 (by decide) ?_
      exact s_Pa_mayFollowBackslash_28 X  v1 0 h _ _ _ hI (lv_sub hl [1] rfl) hf
    · rw [if_neg c5] at hf
      refine lv_iconst (v := 1) hx hb d_Pa_mayFollowBackslash_23 (by decide) ?_
      refine lv_goto (tgt := 28) hx hb d_Pa_mayFollowBackslash_24 (by decide) ?_
      exact s_Pa_mayFollowBackslash_28 X  v1 1 h _ _ _ hI (lv_sub hl [1] rfl) hf
def f_Pa_readReplacement_56 (N : Nat)  (v0 : Nat) (h : z_H) : Option (Int32 × z_H) :=
  z_b (gR h v0 6 0) fun x1 =>
  z_b (gO h x1 2) fun u2 =>
  z_b (f_Cur_refuse N x1 0 h) fun r3 =>
  z_b (zB (r3.1)) fun x4 =>
  some (x4, r3.2)
set_option maxRecDepth 20000 in
set_option maxHeartbeats 2000000 in
theorem s_Pa_readReplacement_56 (X : z_X p s m args meth c prog_8_method_19_code 3 (some .boolean) Ts "StreamForge$Parser" D dA B) {N : Nat} {r : Int32} {h' : z_H}   : ∀ (v0 : Nat) (h : z_H) (H : Heap) (locs : List Loc) (ls : Array Slot), z_I D dA B h s.heap H locs → lv_has ls 3 [(0, .ref v0)] → f_Pa_readReplacement_56 N  v0 h = some (r, h') → W p l e (z_rm 2 43) s m args below meth c H locs 0 0 (MQ below (z_Q D dA B (some (.int r)) h') args s 0 0 (fun q => B ≤ q)) (F0 m 56 ls []) := by
  have hx := z_hx X
  have hb := z_hb X
  intro v0 h H locs ls hI hl hf
  unfold f_Pa_readReplacement_56 at hf
  refine lv_aload_n hx hb d_Pa_readReplacement_56 rfl (lv_at hl 0 rfl) ?_
  obtain ⟨x1, ex1, hf⟩ := z_bs hf
  refine z_getF X hI (k := 0) (ci := 6) (gR_s ex1) i_Pa rfl (by decide) wf_Pa_12 d_Pa_readReplacement_57 ?_
  refine lv_iconst (v := 0) hx hb d_Pa_readReplacement_60 (by decide) ?_
  obtain ⟨u2, eu2, hf⟩ := z_bs hf
  obtain ⟨r3, er3, hf⟩ := z_bs hf
  refine z_callV (As := [.int 0]) (rest := []) (r := (some (.int r3.1))) (h' := r3.2) X hI eu2 (s_Cur_refuse er3) rfl rfl wm_Pa_68 yi_Cur_refuse rfl hl.1 rfl (Nat.le_of_ble_eq_true rfl) (by decide) (by decide) d_Pa_readReplacement_61 (fun H locs hI => ?_)
  refine W.eq (g2 := F0 m 64 ls [.int (r3.1)]) rfl ?_
  obtain ⟨x4, ex4, hf⟩ := z_bs hf
  refine z_topi (zB_s ex4).1 ?_
  cases hf
  exact z_zret X hI (zB_s2 ex4) d_Pa_readReplacement_64
def f_Pa_readReplacement_129 (N : Nat) (k16 : Nat → Int32 → z_H → Option (Int32 × z_H)) (v0 : Nat) (v1 : Int32) (h : z_H) : Option (Int32 × z_H) :=
  z_b (gR h v0 6 0) fun x1 =>
  z_b (gI h x1 2 1) fun x2 =>
  z_b (sF h x1 2 1 (.int (x2 + 1))) fun h3 =>
  z_b (some (v1 + 1)) fun x4 =>
  k16 v0 x4 h3
set_option maxRecDepth 20000 in
set_option maxHeartbeats 2000000 in
theorem s_Pa_readReplacement_129 (X : z_X p s m args meth c prog_8_method_19_code 3 (some .boolean) Ts "StreamForge$Parser" D dA B) {N : Nat} {r : Int32} {h' : z_H} {k16 : Nat → Int32 → z_H → Option (Int32 × z_H)} (hk16 : ∀ (v0 : Nat) (v1 : Int32) (h : z_H) (H : Heap) (locs : List Loc) (ls : Array Slot), z_I D dA B h s.heap H locs → lv_has ls 3 [(0, .ref v0), (1, .int v1)] → k16 v0 v1 h = some (r, h') → W p l e (z_rm 2 43) s m args below meth c H locs 0 0 (MQ below (z_Q D dA B (some (.int r)) h') args s 0 0 (fun q => B ≤ q)) (F0 m 16 ls [])) : ∀ (v0 : Nat) (v1 : Int32) (h : z_H) (H : Heap) (locs : List Loc) (ls : Array Slot), z_I D dA B h s.heap H locs → lv_has ls 3 [(0, .ref v0), (1, .int v1)] → f_Pa_readReplacement_129 N k16 v0 v1 h = some (r, h') → W p l e (z_rm 2 43) s m args below meth c H locs 0 0 (MQ below (z_Q D dA B (some (.int r)) h') args s 0 0 (fun q => B ≤ q)) (F0 m 129 ls []) := by
  have hx := z_hx X
  have hb := z_hb X
  intro v0 v1 h H locs ls hI hl hf
  unfold f_Pa_readReplacement_129 at hf
  refine lv_aload_n hx hb d_Pa_readReplacement_129 rfl (lv_at hl 0 rfl) ?_
  obtain ⟨x1, ex1, hf⟩ := z_bs hf
  refine z_getF X hI (k := 0) (ci := 6) (gR_s ex1) i_Pa rfl (by decide) wf_Pa_12 d_Pa_readReplacement_130 ?_
  refine lv_dup hx hb d_Pa_readReplacement_133 rfl ?_
  obtain ⟨x2, ex2, hf⟩ := z_bs hf
  refine z_getF X hI (k := 1) (ci := 2) (gI_s ex2) i_Cur rfl (by decide) wf_Pa_46 d_Pa_readReplacement_134 ?_
  refine lv_iconst (v := 1) hx hb d_Pa_readReplacement_137 (by decide) ?_
  refine lv_iadd hx hb d_Pa_readReplacement_138 ?_
  obtain ⟨h3, eh3, hf⟩ := z_bs hf
  refine z_putF X hI (k := 1) (ci := 2) (ty0 := t_Cur) eh3 i_Cur t_Cur_ok n_Cur rfl (by decide) wf_Pa_46 rfl rfl rfl d_Pa_readReplacement_139 (fun H locs hI => ?_)
  obtain ⟨x4, ex4, hf⟩ := z_bs hf
  refine lv_iinc (v := x4) (lv' := [(1, .int x4), (0, .ref v0)]) hx hb d_Pa_readReplacement_142 hl (k := 1) rfl (by rw [← Option.some.inj ex4]; rfl) (by decide) rfl (fun ls hl => ?_)
  refine lv_goto (tgt := 16) hx hb d_Pa_readReplacement_145 (by decide) ?_
  exact hk16 v0 x4 h3 _ _ _ hI (lv_sub hl [1, 0] rfl) hf
def f_Pa_readReplacement_148 (N : Nat)  (v0 : Nat) (h : z_H) : Option (Int32 × z_H) :=
  z_b (gR h v0 6 6) fun x1 =>
  z_b (gR h v0 6 0) fun x2 =>
  z_b (gI h x2 2 1) fun x3 =>
  z_b (sF h x1 1 10 (.int x3)) fun h4 =>
  z_b (gR h4 v0 6 0) fun x5 =>
  z_b (gO h4 x5 2) fun u6 =>
  z_b (f_Cur_pass N x5 47 h4) fun r7 =>
  z_b (zB (r7.1)) fun x8 =>
  some (x8, r7.2)
set_option maxRecDepth 20000 in
set_option maxHeartbeats 2000000 in
theorem s_Pa_readReplacement_148 (X : z_X p s m args meth c prog_8_method_19_code 3 (some .boolean) Ts "StreamForge$Parser" D dA B) {N : Nat} {r : Int32} {h' : z_H}   : ∀ (v0 : Nat) (h : z_H) (H : Heap) (locs : List Loc) (ls : Array Slot), z_I D dA B h s.heap H locs → lv_has ls 3 [(0, .ref v0)] → f_Pa_readReplacement_148 N  v0 h = some (r, h') → W p l e (z_rm 2 43) s m args below meth c H locs 0 0 (MQ below (z_Q D dA B (some (.int r)) h') args s 0 0 (fun q => B ≤ q)) (F0 m 148 ls []) := by
  have hx := z_hx X
  have hb := z_hb X
  intro v0 h H locs ls hI hl hf
  unfold f_Pa_readReplacement_148 at hf
  refine lv_aload_n hx hb d_Pa_readReplacement_148 rfl (lv_at hl 0 rfl) ?_
  obtain ⟨x1, ex1, hf⟩ := z_bs hf
  refine z_getF X hI (k := 6) (ci := 6) (gR_s ex1) i_Pa rfl (by decide) wf_Pa_114 d_Pa_readReplacement_149 ?_
  refine lv_aload_n hx hb d_Pa_readReplacement_152 rfl (lv_at hl 0 rfl) ?_
  obtain ⟨x2, ex2, hf⟩ := z_bs hf
  refine z_getF X hI (k := 0) (ci := 6) (gR_s ex2) i_Pa rfl (by decide) wf_Pa_12 d_Pa_readReplacement_153 ?_
  obtain ⟨x3, ex3, hf⟩ := z_bs hf
  refine z_getF X hI (k := 1) (ci := 2) (gI_s ex3) i_Cur rfl (by decide) wf_Pa_46 d_Pa_readReplacement_156 ?_
  obtain ⟨h4, eh4, hf⟩ := z_bs hf
  refine z_putF X hI (k := 10) (ci := 1) (ty0 := t_Cmd) eh4 i_Cmd t_Cmd_ok n_Cmd rfl (by decide) wf_Pa_199 rfl rfl rfl d_Pa_readReplacement_159 (fun H locs hI => ?_)
  refine lv_aload_n hx hb d_Pa_readReplacement_162 rfl (lv_at hl 0 rfl) ?_
  obtain ⟨x5, ex5, hf⟩ := z_bs hf
  refine z_getF X hI (k := 0) (ci := 6) (gR_s ex5) i_Pa rfl (by decide) wf_Pa_12 d_Pa_readReplacement_163 ?_
  refine lv_bipush (v := 47) hx hb d_Pa_readReplacement_166 (by decide) ?_
  obtain ⟨u6, eu6, hf⟩ := z_bs hf
  obtain ⟨r7, er7, hf⟩ := z_bs hf
  refine z_callV (As := [.int 47]) (rest := []) (r := (some (.int r7.1))) (h' := r7.2) X hI eu6 (s_Cur_pass er7) rfl rfl wm_Pa_190 yi_Cur_pass rfl hl.1 rfl (Nat.le_of_ble_eq_true rfl) (by decide) (by decide) d_Pa_readReplacement_168 (fun H locs hI => ?_)
  refine W.eq (g2 := F0 m 171 ls [.int (r7.1)]) rfl ?_
  obtain ⟨x8, ex8, hf⟩ := z_bs hf
  refine z_topi (zB_s ex8).1 ?_
  cases hf
  exact z_zret X hI (zB_s2 ex8) d_Pa_readReplacement_171
def f_Pa_readReplacement_16 (N : Nat)  : Nat → Nat → Int32 → z_H → Option (Int32 × z_H)
  | 0, _, _, _ => none
  | n + 1, v0, v1, h =>
    if 240 < v1 then
    (f_Pa_readReplacement_148 N v0 h)
    else
    (z_b (gR h v0 6 0) fun x2 =>
    z_b (gO h x2 2) fun u3 =>
    z_b (f_Cur_look N x2 0 h) fun r4 =>
    if (r4.1) = 47 then
    (f_Pa_readReplacement_148 N v0 r4.2)
    else
    (z_b (gR r4.2 v0 6 0) fun x6 =>
    z_b (gO r4.2 x6 2) fun u7 =>
    z_b (f_Cur_look N x6 0 r4.2) fun r8 =>
    z_b (some (r8.1)) fun x9 =>
    if x9 = (-1) then
    (f_Pa_readReplacement_56 N v0 r8.2)
    else
    (if x9 = 10 then
    (f_Pa_readReplacement_56 N v0 r8.2)
    else
    (if x9 = 92 then
    (z_b (gR r8.2 v0 6 0) fun x13 =>
    z_b (gO r8.2 x13 2) fun u14 =>
    z_b (f_Cur_look N x13 1 r8.2) fun r15 =>
    if (r15.1) = (-1) then
    (z_b (gR r15.2 v0 6 0) fun x30 =>
    z_b (gO r15.2 x30 2) fun u31 =>
    z_b (f_Cur_refuse N x30 1 r15.2) fun r32 =>
    z_b (zB (r32.1)) fun x33 =>
    some (x33, r32.2))
    else
    (z_b (gR r15.2 v0 6 0) fun x17 =>
    z_b (gO r15.2 x17 2) fun u18 =>
    z_b (f_Cur_look N x17 1 r15.2) fun r19 =>
    z_b (gO r19.2 v0 6) fun u20 =>
    z_b (f_Pa_mayFollowBackslash N v0 (r19.1) r19.2) fun r21 =>
    if (r21.1) = 0 then
    (z_b (gR r21.2 v0 6 0) fun x26 =>
    z_b (gO r21.2 x26 2) fun u27 =>
    z_b (f_Cur_refuse N x26 0 r21.2) fun r28 =>
    z_b (zB (r28.1)) fun x29 =>
    some (x29, r28.2))
    else
    (z_b (gR r21.2 v0 6 0) fun x23 =>
    z_b (gI r21.2 x23 2 1) fun x24 =>
    z_b (sF r21.2 x23 2 1 (.int (x24 + 1))) fun h25 =>
    f_Pa_readReplacement_129 N (f_Pa_readReplacement_16 N  n) v0 v1 h25)))
    else
    (f_Pa_readReplacement_129 N (f_Pa_readReplacement_16 N  n) v0 v1 r8.2)))))
set_option maxRecDepth 20000 in
set_option maxHeartbeats 2000000 in
theorem s_Pa_readReplacement_16 (X : z_X p s m args meth c prog_8_method_19_code 3 (some .boolean) Ts "StreamForge$Parser" D dA B) {N : Nat} {r : Int32} {h' : z_H}   : ∀ n : Nat, ∀ (v0 : Nat) (v1 : Int32) (h : z_H) (H : Heap) (locs : List Loc) (ls : Array Slot), z_I D dA B h s.heap H locs → lv_has ls 3 [(0, .ref v0), (1, .int v1)] → f_Pa_readReplacement_16 N  n v0 v1 h = some (r, h') → W p l e (z_rm 2 43) s m args below meth c H locs 0 0 (MQ below (z_Q D dA B (some (.int r)) h') args s 0 0 (fun q => B ≤ q)) (F0 m 16 ls []) := by
  have hx := z_hx X
  have hb := z_hb X
  intro n
  induction n with
  | zero => intro v0 v1 h H locs ls hI hl hf; rw [f_Pa_readReplacement_16] at hf; cases hf
  | succ n ih =>
    intro v0 v1 h H locs ls hI hl hf
    rw [f_Pa_readReplacement_16] at hf
    refine lv_iload_n hx hb d_Pa_readReplacement_16 rfl (lv_at hl 1 rfl) ?_
    refine lv_sipush (v := 240) hx hb d_Pa_readReplacement_17 (by decide) ?_
    refine lv_icmp_gt (tgt := 148) hx hb d_Pa_readReplacement_20 (by decide) (fun c1 => ?_) (fun c1 => ?_)
    · rw [if_pos c1] at hf
      exact s_Pa_readReplacement_148 X  v0 h _ _ _ hI (lv_sub hl [0] rfl) hf
    · rw [if_neg c1] at hf
      refine lv_aload_n hx hb d_Pa_readReplacement_23 rfl (lv_at hl 0 rfl) ?_
      obtain ⟨x2, ex2, hf⟩ := z_bs hf
      refine z_getF X hI (k := 0) (ci := 6) (gR_s ex2) i_Pa rfl (by decide) wf_Pa_12 d_Pa_readReplacement_24 ?_
      refine lv_iconst (v := 0) hx hb d_Pa_readReplacement_27 (by decide) ?_
      obtain ⟨u3, eu3, hf⟩ := z_bs hf
      obtain ⟨r4, er4, hf⟩ := z_bs hf
      refine z_callV (As := [.int 0]) (rest := []) (r := (some (.int r4.1))) (h' := r4.2) X hI eu3 (s_Cur_look er4) rfl rfl wm_Pa_42 yi_Cur_look rfl hl.1 rfl (Nat.le_of_ble_eq_true rfl) (by decide) (by decide) d_Pa_readReplacement_28 (fun H locs hI => ?_)
      refine W.eq (g2 := F0 m 31 ls [.int (r4.1)]) rfl ?_
      refine lv_bipush (v := 47) hx hb d_Pa_readReplacement_31 (by decide) ?_
      refine lv_icmp_eq (tgt := 148) hx hb d_Pa_readReplacement_33 (by decide) (fun c5 => ?_) (fun c5 => ?_)
      · rw [if_pos c5] at hf
        exact s_Pa_readReplacement_148 X  v0 r4.2 _ _ _ hI (lv_sub hl [0] rfl) hf
      · rw [if_neg c5] at hf
        refine lv_aload_n hx hb d_Pa_readReplacement_36 rfl (lv_at hl 0 rfl) ?_
        obtain ⟨x6, ex6, hf⟩ := z_bs hf
        refine z_getF X hI (k := 0) (ci := 6) (gR_s ex6) i_Pa rfl (by decide) wf_Pa_12 d_Pa_readReplacement_37 ?_
        refine lv_iconst (v := 0) hx hb d_Pa_readReplacement_40 (by decide) ?_
        obtain ⟨u7, eu7, hf⟩ := z_bs hf
        obtain ⟨r8, er8, hf⟩ := z_bs hf
        refine z_callV (As := [.int 0]) (rest := []) (r := (some (.int r8.1))) (h' := r8.2) X hI eu7 (s_Cur_look er8) rfl rfl wm_Pa_42 yi_Cur_look rfl hl.1 rfl (Nat.le_of_ble_eq_true rfl) (by decide) (by decide) d_Pa_readReplacement_41 (fun H locs hI => ?_)
        refine W.eq (g2 := F0 m 44 ls [.int (r8.1)]) rfl ?_
        obtain ⟨x9, ex9, hf⟩ := z_bs hf
        refine z_topi (Option.some.inj ex9) ?_
        refine lv_istore_n (lv' := [(2, .int x9), (0, .ref v0), (1, .int v1)]) hx hb d_Pa_readReplacement_44 rfl hl (by decide) rfl (fun ls hl => ?_)
        refine lv_iload_n hx hb d_Pa_readReplacement_45 rfl (lv_at hl 0 rfl) ?_
        refine lv_iconst (v := (-1)) hx hb d_Pa_readReplacement_46 (by decide) ?_
        refine lv_icmp_eq (tgt := 56) hx hb d_Pa_readReplacement_47 (by decide) (fun c10 => ?_) (fun c10 => ?_)
        · rw [if_pos c10] at hf
          exact s_Pa_readReplacement_56 X  v0 r8.2 _ _ _ hI (lv_sub hl [1] rfl) hf
        · rw [if_neg c10] at hf
          refine lv_iload_n hx hb d_Pa_readReplacement_50 rfl (lv_at hl 0 rfl) ?_
          refine lv_bipush (v := 10) hx hb d_Pa_readReplacement_51 (by decide) ?_
          refine lv_icmp_ne (tgt := 65) hx hb d_Pa_readReplacement_53 (by decide) (fun c11 => ?_) (fun c11 => ?_)
          · rw [if_neg c11] at hf
            refine lv_iload_n hx hb d_Pa_readReplacement_65 rfl (lv_at hl 0 rfl) ?_
            refine lv_bipush (v := 92) hx hb d_Pa_readReplacement_66 (by decide) ?_
            refine lv_icmp_ne (tgt := 129) hx hb d_Pa_readReplacement_68 (by decide) (fun c12 => ?_) (fun c12 => ?_)
            · rw [if_neg c12] at hf
              exact s_Pa_readReplacement_129 X ih v0 v1 r8.2 _ _ _ hI (lv_sub hl [1, 2] rfl) hf
            · rw [if_pos c12] at hf
              refine lv_aload_n hx hb d_Pa_readReplacement_71 rfl (lv_at hl 1 rfl) ?_
              obtain ⟨x13, ex13, hf⟩ := z_bs hf
              refine z_getF X hI (k := 0) (ci := 6) (gR_s ex13) i_Pa rfl (by decide) wf_Pa_12 d_Pa_readReplacement_72 ?_
              refine lv_iconst (v := 1) hx hb d_Pa_readReplacement_75 (by decide) ?_
              obtain ⟨u14, eu14, hf⟩ := z_bs hf
              obtain ⟨r15, er15, hf⟩ := z_bs hf
              refine z_callV (As := [.int 1]) (rest := []) (r := (some (.int r15.1))) (h' := r15.2) X hI eu14 (s_Cur_look er15) rfl rfl wm_Pa_42 yi_Cur_look rfl hl.1 rfl (Nat.le_of_ble_eq_true rfl) (by decide) (by decide) d_Pa_readReplacement_76 (fun H locs hI => ?_)
              refine W.eq (g2 := F0 m 79 ls [.int (r15.1)]) rfl ?_
              refine lv_iconst (v := (-1)) hx hb d_Pa_readReplacement_79 (by decide) ?_
              refine lv_icmp_ne (tgt := 92) hx hb d_Pa_readReplacement_80 (by decide) (fun c16 => ?_) (fun c16 => ?_)
              · rw [if_neg c16] at hf
                refine lv_aload_n hx hb d_Pa_readReplacement_92 rfl (lv_at hl 1 rfl) ?_
                refine lv_aload_n hx hb d_Pa_readReplacement_93 rfl (lv_at hl 1 rfl) ?_
                obtain ⟨x17, ex17, hf⟩ := z_bs hf
                refine z_getF X hI (k := 0) (ci := 6) (gR_s ex17) i_Pa rfl (by decide) wf_Pa_12 d_Pa_readReplacement_94 ?_
                refine lv_iconst (v := 1) hx hb d_Pa_readReplacement_97 (by decide) ?_
                obtain ⟨u18, eu18, hf⟩ := z_bs hf
                obtain ⟨r19, er19, hf⟩ := z_bs hf
                refine z_callV (As := [.int 1]) (rest := [.ref v0]) (r := (some (.int r19.1))) (h' := r19.2) X hI eu18 (s_Cur_look er19) rfl rfl wm_Pa_42 yi_Cur_look rfl hl.1 rfl (Nat.le_of_ble_eq_true rfl) (by decide) (by decide) d_Pa_readReplacement_98 (fun H locs hI => ?_)
                refine W.eq (g2 := F0 m 101 ls [.int (r19.1), .ref v0]) rfl ?_
                obtain ⟨u20, eu20, hf⟩ := z_bs hf
                obtain ⟨r21, er21, hf⟩ := z_bs hf
                refine z_callV (As := [.int (r19.1)]) (rest := []) (r := (some (.int r21.1))) (h' := r21.2) X hI eu20 (s_Pa_mayFollowBackslash er21) rfl rfl wm_Pa_209 yi_Pa_mayFollowBackslash rfl hl.1 rfl (Nat.le_of_ble_eq_true rfl) (by decide) (by decide) d_Pa_readReplacement_101 (fun H locs hI => ?_)
                refine W.eq (g2 := F0 m 104 ls [.int (r21.1)]) rfl ?_
                refine lv_if_ne (tgt := 116) hx hb d_Pa_readReplacement_104 (by decide) (fun c22 => ?_) (fun c22 => ?_)
                · rw [if_neg c22] at hf
                  refine lv_aload_n hx hb d_Pa_readReplacement_116 rfl (lv_at hl 1 rfl) ?_
                  obtain ⟨x23, ex23, hf⟩ := z_bs hf
                  refine z_getF X hI (k := 0) (ci := 6) (gR_s ex23) i_Pa rfl (by decide) wf_Pa_12 d_Pa_readReplacement_117 ?_
                  refine lv_dup hx hb d_Pa_readReplacement_120 rfl ?_
                  obtain ⟨x24, ex24, hf⟩ := z_bs hf
                  refine z_getF X hI (k := 1) (ci := 2) (gI_s ex24) i_Cur rfl (by decide) wf_Pa_46 d_Pa_readReplacement_121 ?_
                  refine lv_iconst (v := 1) hx hb d_Pa_readReplacement_124 (by decide) ?_
                  refine lv_iadd hx hb d_Pa_readReplacement_125 ?_
                  obtain ⟨h25, eh25, hf⟩ := z_bs hf
                  refine z_putF X hI (k := 1) (ci := 2) (ty0 := t_Cur) eh25 i_Cur t_Cur_ok n_Cur rfl (by decide) wf_Pa_46 rfl rfl rfl d_Pa_readReplacement_126 (fun H locs hI => ?_)
                  exact s_Pa_readReplacement_129 X ih v0 v1 h25 _ _ _ hI (lv_sub hl [1, 2] rfl) hf
                · rw [if_pos c22] at hf
                  refine lv_aload_n hx hb d_Pa_readReplacement_107 rfl (lv_at hl 1 rfl) ?_
                  obtain ⟨x26, ex26, hf⟩ := z_bs hf
                  refine z_getF X hI (k := 0) (ci := 6) (gR_s ex26) i_Pa rfl (by decide) wf_Pa_12 d_Pa_readReplacement_108 ?_
                  refine lv_iconst (v := 0) hx hb d_Pa_readReplacement_111 (by decide) ?_
                  obtain ⟨u27, eu27, hf⟩ := z_bs hf
                  obtain ⟨r28, er28, hf⟩ := z_bs hf
                  refine z_callV (As := [.int 0]) (rest := []) (r := (some (.int r28.1))) (h' := r28.2) X hI eu27 (s_Cur_refuse er28) rfl rfl wm_Pa_68 yi_Cur_refuse rfl hl.1 rfl (Nat.le_of_ble_eq_true rfl) (by decide) (by decide) d_Pa_readReplacement_112 (fun H locs hI => ?_)
                  refine W.eq (g2 := F0 m 115 ls [.int (r28.1)]) rfl ?_
                  obtain ⟨x29, ex29, hf⟩ := z_bs hf
                  refine z_topi (zB_s ex29).1 ?_
                  cases hf
                  exact z_zret X hI (zB_s2 ex29) d_Pa_readReplacement_115
              · rw [if_pos c16] at hf
                refine lv_aload_n hx hb d_Pa_readReplacement_83 rfl (lv_at hl 1 rfl) ?_
                obtain ⟨x30, ex30, hf⟩ := z_bs hf
                refine z_getF X hI (k := 0) (ci := 6) (gR_s ex30) i_Pa rfl (by decide) wf_Pa_12 d_Pa_readReplacement_84 ?_
                refine lv_iconst (v := 1) hx hb d_Pa_readReplacement_87 (by decide) ?_
                obtain ⟨u31, eu31, hf⟩ := z_bs hf
                obtain ⟨r32, er32, hf⟩ := z_bs hf
                refine z_callV (As := [.int 1]) (rest := []) (r := (some (.int r32.1))) (h' := r32.2) X hI eu31 (s_Cur_refuse er32) rfl rfl wm_Pa_68 yi_Cur_refuse rfl hl.1 rfl (Nat.le_of_ble_eq_true rfl) (by decide) (by decide) d_Pa_readReplacement_88 (fun H locs hI => ?_)
                refine W.eq (g2 := F0 m 91 ls [.int (r32.1)]) rfl ?_
                obtain ⟨x33, ex33, hf⟩ := z_bs hf
                refine z_topi (zB_s ex33).1 ?_
                cases hf
                exact z_zret X hI (zB_s2 ex33) d_Pa_readReplacement_91
          · rw [if_pos c11] at hf
            exact s_Pa_readReplacement_56 X  v0 r8.2 _ _ _ hI (lv_sub hl [1] rfl) hf
def f_Pa_readReplacement (N : Nat) (v0 : Nat) (h : z_H) : Option (Int32 × z_H) :=
  z_b (gR h v0 6 6) fun x1 =>
  z_b (gR h v0 6 0) fun x2 =>
  z_b (gI h x2 2 1) fun x3 =>
  z_b (sF h x1 1 9 (.int x3)) fun h4 =>
  f_Pa_readReplacement_16 N N v0 0 h4
set_option maxRecDepth 20000 in
set_option maxHeartbeats 2000000 in
theorem s_Pa_readReplacement {l : Launch} {D : va_G} {dA : Nat → ClassId} {B N : Nat} {v0 : Nat} {h h' : z_H} {r : Int32} (hf : f_Pa_readReplacement N v0 h = some (r, h')) : z_Met l y_Pa_readReplacement prog_8_method_19_code 3 (some .boolean) 2 43 D dA B [.ref v0] h (some (.int r)) h' := by
  refine z_of (by decide) (Nat.le_of_ble_eq_true rfl) (fun p e s m below meth c ls X hI hl => ?_)
  have hx := z_hx X
  have hb := z_hb X
  have hl : lv_has ls 3 [(0, .ref v0)] := hl
  unfold f_Pa_readReplacement at hf
  obtain ⟨locs, hlo⟩ : ∃ z : List Loc, z = [] := ⟨_, rfl⟩
  rw [← hlo] at hI ⊢
  refine lv_aload_n hx hb d_Pa_readReplacement_0 rfl (lv_at hl 0 rfl) ?_
  obtain ⟨x1, ex1, hf⟩ := z_bs hf
  refine z_getF X hI (k := 6) (ci := 6) (gR_s ex1) i_Pa rfl (by decide) wf_Pa_114 d_Pa_readReplacement_1 ?_
  refine lv_aload_n hx hb d_Pa_readReplacement_4 rfl (lv_at hl 0 rfl) ?_
  obtain ⟨x2, ex2, hf⟩ := z_bs hf
  refine z_getF X hI (k := 0) (ci := 6) (gR_s ex2) i_Pa rfl (by decide) wf_Pa_12 d_Pa_readReplacement_5 ?_
  obtain ⟨x3, ex3, hf⟩ := z_bs hf
  refine z_getF X hI (k := 1) (ci := 2) (gI_s ex3) i_Cur rfl (by decide) wf_Pa_46 d_Pa_readReplacement_8 ?_
  obtain ⟨h4, eh4, hf⟩ := z_bs hf
  refine z_putF X hI (k := 9) (ci := 1) (ty0 := t_Cmd) eh4 i_Cmd t_Cmd_ok n_Cmd rfl (by decide) wf_Pa_193 rfl rfl rfl d_Pa_readReplacement_11 (fun H locs hI => ?_)
  refine lv_iconst (v := 0) hx hb d_Pa_readReplacement_14 (by decide) ?_
  refine lv_istore_n (lv' := [(1, .int 0), (0, .ref v0)]) hx hb d_Pa_readReplacement_15 rfl hl (by decide) rfl (fun ls hl => ?_)
  exact s_Pa_readReplacement_16 X  N v0 0 h4 _ _ _ hI (lv_sub hl [1, 0] rfl) hf
def f_Pa_readFlags_108 (N : Nat) (k2 : Nat → Int32 → z_H → Option (Int32 × z_H)) (v0 : Nat) (v1 : Int32) (h : z_H) : Option (Int32 × z_H) :=
  z_b (gR h v0 6 0) fun x1 =>
  z_b (gI h x1 2 1) fun x2 =>
  z_b (sF h x1 2 1 (.int (x2 + 1))) fun h3 =>
  z_b (some (v1 + 1)) fun x4 =>
  k2 v0 x4 h3
set_option maxRecDepth 20000 in
set_option maxHeartbeats 2000000 in
theorem s_Pa_readFlags_108 (X : z_X p s m args meth c prog_8_method_21_code 3 (some .boolean) Ts "StreamForge$Parser" D dA B) {N : Nat} {r : Int32} {h' : z_H} {k2 : Nat → Int32 → z_H → Option (Int32 × z_H)} (hk2 : ∀ (v0 : Nat) (v1 : Int32) (h : z_H) (H : Heap) (locs : List Loc) (ls : Array Slot), z_I D dA B h s.heap H locs → lv_has ls 3 [(0, .ref v0), (1, .int v1)] → k2 v0 v1 h = some (r, h') → W p l e (z_rm 1 22) s m args below meth c H locs 0 0 (MQ below (z_Q D dA B (some (.int r)) h') args s 0 0 (fun q => B ≤ q)) (F0 m 2 ls [])) : ∀ (v0 : Nat) (v1 : Int32) (h : z_H) (H : Heap) (locs : List Loc) (ls : Array Slot), z_I D dA B h s.heap H locs → lv_has ls 3 [(0, .ref v0), (1, .int v1)] → f_Pa_readFlags_108 N k2 v0 v1 h = some (r, h') → W p l e (z_rm 1 22) s m args below meth c H locs 0 0 (MQ below (z_Q D dA B (some (.int r)) h') args s 0 0 (fun q => B ≤ q)) (F0 m 108 ls []) := by
  have hx := z_hx X
  have hb := z_hb X
  intro v0 v1 h H locs ls hI hl hf
  unfold f_Pa_readFlags_108 at hf
  refine lv_aload_n hx hb d_Pa_readFlags_108 rfl (lv_at hl 0 rfl) ?_
  obtain ⟨x1, ex1, hf⟩ := z_bs hf
  refine z_getF X hI (k := 0) (ci := 6) (gR_s ex1) i_Pa rfl (by decide) wf_Pa_12 d_Pa_readFlags_109 ?_
  refine lv_dup hx hb d_Pa_readFlags_112 rfl ?_
  obtain ⟨x2, ex2, hf⟩ := z_bs hf
  refine z_getF X hI (k := 1) (ci := 2) (gI_s ex2) i_Cur rfl (by decide) wf_Pa_46 d_Pa_readFlags_113 ?_
  refine lv_iconst (v := 1) hx hb d_Pa_readFlags_116 (by decide) ?_
  refine lv_iadd hx hb d_Pa_readFlags_117 ?_
  obtain ⟨h3, eh3, hf⟩ := z_bs hf
  refine z_putF X hI (k := 1) (ci := 2) (ty0 := t_Cur) eh3 i_Cur t_Cur_ok n_Cur rfl (by decide) wf_Pa_46 rfl rfl rfl d_Pa_readFlags_118 (fun H locs hI => ?_)
  obtain ⟨x4, ex4, hf⟩ := z_bs hf
  refine lv_iinc (v := x4) (lv' := [(1, .int x4), (0, .ref v0)]) hx hb d_Pa_readFlags_121 hl (k := 1) rfl (by rw [← Option.some.inj ex4]; rfl) (by decide) rfl (fun ls hl => ?_)
  refine lv_goto (tgt := 2) hx hb d_Pa_readFlags_124 (by decide) ?_
  exact hk2 v0 x4 h3 _ _ _ hI (lv_sub hl [1, 0] rfl) hf
def f_Pa_readFlags_70 (N : Nat) (k2 : Nat → Int32 → z_H → Option (Int32 × z_H)) (v0 : Nat) (v1 : Int32) (v2 : Int32) (h : z_H) : Option (Int32 × z_H) :=
  if v2 < 49 then
  (some (1, h))
  else
  (if 57 < v2 then
  (some (1, h))
  else
  (z_b (gR h v0 6 6) fun x3 =>
  z_b (gI h x3 1 14) fun x4 =>
  if x4 = 0 then
  (z_b (gR h v0 6 6) fun x6 =>
  z_b (sF h x6 1 14 (.int (v2 - 48))) fun h7 =>
  f_Pa_readFlags_108 N k2 v0 v1 h7)
  else
  (some (1, h))))
set_option maxRecDepth 20000 in
set_option maxHeartbeats 2000000 in
theorem s_Pa_readFlags_70 (X : z_X p s m args meth c prog_8_method_21_code 3 (some .boolean) Ts "StreamForge$Parser" D dA B) {N : Nat} {r : Int32} {h' : z_H} {k2 : Nat → Int32 → z_H → Option (Int32 × z_H)} (hk2 : ∀ (v0 : Nat) (v1 : Int32) (h : z_H) (H : Heap) (locs : List Loc) (ls : Array Slot), z_I D dA B h s.heap H locs → lv_has ls 3 [(0, .ref v0), (1, .int v1)] → k2 v0 v1 h = some (r, h') → W p l e (z_rm 1 22) s m args below meth c H locs 0 0 (MQ below (z_Q D dA B (some (.int r)) h') args s 0 0 (fun q => B ≤ q)) (F0 m 2 ls [])) : ∀ (v0 : Nat) (v1 : Int32) (v2 : Int32) (h : z_H) (H : Heap) (locs : List Loc) (ls : Array Slot), z_I D dA B h s.heap H locs → lv_has ls 3 [(0, .ref v0), (1, .int v1), (2, .int v2)] → f_Pa_readFlags_70 N k2 v0 v1 v2 h = some (r, h') → W p l e (z_rm 1 22) s m args below meth c H locs 0 0 (MQ below (z_Q D dA B (some (.int r)) h') args s 0 0 (fun q => B ≤ q)) (F0 m 70 ls []) := by
  have hx := z_hx X
  have hb := z_hb X
  intro v0 v1 v2 h H locs ls hI hl hf
  unfold f_Pa_readFlags_70 at hf
  refine lv_iload_n hx hb d_Pa_readFlags_70 rfl (lv_at hl 2 rfl) ?_
  refine lv_bipush (v := 49) hx hb d_Pa_readFlags_71 (by decide) ?_
  refine lv_icmp_lt (tgt := 106) hx hb d_Pa_readFlags_73 (by decide) (fun c1 => ?_) (fun c1 => ?_)
  · rw [if_pos c1] at hf
    refine lv_iconst (v := 1) hx hb d_Pa_readFlags_106 (by decide) ?_
    cases hf
    exact z_zret X hI (Or.inr rfl) d_Pa_readFlags_107
  · rw [if_neg c1] at hf
    refine lv_iload_n hx hb d_Pa_readFlags_76 rfl (lv_at hl 2 rfl) ?_
    refine lv_bipush (v := 57) hx hb d_Pa_readFlags_77 (by decide) ?_
    refine lv_icmp_gt (tgt := 106) hx hb d_Pa_readFlags_79 (by decide) (fun c2 => ?_) (fun c2 => ?_)
    · rw [if_pos c2] at hf
      refine lv_iconst (v := 1) hx hb d_Pa_readFlags_106 (by decide) ?_
      cases hf
      exact z_zret X hI (Or.inr rfl) d_Pa_readFlags_107
    · rw [if_neg c2] at hf
      refine lv_aload_n hx hb d_Pa_readFlags_82 rfl (lv_at hl 0 rfl) ?_
      obtain ⟨x3, ex3, hf⟩ := z_bs hf
      refine z_getF X hI (k := 6) (ci := 6) (gR_s ex3) i_Pa rfl (by decide) wf_Pa_114 d_Pa_readFlags_83 ?_
      obtain ⟨x4, ex4, hf⟩ := z_bs hf
      refine z_getF X hI (k := 14) (ci := 1) (gI_s ex4) i_Cmd rfl (by decide) wf_Pa_223 d_Pa_readFlags_86 ?_
      refine lv_if_ne (tgt := 106) hx hb d_Pa_readFlags_89 (by decide) (fun c5 => ?_) (fun c5 => ?_)
      · rw [if_neg c5] at hf
        refine lv_iconst (v := 1) hx hb d_Pa_readFlags_106 (by decide) ?_
        cases hf
        exact z_zret X hI (Or.inr rfl) d_Pa_readFlags_107
      · rw [if_pos c5] at hf
        refine lv_aload_n hx hb d_Pa_readFlags_92 rfl (lv_at hl 0 rfl) ?_
        obtain ⟨x6, ex6, hf⟩ := z_bs hf
        refine z_getF X hI (k := 6) (ci := 6) (gR_s ex6) i_Pa rfl (by decide) wf_Pa_114 d_Pa_readFlags_93 ?_
        refine lv_iload_n hx hb d_Pa_readFlags_96 rfl (lv_at hl 2 rfl) ?_
        refine lv_bipush (v := 48) hx hb d_Pa_readFlags_97 (by decide) ?_
        refine lv_isub hx hb d_Pa_readFlags_99 ?_
        obtain ⟨h7, eh7, hf⟩ := z_bs hf
        refine z_putF X hI (k := 14) (ci := 1) (ty0 := t_Cmd) eh7 i_Cmd t_Cmd_ok n_Cmd rfl (by decide) wf_Pa_223 rfl rfl rfl d_Pa_readFlags_100 (fun H locs hI => ?_)
        refine lv_goto (tgt := 108) hx hb d_Pa_readFlags_103 (by decide) ?_
        exact s_Pa_readFlags_108 X hk2 v0 v1 h7 _ _ _ hI (lv_sub hl [0, 1] rfl) hf
def f_Pa_readFlags_43 (N : Nat) (k2 : Nat → Int32 → z_H → Option (Int32 × z_H)) (v0 : Nat) (v1 : Int32) (v2 : Int32) (h : z_H) : Option (Int32 × z_H) :=
  if v2 = 112 then
  (z_b (gR h v0 6 6) fun x2 =>
  z_b (gI h x2 1 13) fun x3 =>
  if x3 = 0 then
  (z_b (gR h v0 6 6) fun x5 =>
  z_b (sF h x5 1 13 (.int 1)) fun h6 =>
  f_Pa_readFlags_108 N k2 v0 v1 h6)
  else
  (f_Pa_readFlags_70 N k2 v0 v1 v2 h))
  else
  (f_Pa_readFlags_70 N k2 v0 v1 v2 h)
set_option maxRecDepth 20000 in
set_option maxHeartbeats 2000000 in
theorem s_Pa_readFlags_43 (X : z_X p s m args meth c prog_8_method_21_code 3 (some .boolean) Ts "StreamForge$Parser" D dA B) {N : Nat} {r : Int32} {h' : z_H} {k2 : Nat → Int32 → z_H → Option (Int32 × z_H)} (hk2 : ∀ (v0 : Nat) (v1 : Int32) (h : z_H) (H : Heap) (locs : List Loc) (ls : Array Slot), z_I D dA B h s.heap H locs → lv_has ls 3 [(0, .ref v0), (1, .int v1)] → k2 v0 v1 h = some (r, h') → W p l e (z_rm 1 22) s m args below meth c H locs 0 0 (MQ below (z_Q D dA B (some (.int r)) h') args s 0 0 (fun q => B ≤ q)) (F0 m 2 ls [])) : ∀ (v0 : Nat) (v1 : Int32) (v2 : Int32) (h : z_H) (H : Heap) (locs : List Loc) (ls : Array Slot), z_I D dA B h s.heap H locs → lv_has ls 3 [(0, .ref v0), (1, .int v1), (2, .int v2)] → f_Pa_readFlags_43 N k2 v0 v1 v2 h = some (r, h') → W p l e (z_rm 1 22) s m args below meth c H locs 0 0 (MQ below (z_Q D dA B (some (.int r)) h') args s 0 0 (fun q => B ≤ q)) (F0 m 43 ls []) := by
  have hx := z_hx X
  have hb := z_hb X
  intro v0 v1 v2 h H locs ls hI hl hf
  unfold f_Pa_readFlags_43 at hf
  refine lv_iload_n hx hb d_Pa_readFlags_43 rfl (lv_at hl 2 rfl) ?_
  refine lv_bipush (v := 112) hx hb d_Pa_readFlags_44 (by decide) ?_
  refine lv_icmp_ne (tgt := 70) hx hb d_Pa_readFlags_46 (by decide) (fun c1 => ?_) (fun c1 => ?_)
  · rw [if_neg c1] at hf
    exact s_Pa_readFlags_70 X hk2 v0 v1 v2 h _ _ _ hI (lv_sub hl [0, 1, 2] rfl) hf
  · rw [if_pos c1] at hf
    refine lv_aload_n hx hb d_Pa_readFlags_49 rfl (lv_at hl 0 rfl) ?_
    obtain ⟨x2, ex2, hf⟩ := z_bs hf
    refine z_getF X hI (k := 6) (ci := 6) (gR_s ex2) i_Pa rfl (by decide) wf_Pa_114 d_Pa_readFlags_50 ?_
    obtain ⟨x3, ex3, hf⟩ := z_bs hf
    refine z_getF X hI (k := 13) (ci := 1) (gI_s ex3) i_Cmd rfl (by decide) wf_Pa_220 d_Pa_readFlags_53 ?_
    refine lv_if_ne (tgt := 70) hx hb d_Pa_readFlags_56 (by decide) (fun c4 => ?_) (fun c4 => ?_)
    · rw [if_neg c4] at hf
      exact s_Pa_readFlags_70 X hk2 v0 v1 v2 h _ _ _ hI (lv_sub hl [0, 1, 2] rfl) hf
    · rw [if_pos c4] at hf
      refine lv_aload_n hx hb d_Pa_readFlags_59 rfl (lv_at hl 0 rfl) ?_
      obtain ⟨x5, ex5, hf⟩ := z_bs hf
      refine z_getF X hI (k := 6) (ci := 6) (gR_s ex5) i_Pa rfl (by decide) wf_Pa_114 d_Pa_readFlags_60 ?_
      refine lv_iconst (v := 1) hx hb d_Pa_readFlags_63 (by decide) ?_
      obtain ⟨h6, eh6, hf⟩ := z_bs hf
      refine z_putF X hI (k := 13) (ci := 1) (ty0 := t_Cmd) eh6 i_Cmd t_Cmd_ok n_Cmd rfl (by decide) wf_Pa_220 rfl rfl rfl d_Pa_readFlags_64 (fun H locs hI => ?_)
      refine lv_goto (tgt := 108) hx hb d_Pa_readFlags_67 (by decide) ?_
      exact s_Pa_readFlags_108 X hk2 v0 v1 h6 _ _ _ hI (lv_sub hl [0, 1] rfl) hf
def f_Pa_readFlags_2 (N : Nat)  : Nat → Nat → Int32 → z_H → Option (Int32 × z_H)
  | 0, _, _, _ => none
  | n + 1, v0, v1, h =>
    if 3 ≤ v1 then
    (some (1, h))
    else
    (z_b (gR h v0 6 0) fun x2 =>
    z_b (gO h x2 2) fun u3 =>
    z_b (f_Cur_look N x2 0 h) fun r4 =>
    z_b (some (r4.1)) fun x5 =>
    if x5 = 103 then
    (z_b (gR r4.2 v0 6 6) fun x7 =>
    z_b (gI r4.2 x7 1 12) fun x8 =>
    if x8 = 0 then
    (z_b (gR r4.2 v0 6 6) fun x10 =>
    z_b (sF r4.2 x10 1 12 (.int 1)) fun h11 =>
    f_Pa_readFlags_108 N (f_Pa_readFlags_2 N  n) v0 v1 h11)
    else
    (f_Pa_readFlags_43 N (f_Pa_readFlags_2 N  n) v0 v1 x5 r4.2))
    else
    (f_Pa_readFlags_43 N (f_Pa_readFlags_2 N  n) v0 v1 x5 r4.2))
set_option maxRecDepth 20000 in
set_option maxHeartbeats 2000000 in
theorem s_Pa_readFlags_2 (X : z_X p s m args meth c prog_8_method_21_code 3 (some .boolean) Ts "StreamForge$Parser" D dA B) {N : Nat} {r : Int32} {h' : z_H}   : ∀ n : Nat, ∀ (v0 : Nat) (v1 : Int32) (h : z_H) (H : Heap) (locs : List Loc) (ls : Array Slot), z_I D dA B h s.heap H locs → lv_has ls 3 [(0, .ref v0), (1, .int v1)] → f_Pa_readFlags_2 N  n v0 v1 h = some (r, h') → W p l e (z_rm 1 22) s m args below meth c H locs 0 0 (MQ below (z_Q D dA B (some (.int r)) h') args s 0 0 (fun q => B ≤ q)) (F0 m 2 ls []) := by
  have hx := z_hx X
  have hb := z_hb X
  intro n
  induction n with
  | zero => intro v0 v1 h H locs ls hI hl hf; rw [f_Pa_readFlags_2] at hf; cases hf
  | succ n ih =>
    intro v0 v1 h H locs ls hI hl hf
    rw [f_Pa_readFlags_2] at hf
    refine lv_iload_n hx hb d_Pa_readFlags_2 rfl (lv_at hl 1 rfl) ?_
    refine lv_iconst (v := 3) hx hb d_Pa_readFlags_3 (by decide) ?_
    refine lv_icmp_ge (tgt := 127) hx hb d_Pa_readFlags_4 (by decide) (fun c1 => ?_) (fun c1 => ?_)
    · rw [if_pos c1] at hf
      refine lv_iconst (v := 1) hx hb d_Pa_readFlags_127 (by decide) ?_
      cases hf
      exact z_zret X hI (Or.inr rfl) d_Pa_readFlags_128
    · rw [if_neg c1] at hf
      refine lv_aload_n hx hb d_Pa_readFlags_7 rfl (lv_at hl 0 rfl) ?_
      obtain ⟨x2, ex2, hf⟩ := z_bs hf
      refine z_getF X hI (k := 0) (ci := 6) (gR_s ex2) i_Pa rfl (by decide) wf_Pa_12 d_Pa_readFlags_8 ?_
      refine lv_iconst (v := 0) hx hb d_Pa_readFlags_11 (by decide) ?_
      obtain ⟨u3, eu3, hf⟩ := z_bs hf
      obtain ⟨r4, er4, hf⟩ := z_bs hf
      refine z_callV (As := [.int 0]) (rest := []) (r := (some (.int r4.1))) (h' := r4.2) X hI eu3 (s_Cur_look er4) rfl rfl wm_Pa_42 yi_Cur_look rfl hl.1 rfl (Nat.le_of_ble_eq_true rfl) (by decide) (by decide) d_Pa_readFlags_12 (fun H locs hI => ?_)
      refine W.eq (g2 := F0 m 15 ls [.int (r4.1)]) rfl ?_
      obtain ⟨x5, ex5, hf⟩ := z_bs hf
      refine z_topi (Option.some.inj ex5) ?_
      refine lv_istore_n (lv' := [(2, .int x5), (0, .ref v0), (1, .int v1)]) hx hb d_Pa_readFlags_15 rfl hl (by decide) rfl (fun ls hl => ?_)
      refine lv_iload_n hx hb d_Pa_readFlags_16 rfl (lv_at hl 0 rfl) ?_
      refine lv_bipush (v := 103) hx hb d_Pa_readFlags_17 (by decide) ?_
      refine lv_icmp_ne (tgt := 43) hx hb d_Pa_readFlags_19 (by decide) (fun c6 => ?_) (fun c6 => ?_)
      · rw [if_neg c6] at hf
        exact s_Pa_readFlags_43 X ih v0 v1 x5 r4.2 _ _ _ hI (lv_sub hl [1, 2, 0] rfl) hf
      · rw [if_pos c6] at hf
        refine lv_aload_n hx hb d_Pa_readFlags_22 rfl (lv_at hl 1 rfl) ?_
        obtain ⟨x7, ex7, hf⟩ := z_bs hf
        refine z_getF X hI (k := 6) (ci := 6) (gR_s ex7) i_Pa rfl (by decide) wf_Pa_114 d_Pa_readFlags_23 ?_
        obtain ⟨x8, ex8, hf⟩ := z_bs hf
        refine z_getF X hI (k := 12) (ci := 1) (gI_s ex8) i_Cmd rfl (by decide) wf_Pa_217 d_Pa_readFlags_26 ?_
        refine lv_if_ne (tgt := 43) hx hb d_Pa_readFlags_29 (by decide) (fun c9 => ?_) (fun c9 => ?_)
        · rw [if_neg c9] at hf
          exact s_Pa_readFlags_43 X ih v0 v1 x5 r4.2 _ _ _ hI (lv_sub hl [1, 2, 0] rfl) hf
        · rw [if_pos c9] at hf
          refine lv_aload_n hx hb d_Pa_readFlags_32 rfl (lv_at hl 1 rfl) ?_
          obtain ⟨x10, ex10, hf⟩ := z_bs hf
          refine z_getF X hI (k := 6) (ci := 6) (gR_s ex10) i_Pa rfl (by decide) wf_Pa_114 d_Pa_readFlags_33 ?_
          refine lv_iconst (v := 1) hx hb d_Pa_readFlags_36 (by decide) ?_
          obtain ⟨h11, eh11, hf⟩ := z_bs hf
          refine z_putF X hI (k := 12) (ci := 1) (ty0 := t_Cmd) eh11 i_Cmd t_Cmd_ok n_Cmd rfl (by decide) wf_Pa_217 rfl rfl rfl d_Pa_readFlags_37 (fun H locs hI => ?_)
          refine lv_goto (tgt := 108) hx hb d_Pa_readFlags_40 (by decide) ?_
          exact s_Pa_readFlags_108 X ih v0 v1 h11 _ _ _ hI (lv_sub hl [1, 2] rfl) hf
def f_Pa_readFlags (N : Nat) (v0 : Nat) (h : z_H) : Option (Int32 × z_H) :=
  f_Pa_readFlags_2 N N v0 0 h
set_option maxRecDepth 20000 in
set_option maxHeartbeats 2000000 in
theorem s_Pa_readFlags {l : Launch} {D : va_G} {dA : Nat → ClassId} {B N : Nat} {v0 : Nat} {h h' : z_H} {r : Int32} (hf : f_Pa_readFlags N v0 h = some (r, h')) : z_Met l y_Pa_readFlags prog_8_method_21_code 3 (some .boolean) 1 22 D dA B [.ref v0] h (some (.int r)) h' := by
  refine z_of (by decide) (Nat.le_of_ble_eq_true rfl) (fun p e s m below meth c ls X hI hl => ?_)
  have hx := z_hx X
  have hb := z_hb X
  have hl : lv_has ls 3 [(0, .ref v0)] := hl
  unfold f_Pa_readFlags at hf
  obtain ⟨locs, hlo⟩ : ∃ z : List Loc, z = [] := ⟨_, rfl⟩
  rw [← hlo] at hI ⊢
  refine lv_iconst (v := 0) hx hb d_Pa_readFlags_0 (by decide) ?_
  refine lv_istore_n (lv' := [(1, .int 0), (0, .ref v0)]) hx hb d_Pa_readFlags_1 rfl hl (by decide) rfl (fun ls hl => ?_)
  exact s_Pa_readFlags_2 X  N v0 0 h _ _ _ hI (lv_sub hl [1, 0] rfl) hf
def f_Pa_readSubstitution (N : Nat) (v0 : Nat) (h : z_H) : Option (Int32 × z_H) :=
  z_b (gR h v0 6 0) fun x1 =>
  z_b (gI h x1 2 1) fun x2 =>
  z_b (sF h x1 2 1 (.int (x2 + 1))) fun h3 =>
  z_b (gR h3 v0 6 0) fun x4 =>
  z_b (gO h3 x4 2) fun u5 =>
  z_b (f_Cur_pass N x4 47 h3) fun r6 =>
  if (r6.1) = 0 then
  (some (0, r6.2))
  else
  (z_b (gR r6.2 v0 6 1) fun x8 =>
  z_b (gR r6.2 v0 6 6) fun x9 =>
  z_b (gR r6.2 x9 1 2) fun x10 =>
  z_b (gR r6.2 v0 6 5) fun x11 =>
  z_b (gR r6.2 x11 9 1) fun x12 =>
  z_b (gO r6.2 x8 8) fun u13 =>
  z_b (f_Pr_read N x8 x10 x12 r6.2) fun r14 =>
  if (r14.1) = 0 then
  (some (0, r14.2))
  else
  (z_b (gO r14.2 v0 6) fun u16 =>
  z_b (f_Pa_readReplacement N v0 r14.2) fun r17 =>
  if (r17.1) = 0 then
  (some (0, r17.2))
  else
  (z_b (gO r17.2 v0 6) fun u19 =>
  z_b (f_Pa_readFlags N v0 r17.2) fun r20 =>
  if (r20.1) = 0 then
  (some (0, r20.2))
  else
  (some (1, r20.2)))))
set_option maxRecDepth 20000 in
set_option maxHeartbeats 2000000 in
theorem s_Pa_readSubstitution {l : Launch} {D : va_G} {dA : Nat → ClassId} {B N : Nat} {v0 : Nat} {h h' : z_H} {r : Int32} (hf : f_Pa_readSubstitution N v0 h = some (r, h')) : z_Met l y_Pa_readSubstitution prog_8_method_18_code 1 (some .boolean) 4 95 D dA B [.ref v0] h (some (.int r)) h' := by
  refine z_of (by decide) (Nat.le_of_ble_eq_true rfl) (fun p e s m below meth c ls X hI hl => ?_)
  have hx := z_hx X
  have hb := z_hb X
  have hl : lv_has ls 1 [(0, .ref v0)] := hl
  unfold f_Pa_readSubstitution at hf
  obtain ⟨locs, hlo⟩ : ∃ z : List Loc, z = [] := ⟨_, rfl⟩
  rw [← hlo] at hI ⊢
  refine lv_aload_n hx hb d_Pa_readSubstitution_0 rfl (lv_at hl 0 rfl) ?_
  obtain ⟨x1, ex1, hf⟩ := z_bs hf
  refine z_getF X hI (k := 0) (ci := 6) (gR_s ex1) i_Pa rfl (by decide) wf_Pa_12 d_Pa_readSubstitution_1 ?_
  refine lv_dup hx hb d_Pa_readSubstitution_4 rfl ?_
  obtain ⟨x2, ex2, hf⟩ := z_bs hf
  refine z_getF X hI (k := 1) (ci := 2) (gI_s ex2) i_Cur rfl (by decide) wf_Pa_46 d_Pa_readSubstitution_5 ?_
  refine lv_iconst (v := 1) hx hb d_Pa_readSubstitution_8 (by decide) ?_
  refine lv_iadd hx hb d_Pa_readSubstitution_9 ?_
  obtain ⟨h3, eh3, hf⟩ := z_bs hf
  refine z_putF X hI (k := 1) (ci := 2) (ty0 := t_Cur) eh3 i_Cur t_Cur_ok n_Cur rfl (by decide) wf_Pa_46 rfl rfl rfl d_Pa_readSubstitution_10 (fun H locs hI => ?_)
  refine lv_aload_n hx hb d_Pa_readSubstitution_13 rfl (lv_at hl 0 rfl) ?_
  obtain ⟨x4, ex4, hf⟩ := z_bs hf
  refine z_getF X hI (k := 0) (ci := 6) (gR_s ex4) i_Pa rfl (by decide) wf_Pa_12 d_Pa_readSubstitution_14 ?_
  refine lv_bipush (v := 47) hx hb d_Pa_readSubstitution_17 (by decide) ?_
  obtain ⟨u5, eu5, hf⟩ := z_bs hf
  obtain ⟨r6, er6, hf⟩ := z_bs hf
  refine z_callV (As := [.int 47]) (rest := []) (r := (some (.int r6.1))) (h' := r6.2) X hI eu5 (s_Cur_pass er6) rfl rfl wm_Pa_190 yi_Cur_pass rfl hl.1 rfl (Nat.le_of_ble_eq_true rfl) (by decide) (by decide) d_Pa_readSubstitution_19 (fun H locs hI => ?_)
  refine W.eq (g2 := F0 m 22 ls [.int (r6.1)]) rfl ?_
  refine lv_if_eq (tgt := 67) hx hb d_Pa_readSubstitution_22 (by decide) (fun c7 => ?_) (fun c7 => ?_)
  · rw [if_pos c7] at hf
    refine lv_iconst (v := 0) hx hb d_Pa_readSubstitution_67 (by decide) ?_
    cases hf
    exact z_zret X hI (Or.inl rfl) d_Pa_readSubstitution_68
  · rw [if_neg c7] at hf
    refine lv_aload_n hx hb d_Pa_readSubstitution_25 rfl (lv_at hl 0 rfl) ?_
    obtain ⟨x8, ex8, hf⟩ := z_bs hf
    refine z_getF X hI (k := 1) (ci := 6) (gR_s ex8) i_Pa rfl (by decide) wf_Pa_23 d_Pa_readSubstitution_26 ?_
    refine lv_aload_n hx hb d_Pa_readSubstitution_29 rfl (lv_at hl 0 rfl) ?_
    obtain ⟨x9, ex9, hf⟩ := z_bs hf
    refine z_getF X hI (k := 6) (ci := 6) (gR_s ex9) i_Pa rfl (by decide) wf_Pa_114 d_Pa_readSubstitution_30 ?_
    obtain ⟨x10, ex10, hf⟩ := z_bs hf
    refine z_getF X hI (k := 2) (ci := 1) (gR_s ex10) i_Cmd rfl (by decide) wf_Pa_202 d_Pa_readSubstitution_33 ?_
    refine lv_aload_n hx hb d_Pa_readSubstitution_36 rfl (lv_at hl 0 rfl) ?_
    obtain ⟨x11, ex11, hf⟩ := z_bs hf
    refine z_getF X hI (k := 5) (ci := 6) (gR_s ex11) i_Pa rfl (by decide) wf_Pa_72 d_Pa_readSubstitution_37 ?_
    obtain ⟨x12, ex12, hf⟩ := z_bs hf
    refine z_getF X hI (k := 1) (ci := 9) (gR_s ex12) i_Prog rfl (by decide) wf_Pa_94 d_Pa_readSubstitution_40 ?_
    obtain ⟨u13, eu13, hf⟩ := z_bs hf
    obtain ⟨r14, er14, hf⟩ := z_bs hf
    refine z_callV (As := [.ref x10, .ref x12]) (rest := []) (r := (some (.int r14.1))) (h' := r14.2) X hI eu13 (s_Pr_read er14) rfl rfl wm_Pa_154 yi_Pr_read rfl hl.1 rfl (Nat.le_of_ble_eq_true rfl) (by decide) (by decide) d_Pa_readSubstitution_43 (fun H locs hI => ?_)
    refine W.eq (g2 := F0 m 46 ls [.int (r14.1)]) rfl ?_
    refine lv_if_eq (tgt := 67) hx hb d_Pa_readSubstitution_46 (by decide) (fun c15 => ?_) (fun c15 => ?_)
    · rw [if_pos c15] at hf
      refine lv_iconst (v := 0) hx hb d_Pa_readSubstitution_67 (by decide) ?_
      cases hf
      exact z_zret X hI (Or.inl rfl) d_Pa_readSubstitution_68
    · rw [if_neg c15] at hf
      refine lv_aload_n hx hb d_Pa_readSubstitution_49 rfl (lv_at hl 0 rfl) ?_
      obtain ⟨u16, eu16, hf⟩ := z_bs hf
      obtain ⟨r17, er17, hf⟩ := z_bs hf
      refine z_callV (As := []) (rest := []) (r := (some (.int r17.1))) (h' := r17.2) X hI eu16 (s_Pa_readReplacement er17) rfl rfl wm_Pa_203 yi_Pa_readReplacement rfl hl.1 rfl (Nat.le_of_ble_eq_true rfl) (by decide) (by decide) d_Pa_readSubstitution_50 (fun H locs hI => ?_)
      refine W.eq (g2 := F0 m 53 ls [.int (r17.1)]) rfl ?_
      refine lv_if_eq (tgt := 67) hx hb d_Pa_readSubstitution_53 (by decide) (fun c18 => ?_) (fun c18 => ?_)
      · rw [if_pos c18] at hf
        refine lv_iconst (v := 0) hx hb d_Pa_readSubstitution_67 (by decide) ?_
        cases hf
        exact z_zret X hI (Or.inl rfl) d_Pa_readSubstitution_68
      · rw [if_neg c18] at hf
        refine lv_aload_n hx hb d_Pa_readSubstitution_56 rfl (lv_at hl 0 rfl) ?_
        obtain ⟨u19, eu19, hf⟩ := z_bs hf
        obtain ⟨r20, er20, hf⟩ := z_bs hf
        refine z_callV (As := []) (rest := []) (r := (some (.int r20.1))) (h' := r20.2) X hI eu19 (s_Pa_readFlags er20) rfl rfl wm_Pa_206 yi_Pa_readFlags rfl hl.1 rfl (Nat.le_of_ble_eq_true rfl) (by decide) (by decide) d_Pa_readSubstitution_57 (fun H locs hI => ?_)
        refine W.eq (g2 := F0 m 60 ls [.int (r20.1)]) rfl ?_
        refine lv_if_eq (tgt := 67) hx hb d_Pa_readSubstitution_60 (by decide) (fun c21 => ?_) (fun c21 => ?_)
        · rw [if_pos c21] at hf
          refine lv_iconst (v := 0) hx hb d_Pa_readSubstitution_67 (by decide) ?_
          cases hf
          exact z_zret X hI (Or.inl rfl) d_Pa_readSubstitution_68
        · rw [if_neg c21] at hf
          refine lv_iconst (v := 1) hx hb d_Pa_readSubstitution_63 (by decide) ?_
          refine lv_goto (tgt := 68) hx hb d_Pa_readSubstitution_64 (by decide) ?_
          cases hf
          exact z_zret X hI (Or.inr rfl) d_Pa_readSubstitution_68
def f_Pa_isExchangeable (N : Nat) (v0 : Int32) (h : z_H) : Option (Int32 × z_H) :=
  if v0 = (-1) then
  (some (0, h))
  else
  (if v0 = 10 then
  (some (0, h))
  else
  (if v0 = 92 then
  (some (0, h))
  else
  (some (1, h))))
set_option maxRecDepth 20000 in
set_option maxHeartbeats 2000000 in
theorem s_Pa_isExchangeable {l : Launch} {D : va_G} {dA : Nat → ClassId} {B N : Nat} {v0 : Int32} {h h' : z_H} {r : Int32} (hf : f_Pa_isExchangeable N v0 h = some (r, h')) : z_Met l y_Pa_isExchangeable prog_8_method_23_code 1 (some .boolean) 0 0 D dA B [.int v0] h (some (.int r)) h' := by
  refine z_of (by decide) (Nat.le_of_ble_eq_true rfl) (fun p e s m below meth c ls X hI hl => ?_)
  have hx := z_hx X
  have hb := z_hb X
  have hl : lv_has ls 1 [(0, .int v0)] := hl
  unfold f_Pa_isExchangeable at hf
  obtain ⟨locs, hlo⟩ : ∃ z : List Loc, z = [] := ⟨_, rfl⟩
  rw [← hlo] at hI ⊢
  refine lv_iload_n hx hb d_Pa_isExchangeable_0 rfl (lv_at hl 0 rfl) ?_
  refine lv_iconst (v := (-1)) hx hb d_Pa_isExchangeable_1 (by decide) ?_
  refine lv_icmp_eq (tgt := 21) hx hb d_Pa_isExchangeable_2 (by decide) (fun c1 => ?_) (fun c1 => ?_)
  · rw [if_pos c1] at hf
    refine lv_iconst (v := 0) hx hb d_Pa_isExchangeable_21 (by decide) ?_
    cases hf
    exact z_zret X hI (Or.inl rfl) d_Pa_isExchangeable_22
  · rw [if_neg c1] at hf
    refine lv_iload_n hx hb d_Pa_isExchangeable_5 rfl (lv_at hl 0 rfl) ?_
    refine lv_bipush (v := 10) hx hb d_Pa_isExchangeable_6 (by decide) ?_
    refine lv_icmp_eq (tgt := 21) hx hb d_Pa_isExchangeable_8 (by decide) (fun c2 => ?_) (fun c2 => ?_)
    · rw [if_pos c2] at hf
      refine lv_iconst (v := 0) hx hb d_Pa_isExchangeable_21 (by decide) ?_
      cases hf
      exact z_zret X hI (Or.inl rfl) d_Pa_isExchangeable_22
    · rw [if_neg c2] at hf
      refine lv_iload_n hx hb d_Pa_isExchangeable_11 rfl (lv_at hl 0 rfl) ?_
      refine lv_bipush (v := 92) hx hb d_Pa_isExchangeable_12 (by decide) ?_
      refine lv_icmp_eq (tgt := 21) hx hb d_Pa_isExchangeable_14 (by decide) (fun c3 => ?_) (fun c3 => ?_)
      · rw [if_pos c3] at hf
        refine lv_iconst (v := 0) hx hb d_Pa_isExchangeable_21 (by decide) ?_
        cases hf
        exact z_zret X hI (Or.inl rfl) d_Pa_isExchangeable_22
      · rw [if_neg c3] at hf
        refine lv_iconst (v := 1) hx hb d_Pa_isExchangeable_17 (by decide) ?_
        refine lv_goto (tgt := 22) hx hb d_Pa_isExchangeable_18 (by decide) ?_
        cases hf
        exact z_zret X hI (Or.inr rfl) d_Pa_isExchangeable_22
def f_Pa_wasExchanged_8 (N : Nat)  : Nat → Nat → Int32 → Int32 → z_H → Option (Int32 × z_H)
  | 0, _, _, _, _ => none
  | n + 1, v0, v1, v2, h =>
    z_b (gR h v0 6 0) fun x1 =>
    z_b (gI h x1 2 1) fun x2 =>
    if x2 ≤ v2 then
    (some (0, h))
    else
    (z_b (gR h v0 6 5) fun x4 =>
    z_b (gR h x4 9 0) fun x5 =>
    z_b (gO h x5 10) fun u6 =>
    z_b (f_Row_at N x5 v2 h) fun r7 =>
    if (r7.1) = v1 then
    (some (1, r7.2))
    else
    (z_b (some (v2 + 1)) fun x9 =>
    (f_Pa_wasExchanged_8 N  n) v0 v1 x9 r7.2))
set_option maxRecDepth 20000 in
set_option maxHeartbeats 2000000 in
theorem s_Pa_wasExchanged_8 (X : z_X p s m args meth c prog_8_method_24_code 3 (some .boolean) Ts "StreamForge$Parser" D dA B) {N : Nat} {r : Int32} {h' : z_H}   : ∀ n : Nat, ∀ (v0 : Nat) (v1 : Int32) (v2 : Int32) (h : z_H) (H : Heap) (locs : List Loc) (ls : Array Slot), z_I D dA B h s.heap H locs → lv_has ls 3 [(0, .ref v0), (1, .int v1), (2, .int v2)] → f_Pa_wasExchanged_8 N  n v0 v1 v2 h = some (r, h') → W p l e (z_rm 1 21) s m args below meth c H locs 0 0 (MQ below (z_Q D dA B (some (.int r)) h') args s 0 0 (fun q => B ≤ q)) (F0 m 8 ls []) := by
  have hx := z_hx X
  have hb := z_hb X
  intro n
  induction n with
  | zero => intro v0 v1 v2 h H locs ls hI hl hf; rw [f_Pa_wasExchanged_8] at hf; cases hf
  | succ n ih =>
    intro v0 v1 v2 h H locs ls hI hl hf
    rw [f_Pa_wasExchanged_8] at hf
    refine lv_iload_n hx hb d_Pa_wasExchanged_8 rfl (lv_at hl 2 rfl) ?_
    refine lv_aload_n hx hb d_Pa_wasExchanged_9 rfl (lv_at hl 0 rfl) ?_
    obtain ⟨x1, ex1, hf⟩ := z_bs hf
    refine z_getF X hI (k := 0) (ci := 6) (gR_s ex1) i_Pa rfl (by decide) wf_Pa_12 d_Pa_wasExchanged_10 ?_
    obtain ⟨x2, ex2, hf⟩ := z_bs hf
    refine z_getF X hI (k := 1) (ci := 2) (gI_s ex2) i_Cur rfl (by decide) wf_Pa_46 d_Pa_wasExchanged_13 ?_
    refine lv_icmp_ge (tgt := 42) hx hb d_Pa_wasExchanged_16 (by decide) (fun c3 => ?_) (fun c3 => ?_)
    · rw [if_pos c3] at hf
      refine lv_iconst (v := 0) hx hb d_Pa_wasExchanged_42 (by decide) ?_
      cases hf
      exact z_zret X hI (Or.inl rfl) d_Pa_wasExchanged_43
    · rw [if_neg c3] at hf
      refine lv_aload_n hx hb d_Pa_wasExchanged_19 rfl (lv_at hl 0 rfl) ?_
      obtain ⟨x4, ex4, hf⟩ := z_bs hf
      refine z_getF X hI (k := 5) (ci := 6) (gR_s ex4) i_Pa rfl (by decide) wf_Pa_72 d_Pa_wasExchanged_20 ?_
      obtain ⟨x5, ex5, hf⟩ := z_bs hf
      refine z_getF X hI (k := 0) (ci := 9) (gR_s ex5) i_Prog rfl (by decide) wf_Pa_76 d_Pa_wasExchanged_23 ?_
      refine lv_iload_n hx hb d_Pa_wasExchanged_26 rfl (lv_at hl 2 rfl) ?_
      obtain ⟨u6, eu6, hf⟩ := z_bs hf
      obtain ⟨r7, er7, hf⟩ := z_bs hf
      refine z_callV (As := [.int v2]) (rest := []) (r := (some (.int r7.1))) (h' := r7.2) X hI eu6 (s_Row_at er7) rfl rfl wm_Pa_235 yi_Row_at rfl hl.1 rfl (Nat.le_of_ble_eq_true rfl) (by decide) (by decide) d_Pa_wasExchanged_27 (fun H locs hI => ?_)
      refine W.eq (g2 := F0 m 30 ls [.int (r7.1)]) rfl ?_
      refine lv_iload_n hx hb d_Pa_wasExchanged_30 rfl (lv_at hl 1 rfl) ?_
      refine lv_icmp_ne (tgt := 36) hx hb d_Pa_wasExchanged_31 (by decide) (fun c8 => ?_) (fun c8 => ?_)
      · rw [if_neg c8] at hf
        obtain ⟨x9, ex9, hf⟩ := z_bs hf
        refine lv_iinc (v := x9) (lv' := [(2, .int x9), (0, .ref v0), (1, .int v1)]) hx hb d_Pa_wasExchanged_36 hl (k := 2) rfl (by rw [← Option.some.inj ex9]; rfl) (by decide) rfl (fun ls hl => ?_)
        refine lv_goto (tgt := 8) hx hb d_Pa_wasExchanged_39 (by decide) ?_
        exact ih v0 v1 x9 r7.2 _ _ _ hI (lv_sub hl [1, 2, 0] rfl) hf
      · rw [if_pos c8] at hf
        refine lv_iconst (v := 1) hx hb d_Pa_wasExchanged_34 (by decide) ?_
        cases hf
        exact z_zret X hI (Or.inr rfl) d_Pa_wasExchanged_35
def f_Pa_wasExchanged (N : Nat) (v0 : Nat) (v1 : Int32) (h : z_H) : Option (Int32 × z_H) :=
  z_b (gR h v0 6 6) fun x1 =>
  z_b (gI h x1 1 9) fun x2 =>
  f_Pa_wasExchanged_8 N N v0 v1 x2 h
set_option maxRecDepth 20000 in
set_option maxHeartbeats 2000000 in
theorem s_Pa_wasExchanged {l : Launch} {D : va_G} {dA : Nat → ClassId} {B N : Nat} {v0 : Nat} {v1 : Int32} {h h' : z_H} {r : Int32} (hf : f_Pa_wasExchanged N v0 v1 h = some (r, h')) : z_Met l y_Pa_wasExchanged prog_8_method_24_code 3 (some .boolean) 1 21 D dA B [.ref v0, .int v1] h (some (.int r)) h' := by
  refine z_of (by decide) (Nat.le_of_ble_eq_true rfl) (fun p e s m below meth c ls X hI hl => ?_)
  have hx := z_hx X
  have hb := z_hb X
  have hl : lv_has ls 3 [(0, .ref v0), (1, .int v1)] := hl
  unfold f_Pa_wasExchanged at hf
  obtain ⟨locs, hlo⟩ : ∃ z : List Loc, z = [] := ⟨_, rfl⟩
  rw [← hlo] at hI ⊢
  refine lv_aload_n hx hb d_Pa_wasExchanged_0 rfl (lv_at hl 0 rfl) ?_
  obtain ⟨x1, ex1, hf⟩ := z_bs hf
  refine z_getF X hI (k := 6) (ci := 6) (gR_s ex1) i_Pa rfl (by decide) wf_Pa_114 d_Pa_wasExchanged_1 ?_
  obtain ⟨x2, ex2, hf⟩ := z_bs hf
  refine z_getF X hI (k := 9) (ci := 1) (gI_s ex2) i_Cmd rfl (by decide) wf_Pa_193 d_Pa_wasExchanged_4 ?_
  refine lv_istore_n (lv' := [(2, .int x2), (0, .ref v0), (1, .int v1)]) hx hb d_Pa_wasExchanged_7 rfl hl (by decide) rfl (fun ls hl => ?_)
  exact s_Pa_wasExchanged_8 X  N v0 v1 x2 h _ _ _ hI (lv_sub hl [1, 2, 0] rfl) hf
def f_Pa_readExchange_92 (N : Nat)  (v0 : Nat) (h : z_H) : Option (Int32 × z_H) :=
  z_b (gR h v0 6 0) fun x1 =>
  z_b (gO h x1 2) fun u2 =>
  z_b (f_Cur_refuse N x1 0 h) fun r3 =>
  z_b (zB (r3.1)) fun x4 =>
  some (x4, r3.2)
set_option maxRecDepth 20000 in
set_option maxHeartbeats 2000000 in
theorem s_Pa_readExchange_92 (X : z_X p s m args meth c prog_8_method_22_code 2 (some .boolean) Ts "StreamForge$Parser" D dA B) {N : Nat} {r : Int32} {h' : z_H}   : ∀ (v0 : Nat) (h : z_H) (H : Heap) (locs : List Loc) (ls : Array Slot), z_I D dA B h s.heap H locs → lv_has ls 2 [(0, .ref v0)] → f_Pa_readExchange_92 N  v0 h = some (r, h') → W p l e (z_rm 2 43) s m args below meth c H locs 0 0 (MQ below (z_Q D dA B (some (.int r)) h') args s 0 0 (fun q => B ≤ q)) (F0 m 92 ls []) := by
  have hx := z_hx X
  have hb := z_hb X
  intro v0 h H locs ls hI hl hf
  unfold f_Pa_readExchange_92 at hf
  refine lv_aload_n hx hb d_Pa_readExchange_92 rfl (lv_at hl 0 rfl) ?_
  obtain ⟨x1, ex1, hf⟩ := z_bs hf
  refine z_getF X hI (k := 0) (ci := 6) (gR_s ex1) i_Pa rfl (by decide) wf_Pa_12 d_Pa_readExchange_93 ?_
  refine lv_iconst (v := 0) hx hb d_Pa_readExchange_96 (by decide) ?_
  obtain ⟨u2, eu2, hf⟩ := z_bs hf
  obtain ⟨r3, er3, hf⟩ := z_bs hf
  refine z_callV (As := [.int 0]) (rest := []) (r := (some (.int r3.1))) (h' := r3.2) X hI eu2 (s_Cur_refuse er3) rfl rfl wm_Pa_68 yi_Cur_refuse rfl hl.1 rfl (Nat.le_of_ble_eq_true rfl) (by decide) (by decide) d_Pa_readExchange_97 (fun H locs hI => ?_)
  refine W.eq (g2 := F0 m 100 ls [.int (r3.1)]) rfl ?_
  obtain ⟨x4, ex4, hf⟩ := z_bs hf
  refine z_topi (zB_s ex4).1 ?_
  cases hf
  exact z_zret X hI (zB_s2 ex4) d_Pa_readExchange_100
def f_Pa_readExchange_207 (N : Nat)  (v0 : Nat) (h : z_H) : Option (Int32 × z_H) :=
  z_b (gR h v0 6 0) fun x1 =>
  z_b (gO h x1 2) fun u2 =>
  z_b (f_Cur_refuse N x1 0 h) fun r3 =>
  z_b (zB (r3.1)) fun x4 =>
  some (x4, r3.2)
set_option maxRecDepth 20000 in
set_option maxHeartbeats 2000000 in
theorem s_Pa_readExchange_207 (X : z_X p s m args meth c prog_8_method_22_code 2 (some .boolean) Ts "StreamForge$Parser" D dA B) {N : Nat} {r : Int32} {h' : z_H}   : ∀ (v0 : Nat) (h : z_H) (H : Heap) (locs : List Loc) (ls : Array Slot), z_I D dA B h s.heap H locs → lv_has ls 2 [(0, .ref v0)] → f_Pa_readExchange_207 N  v0 h = some (r, h') → W p l e (z_rm 2 43) s m args below meth c H locs 0 0 (MQ below (z_Q D dA B (some (.int r)) h') args s 0 0 (fun q => B ≤ q)) (F0 m 207 ls []) := by
  have hx := z_hx X
  have hb := z_hb X
  intro v0 h H locs ls hI hl hf
  unfold f_Pa_readExchange_207 at hf
  refine lv_aload_n hx hb d_Pa_readExchange_207 rfl (lv_at hl 0 rfl) ?_
  obtain ⟨x1, ex1, hf⟩ := z_bs hf
  refine z_getF X hI (k := 0) (ci := 6) (gR_s ex1) i_Pa rfl (by decide) wf_Pa_12 d_Pa_readExchange_208 ?_
  refine lv_iconst (v := 0) hx hb d_Pa_readExchange_211 (by decide) ?_
  obtain ⟨u2, eu2, hf⟩ := z_bs hf
  obtain ⟨r3, er3, hf⟩ := z_bs hf
  refine z_callV (As := [.int 0]) (rest := []) (r := (some (.int r3.1))) (h' := r3.2) X hI eu2 (s_Cur_refuse er3) rfl rfl wm_Pa_68 yi_Cur_refuse rfl hl.1 rfl (Nat.le_of_ble_eq_true rfl) (by decide) (by decide) d_Pa_readExchange_212 (fun H locs hI => ?_)
  refine W.eq (g2 := F0 m 215 ls [.int (r3.1)]) rfl ?_
  obtain ⟨x4, ex4, hf⟩ := z_bs hf
  refine z_topi (zB_s ex4).1 ?_
  cases hf
  exact z_zret X hI (zB_s2 ex4) d_Pa_readExchange_215
def f_Pa_readExchange_169 (N : Nat)  : Nat → Nat → Int32 → z_H → Option (Int32 × z_H)
  | 0, _, _, _ => none
  | n + 1, v0, v1, h =>
    z_b (gR h v0 6 6) fun x1 =>
    z_b (gI h x1 1 10) fun x2 =>
    if x2 ≤ v1 then
    (z_b (gR h v0 6 0) fun x4 =>
    z_b (gO h x4 2) fun u5 =>
    z_b (f_Cur_pass N x4 47 h) fun r6 =>
    z_b (zB (r6.1)) fun x7 =>
    some (x7, r6.2))
    else
    (z_b (gR h v0 6 0) fun x8 =>
    z_b (gO h x8 2) fun u9 =>
    z_b (f_Cur_look N x8 0 h) fun r10 =>
    if (r10.1) = 47 then
    (f_Pa_readExchange_207 N v0 r10.2)
    else
    (z_b (gR r10.2 v0 6 0) fun x12 =>
    z_b (gO r10.2 x12 2) fun u13 =>
    z_b (f_Cur_look N x12 0 r10.2) fun r14 =>
    z_b (f_Pa_isExchangeable N (r14.1) r14.2) fun r15 =>
    if (r15.1) = 0 then
    (f_Pa_readExchange_207 N v0 r15.2)
    else
    (z_b (gR r15.2 v0 6 0) fun x17 =>
    z_b (gI r15.2 x17 2 1) fun x18 =>
    z_b (sF r15.2 x17 2 1 (.int (x18 + 1))) fun h19 =>
    z_b (some (v1 + 1)) fun x20 =>
    (f_Pa_readExchange_169 N  n) v0 x20 h19)))
set_option maxRecDepth 20000 in
set_option maxHeartbeats 2000000 in
theorem s_Pa_readExchange_169 (X : z_X p s m args meth c prog_8_method_22_code 2 (some .boolean) Ts "StreamForge$Parser" D dA B) {N : Nat} {r : Int32} {h' : z_H}   : ∀ n : Nat, ∀ (v0 : Nat) (v1 : Int32) (h : z_H) (H : Heap) (locs : List Loc) (ls : Array Slot), z_I D dA B h s.heap H locs → lv_has ls 2 [(0, .ref v0), (1, .int v1)] → f_Pa_readExchange_169 N  n v0 v1 h = some (r, h') → W p l e (z_rm 2 43) s m args below meth c H locs 0 0 (MQ below (z_Q D dA B (some (.int r)) h') args s 0 0 (fun q => B ≤ q)) (F0 m 169 ls []) := by
  have hx := z_hx X
  have hb := z_hb X
  intro n
  induction n with
  | zero => intro v0 v1 h H locs ls hI hl hf; rw [f_Pa_readExchange_169] at hf; cases hf
  | succ n ih =>
    intro v0 v1 h H locs ls hI hl hf
    rw [f_Pa_readExchange_169] at hf
    refine lv_iload_n hx hb d_Pa_readExchange_169 rfl (lv_at hl 1 rfl) ?_
    refine lv_aload_n hx hb d_Pa_readExchange_170 rfl (lv_at hl 0 rfl) ?_
    obtain ⟨x1, ex1, hf⟩ := z_bs hf
    refine z_getF X hI (k := 6) (ci := 6) (gR_s ex1) i_Pa rfl (by decide) wf_Pa_114 d_Pa_readExchange_171 ?_
    obtain ⟨x2, ex2, hf⟩ := z_bs hf
    refine z_getF X hI (k := 10) (ci := 1) (gI_s ex2) i_Cmd rfl (by decide) wf_Pa_199 d_Pa_readExchange_174 ?_
    refine lv_icmp_ge (tgt := 235) hx hb d_Pa_readExchange_177 (by decide) (fun c3 => ?_) (fun c3 => ?_)
    · rw [if_pos c3] at hf
      refine lv_aload_n hx hb d_Pa_readExchange_235 rfl (lv_at hl 0 rfl) ?_
      obtain ⟨x4, ex4, hf⟩ := z_bs hf
      refine z_getF X hI (k := 0) (ci := 6) (gR_s ex4) i_Pa rfl (by decide) wf_Pa_12 d_Pa_readExchange_236 ?_
      refine lv_bipush (v := 47) hx hb d_Pa_readExchange_239 (by decide) ?_
      obtain ⟨u5, eu5, hf⟩ := z_bs hf
      obtain ⟨r6, er6, hf⟩ := z_bs hf
      refine z_callV (As := [.int 47]) (rest := []) (r := (some (.int r6.1))) (h' := r6.2) X hI eu5 (s_Cur_pass er6) rfl rfl wm_Pa_190 yi_Cur_pass rfl hl.1 rfl (Nat.le_of_ble_eq_true rfl) (by decide) (by decide) d_Pa_readExchange_241 (fun H locs hI => ?_)
      refine W.eq (g2 := F0 m 244 ls [.int (r6.1)]) rfl ?_
      obtain ⟨x7, ex7, hf⟩ := z_bs hf
      refine z_topi (zB_s ex7).1 ?_
      cases hf
      exact z_zret X hI (zB_s2 ex7) d_Pa_readExchange_244
    · rw [if_neg c3] at hf
      refine lv_aload_n hx hb d_Pa_readExchange_180 rfl (lv_at hl 0 rfl) ?_
      obtain ⟨x8, ex8, hf⟩ := z_bs hf
      refine z_getF X hI (k := 0) (ci := 6) (gR_s ex8) i_Pa rfl (by decide) wf_Pa_12 d_Pa_readExchange_181 ?_
      refine lv_iconst (v := 0) hx hb d_Pa_readExchange_184 (by decide) ?_
      obtain ⟨u9, eu9, hf⟩ := z_bs hf
      obtain ⟨r10, er10, hf⟩ := z_bs hf
      refine z_callV (As := [.int 0]) (rest := []) (r := (some (.int r10.1))) (h' := r10.2) X hI eu9 (s_Cur_look er10) rfl rfl wm_Pa_42 yi_Cur_look rfl hl.1 rfl (Nat.le_of_ble_eq_true rfl) (by decide) (by decide) d_Pa_readExchange_185 (fun H locs hI => ?_)
      refine W.eq (g2 := F0 m 188 ls [.int (r10.1)]) rfl ?_
      refine lv_bipush (v := 47) hx hb d_Pa_readExchange_188 (by decide) ?_
      refine lv_icmp_eq (tgt := 207) hx hb d_Pa_readExchange_190 (by decide) (fun c11 => ?_) (fun c11 => ?_)
      · rw [if_pos c11] at hf
        exact s_Pa_readExchange_207 X  v0 r10.2 _ _ _ hI (lv_sub hl [0] rfl) hf
      · rw [if_neg c11] at hf
        refine lv_aload_n hx hb d_Pa_readExchange_193 rfl (lv_at hl 0 rfl) ?_
        obtain ⟨x12, ex12, hf⟩ := z_bs hf
        refine z_getF X hI (k := 0) (ci := 6) (gR_s ex12) i_Pa rfl (by decide) wf_Pa_12 d_Pa_readExchange_194 ?_
        refine lv_iconst (v := 0) hx hb d_Pa_readExchange_197 (by decide) ?_
        obtain ⟨u13, eu13, hf⟩ := z_bs hf
        obtain ⟨r14, er14, hf⟩ := z_bs hf
        refine z_callV (As := [.int 0]) (rest := []) (r := (some (.int r14.1))) (h' := r14.2) X hI eu13 (s_Cur_look er14) rfl rfl wm_Pa_42 yi_Cur_look rfl hl.1 rfl (Nat.le_of_ble_eq_true rfl) (by decide) (by decide) d_Pa_readExchange_198 (fun H locs hI => ?_)
        refine W.eq (g2 := F0 m 201 ls [.int (r14.1)]) rfl ?_
        obtain ⟨r15, er15, hf⟩ := z_bs hf
        refine z_callS (As := [.int (r14.1)]) (rest := []) (r := (some (.int r15.1))) (h' := r15.2) X hI (s_Pa_isExchangeable er15) rfl wm_Pa_226 yi_Pa_isExchangeable rfl hl.1 rfl (Nat.le_of_ble_eq_true rfl) (by decide) (by decide) d_Pa_readExchange_201 (fun H locs hI => ?_)
        refine W.eq (g2 := F0 m 204 ls [.int (r15.1)]) rfl ?_
        refine lv_if_ne (tgt := 216) hx hb d_Pa_readExchange_204 (by decide) (fun c16 => ?_) (fun c16 => ?_)
        · rw [if_neg c16] at hf
          refine lv_aload_n hx hb d_Pa_readExchange_216 rfl (lv_at hl 0 rfl) ?_
          obtain ⟨x17, ex17, hf⟩ := z_bs hf
          refine z_getF X hI (k := 0) (ci := 6) (gR_s ex17) i_Pa rfl (by decide) wf_Pa_12 d_Pa_readExchange_217 ?_
          refine lv_dup hx hb d_Pa_readExchange_220 rfl ?_
          obtain ⟨x18, ex18, hf⟩ := z_bs hf
          refine z_getF X hI (k := 1) (ci := 2) (gI_s ex18) i_Cur rfl (by decide) wf_Pa_46 d_Pa_readExchange_221 ?_
          refine lv_iconst (v := 1) hx hb d_Pa_readExchange_224 (by decide) ?_
          refine lv_iadd hx hb d_Pa_readExchange_225 ?_
          obtain ⟨h19, eh19, hf⟩ := z_bs hf
          refine z_putF X hI (k := 1) (ci := 2) (ty0 := t_Cur) eh19 i_Cur t_Cur_ok n_Cur rfl (by decide) wf_Pa_46 rfl rfl rfl d_Pa_readExchange_226 (fun H locs hI => ?_)
          obtain ⟨x20, ex20, hf⟩ := z_bs hf
          refine lv_iinc (v := x20) (lv' := [(1, .int x20), (0, .ref v0)]) hx hb d_Pa_readExchange_229 hl (k := 1) rfl (by rw [← Option.some.inj ex20]; rfl) (by decide) rfl (fun ls hl => ?_)
          refine lv_goto (tgt := 169) hx hb d_Pa_readExchange_232 (by decide) ?_
          exact ih v0 x20 h19 _ _ _ hI (lv_sub hl [1, 0] rfl) hf
        · rw [if_pos c16] at hf
          exact s_Pa_readExchange_207 X  v0 r15.2 _ _ _ hI (lv_sub hl [0] rfl) hf
def f_Pa_readExchange_120 (N : Nat)  (v0 : Nat) (h : z_H) : Option (Int32 × z_H) :=
  z_b (gR h v0 6 6) fun x1 =>
  z_b (gR h v0 6 0) fun x2 =>
  z_b (gI h x2 2 1) fun x3 =>
  z_b (sF h x1 1 10 (.int x3)) fun h4 =>
  z_b (gR h4 v0 6 0) fun x5 =>
  z_b (gI h4 x5 2 1) fun x6 =>
  z_b (sF h4 x5 2 1 (.int (x6 + 1))) fun h7 =>
  z_b (gR h7 v0 6 6) fun x8 =>
  z_b (gR h7 v0 6 0) fun x9 =>
  z_b (gI h7 x9 2 1) fun x10 =>
  z_b (sF h7 x8 1 11 (.int x10)) fun h11 =>
  z_b (gR h11 v0 6 6) fun x12 =>
  z_b (gI h11 x12 1 9) fun x13 =>
  f_Pa_readExchange_169 N N v0 x13 h11
set_option maxRecDepth 20000 in
set_option maxHeartbeats 2000000 in
theorem s_Pa_readExchange_120 (X : z_X p s m args meth c prog_8_method_22_code 2 (some .boolean) Ts "StreamForge$Parser" D dA B) {N : Nat} {r : Int32} {h' : z_H}   : ∀ (v0 : Nat) (h : z_H) (H : Heap) (locs : List Loc) (ls : Array Slot), z_I D dA B h s.heap H locs → lv_has ls 2 [(0, .ref v0)] → f_Pa_readExchange_120 N  v0 h = some (r, h') → W p l e (z_rm 2 43) s m args below meth c H locs 0 0 (MQ below (z_Q D dA B (some (.int r)) h') args s 0 0 (fun q => B ≤ q)) (F0 m 120 ls []) := by
  have hx := z_hx X
  have hb := z_hb X
  intro v0 h H locs ls hI hl hf
  unfold f_Pa_readExchange_120 at hf
  refine lv_aload_n hx hb d_Pa_readExchange_120 rfl (lv_at hl 0 rfl) ?_
  obtain ⟨x1, ex1, hf⟩ := z_bs hf
  refine z_getF X hI (k := 6) (ci := 6) (gR_s ex1) i_Pa rfl (by decide) wf_Pa_114 d_Pa_readExchange_121 ?_
  refine lv_aload_n hx hb d_Pa_readExchange_124 rfl (lv_at hl 0 rfl) ?_
  obtain ⟨x2, ex2, hf⟩ := z_bs hf
  refine z_getF X hI (k := 0) (ci := 6) (gR_s ex2) i_Pa rfl (by decide) wf_Pa_12 d_Pa_readExchange_125 ?_
  obtain ⟨x3, ex3, hf⟩ := z_bs hf
  refine z_getF X hI (k := 1) (ci := 2) (gI_s ex3) i_Cur rfl (by decide) wf_Pa_46 d_Pa_readExchange_128 ?_
  obtain ⟨h4, eh4, hf⟩ := z_bs hf
  refine z_putF X hI (k := 10) (ci := 1) (ty0 := t_Cmd) eh4 i_Cmd t_Cmd_ok n_Cmd rfl (by decide) wf_Pa_199 rfl rfl rfl d_Pa_readExchange_131 (fun H locs hI => ?_)
  refine lv_aload_n hx hb d_Pa_readExchange_134 rfl (lv_at hl 0 rfl) ?_
  obtain ⟨x5, ex5, hf⟩ := z_bs hf
  refine z_getF X hI (k := 0) (ci := 6) (gR_s ex5) i_Pa rfl (by decide) wf_Pa_12 d_Pa_readExchange_135 ?_
  refine lv_dup hx hb d_Pa_readExchange_138 rfl ?_
  obtain ⟨x6, ex6, hf⟩ := z_bs hf
  refine z_getF X hI (k := 1) (ci := 2) (gI_s ex6) i_Cur rfl (by decide) wf_Pa_46 d_Pa_readExchange_139 ?_
  refine lv_iconst (v := 1) hx hb d_Pa_readExchange_142 (by decide) ?_
  refine lv_iadd hx hb d_Pa_readExchange_143 ?_
  obtain ⟨h7, eh7, hf⟩ := z_bs hf
  refine z_putF X hI (k := 1) (ci := 2) (ty0 := t_Cur) eh7 i_Cur t_Cur_ok n_Cur rfl (by decide) wf_Pa_46 rfl rfl rfl d_Pa_readExchange_144 (fun H locs hI => ?_)
  refine lv_aload_n hx hb d_Pa_readExchange_147 rfl (lv_at hl 0 rfl) ?_
  obtain ⟨x8, ex8, hf⟩ := z_bs hf
  refine z_getF X hI (k := 6) (ci := 6) (gR_s ex8) i_Pa rfl (by decide) wf_Pa_114 d_Pa_readExchange_148 ?_
  refine lv_aload_n hx hb d_Pa_readExchange_151 rfl (lv_at hl 0 rfl) ?_
  obtain ⟨x9, ex9, hf⟩ := z_bs hf
  refine z_getF X hI (k := 0) (ci := 6) (gR_s ex9) i_Pa rfl (by decide) wf_Pa_12 d_Pa_readExchange_152 ?_
  obtain ⟨x10, ex10, hf⟩ := z_bs hf
  refine z_getF X hI (k := 1) (ci := 2) (gI_s ex10) i_Cur rfl (by decide) wf_Pa_46 d_Pa_readExchange_155 ?_
  obtain ⟨h11, eh11, hf⟩ := z_bs hf
  refine z_putF X hI (k := 11) (ci := 1) (ty0 := t_Cmd) eh11 i_Cmd t_Cmd_ok n_Cmd rfl (by decide) wf_Pa_232 rfl rfl rfl d_Pa_readExchange_158 (fun H locs hI => ?_)
  refine lv_aload_n hx hb d_Pa_readExchange_161 rfl (lv_at hl 0 rfl) ?_
  obtain ⟨x12, ex12, hf⟩ := z_bs hf
  refine z_getF X hI (k := 6) (ci := 6) (gR_s ex12) i_Pa rfl (by decide) wf_Pa_114 d_Pa_readExchange_162 ?_
  obtain ⟨x13, ex13, hf⟩ := z_bs hf
  refine z_getF X hI (k := 9) (ci := 1) (gI_s ex13) i_Cmd rfl (by decide) wf_Pa_193 d_Pa_readExchange_165 ?_
  refine lv_istore_n (lv' := [(1, .int x13), (0, .ref v0)]) hx hb d_Pa_readExchange_168 rfl hl (by decide) rfl (fun ls hl => ?_)
  exact s_Pa_readExchange_169 X  N v0 x13 h11 _ _ _ hI (lv_sub hl [1, 0] rfl) hf
def f_Pa_readExchange_43 (N : Nat)  : Nat → Nat → Int32 → z_H → Option (Int32 × z_H)
  | 0, _, _, _ => none
  | n + 1, v0, v1, h =>
    if 240 < v1 then
    (f_Pa_readExchange_120 N v0 h)
    else
    (z_b (gR h v0 6 0) fun x2 =>
    z_b (gO h x2 2) fun u3 =>
    z_b (f_Cur_look N x2 0 h) fun r4 =>
    if (r4.1) = 47 then
    (f_Pa_readExchange_120 N v0 r4.2)
    else
    (z_b (gR r4.2 v0 6 0) fun x6 =>
    z_b (gO r4.2 x6 2) fun u7 =>
    z_b (f_Cur_look N x6 0 r4.2) fun r8 =>
    z_b (f_Pa_isExchangeable N (r8.1) r8.2) fun r9 =>
    if (r9.1) = 0 then
    (f_Pa_readExchange_92 N v0 r9.2)
    else
    (z_b (gR r9.2 v0 6 0) fun x11 =>
    z_b (gO r9.2 x11 2) fun u12 =>
    z_b (f_Cur_look N x11 0 r9.2) fun r13 =>
    z_b (gO r13.2 v0 6) fun u14 =>
    z_b (f_Pa_wasExchanged N v0 (r13.1) r13.2) fun r15 =>
    if (r15.1) = 0 then
    (z_b (gR r15.2 v0 6 0) fun x17 =>
    z_b (gI r15.2 x17 2 1) fun x18 =>
    z_b (sF r15.2 x17 2 1 (.int (x18 + 1))) fun h19 =>
    z_b (some (v1 + 1)) fun x20 =>
    (f_Pa_readExchange_43 N  n) v0 x20 h19)
    else
    (f_Pa_readExchange_92 N v0 r15.2))))
set_option maxRecDepth 20000 in
set_option maxHeartbeats 2000000 in
theorem s_Pa_readExchange_43 (X : z_X p s m args meth c prog_8_method_22_code 2 (some .boolean) Ts "StreamForge$Parser" D dA B) {N : Nat} {r : Int32} {h' : z_H}   : ∀ n : Nat, ∀ (v0 : Nat) (v1 : Int32) (h : z_H) (H : Heap) (locs : List Loc) (ls : Array Slot), z_I D dA B h s.heap H locs → lv_has ls 2 [(0, .ref v0), (1, .int v1)] → f_Pa_readExchange_43 N  n v0 v1 h = some (r, h') → W p l e (z_rm 2 43) s m args below meth c H locs 0 0 (MQ below (z_Q D dA B (some (.int r)) h') args s 0 0 (fun q => B ≤ q)) (F0 m 43 ls []) := by
  have hx := z_hx X
  have hb := z_hb X
  intro n
  induction n with
  | zero => intro v0 v1 h H locs ls hI hl hf; rw [f_Pa_readExchange_43] at hf; cases hf
  | succ n ih =>
    intro v0 v1 h H locs ls hI hl hf
    rw [f_Pa_readExchange_43] at hf
    refine lv_iload_n hx hb d_Pa_readExchange_43 rfl (lv_at hl 1 rfl) ?_
    refine lv_sipush (v := 240) hx hb d_Pa_readExchange_44 (by decide) ?_
    refine lv_icmp_gt (tgt := 120) hx hb d_Pa_readExchange_47 (by decide) (fun c1 => ?_) (fun c1 => ?_)
    · rw [if_pos c1] at hf
      exact s_Pa_readExchange_120 X  v0 h _ _ _ hI (lv_sub hl [0] rfl) hf
    · rw [if_neg c1] at hf
      refine lv_aload_n hx hb d_Pa_readExchange_50 rfl (lv_at hl 0 rfl) ?_
      obtain ⟨x2, ex2, hf⟩ := z_bs hf
      refine z_getF X hI (k := 0) (ci := 6) (gR_s ex2) i_Pa rfl (by decide) wf_Pa_12 d_Pa_readExchange_51 ?_
      refine lv_iconst (v := 0) hx hb d_Pa_readExchange_54 (by decide) ?_
      obtain ⟨u3, eu3, hf⟩ := z_bs hf
      obtain ⟨r4, er4, hf⟩ := z_bs hf
      refine z_callV (As := [.int 0]) (rest := []) (r := (some (.int r4.1))) (h' := r4.2) X hI eu3 (s_Cur_look er4) rfl rfl wm_Pa_42 yi_Cur_look rfl hl.1 rfl (Nat.le_of_ble_eq_true rfl) (by decide) (by decide) d_Pa_readExchange_55 (fun H locs hI => ?_)
      refine W.eq (g2 := F0 m 58 ls [.int (r4.1)]) rfl ?_
      refine lv_bipush (v := 47) hx hb d_Pa_readExchange_58 (by decide) ?_
      refine lv_icmp_eq (tgt := 120) hx hb d_Pa_readExchange_60 (by decide) (fun c5 => ?_) (fun c5 => ?_)
      · rw [if_pos c5] at hf
        exact s_Pa_readExchange_120 X  v0 r4.2 _ _ _ hI (lv_sub hl [0] rfl) hf
      · rw [if_neg c5] at hf
        refine lv_aload_n hx hb d_Pa_readExchange_63 rfl (lv_at hl 0 rfl) ?_
        obtain ⟨x6, ex6, hf⟩ := z_bs hf
        refine z_getF X hI (k := 0) (ci := 6) (gR_s ex6) i_Pa rfl (by decide) wf_Pa_12 d_Pa_readExchange_64 ?_
        refine lv_iconst (v := 0) hx hb d_Pa_readExchange_67 (by decide) ?_
        obtain ⟨u7, eu7, hf⟩ := z_bs hf
        obtain ⟨r8, er8, hf⟩ := z_bs hf
        refine z_callV (As := [.int 0]) (rest := []) (r := (some (.int r8.1))) (h' := r8.2) X hI eu7 (s_Cur_look er8) rfl rfl wm_Pa_42 yi_Cur_look rfl hl.1 rfl (Nat.le_of_ble_eq_true rfl) (by decide) (by decide) d_Pa_readExchange_68 (fun H locs hI => ?_)
        refine W.eq (g2 := F0 m 71 ls [.int (r8.1)]) rfl ?_
        obtain ⟨r9, er9, hf⟩ := z_bs hf
        refine z_callS (As := [.int (r8.1)]) (rest := []) (r := (some (.int r9.1))) (h' := r9.2) X hI (s_Pa_isExchangeable er9) rfl wm_Pa_226 yi_Pa_isExchangeable rfl hl.1 rfl (Nat.le_of_ble_eq_true rfl) (by decide) (by decide) d_Pa_readExchange_71 (fun H locs hI => ?_)
        refine W.eq (g2 := F0 m 74 ls [.int (r9.1)]) rfl ?_
        refine lv_if_eq (tgt := 92) hx hb d_Pa_readExchange_74 (by decide) (fun c10 => ?_) (fun c10 => ?_)
        · rw [if_pos c10] at hf
          exact s_Pa_readExchange_92 X  v0 r9.2 _ _ _ hI (lv_sub hl [0] rfl) hf
        · rw [if_neg c10] at hf
          refine lv_aload_n hx hb d_Pa_readExchange_77 rfl (lv_at hl 0 rfl) ?_
          refine lv_aload_n hx hb d_Pa_readExchange_78 rfl (lv_at hl 0 rfl) ?_
          obtain ⟨x11, ex11, hf⟩ := z_bs hf
          refine z_getF X hI (k := 0) (ci := 6) (gR_s ex11) i_Pa rfl (by decide) wf_Pa_12 d_Pa_readExchange_79 ?_
          refine lv_iconst (v := 0) hx hb d_Pa_readExchange_82 (by decide) ?_
          obtain ⟨u12, eu12, hf⟩ := z_bs hf
          obtain ⟨r13, er13, hf⟩ := z_bs hf
          refine z_callV (As := [.int 0]) (rest := [.ref v0]) (r := (some (.int r13.1))) (h' := r13.2) X hI eu12 (s_Cur_look er13) rfl rfl wm_Pa_42 yi_Cur_look rfl hl.1 rfl (Nat.le_of_ble_eq_true rfl) (by decide) (by decide) d_Pa_readExchange_83 (fun H locs hI => ?_)
          refine W.eq (g2 := F0 m 86 ls [.int (r13.1), .ref v0]) rfl ?_
          obtain ⟨u14, eu14, hf⟩ := z_bs hf
          obtain ⟨r15, er15, hf⟩ := z_bs hf
          refine z_callV (As := [.int (r13.1)]) (rest := []) (r := (some (.int r15.1))) (h' := r15.2) X hI eu14 (s_Pa_wasExchanged er15) rfl rfl wm_Pa_229 yi_Pa_wasExchanged rfl hl.1 rfl (Nat.le_of_ble_eq_true rfl) (by decide) (by decide) d_Pa_readExchange_86 (fun H locs hI => ?_)
          refine W.eq (g2 := F0 m 89 ls [.int (r15.1)]) rfl ?_
          refine lv_if_eq (tgt := 101) hx hb d_Pa_readExchange_89 (by decide) (fun c16 => ?_) (fun c16 => ?_)
          · rw [if_pos c16] at hf
            refine lv_aload_n hx hb d_Pa_readExchange_101 rfl (lv_at hl 0 rfl) ?_
            obtain ⟨x17, ex17, hf⟩ := z_bs hf
            refine z_getF X hI (k := 0) (ci := 6) (gR_s ex17) i_Pa rfl (by decide) wf_Pa_12 d_Pa_readExchange_102 ?_
            refine lv_dup hx hb d_Pa_readExchange_105 rfl ?_
            obtain ⟨x18, ex18, hf⟩ := z_bs hf
            refine z_getF X hI (k := 1) (ci := 2) (gI_s ex18) i_Cur rfl (by decide) wf_Pa_46 d_Pa_readExchange_106 ?_
            refine lv_iconst (v := 1) hx hb d_Pa_readExchange_109 (by decide) ?_
            refine lv_iadd hx hb d_Pa_readExchange_110 ?_
            obtain ⟨h19, eh19, hf⟩ := z_bs hf
            refine z_putF X hI (k := 1) (ci := 2) (ty0 := t_Cur) eh19 i_Cur t_Cur_ok n_Cur rfl (by decide) wf_Pa_46 rfl rfl rfl d_Pa_readExchange_111 (fun H locs hI => ?_)
            obtain ⟨x20, ex20, hf⟩ := z_bs hf
            refine lv_iinc (v := x20) (lv' := [(1, .int x20), (0, .ref v0)]) hx hb d_Pa_readExchange_114 hl (k := 1) rfl (by rw [← Option.some.inj ex20]; rfl) (by decide) rfl (fun ls hl => ?_)
            refine lv_goto (tgt := 43) hx hb d_Pa_readExchange_117 (by decide) ?_
            exact ih v0 x20 h19 _ _ _ hI (lv_sub hl [1, 0] rfl) hf
          · rw [if_neg c16] at hf
            exact s_Pa_readExchange_92 X  v0 r15.2 _ _ _ hI (lv_sub hl [0] rfl) hf
def f_Pa_readExchange (N : Nat) (v0 : Nat) (h : z_H) : Option (Int32 × z_H) :=
  z_b (gR h v0 6 0) fun x1 =>
  z_b (gI h x1 2 1) fun x2 =>
  z_b (sF h x1 2 1 (.int (x2 + 1))) fun h3 =>
  z_b (gR h3 v0 6 0) fun x4 =>
  z_b (gO h3 x4 2) fun u5 =>
  z_b (f_Cur_pass N x4 47 h3) fun r6 =>
  if (r6.1) = 0 then
  (some (0, r6.2))
  else
  (z_b (gR r6.2 v0 6 6) fun x8 =>
  z_b (gR r6.2 v0 6 0) fun x9 =>
  z_b (gI r6.2 x9 2 1) fun x10 =>
  z_b (sF r6.2 x8 1 9 (.int x10)) fun h11 =>
  f_Pa_readExchange_43 N N v0 0 h11)
set_option maxRecDepth 20000 in
set_option maxHeartbeats 2000000 in
theorem s_Pa_readExchange {l : Launch} {D : va_G} {dA : Nat → ClassId} {B N : Nat} {v0 : Nat} {h h' : z_H} {r : Int32} (hf : f_Pa_readExchange N v0 h = some (r, h')) : z_Met l y_Pa_readExchange prog_8_method_22_code 2 (some .boolean) 2 43 D dA B [.ref v0] h (some (.int r)) h' := by
  refine z_of (by decide) (Nat.le_of_ble_eq_true rfl) (fun p e s m below meth c ls X hI hl => ?_)
  have hx := z_hx X
  have hb := z_hb X
  have hl : lv_has ls 2 [(0, .ref v0)] := hl
  unfold f_Pa_readExchange at hf
  obtain ⟨locs, hlo⟩ : ∃ z : List Loc, z = [] := ⟨_, rfl⟩
  rw [← hlo] at hI ⊢
  refine lv_aload_n hx hb d_Pa_readExchange_0 rfl (lv_at hl 0 rfl) ?_
  obtain ⟨x1, ex1, hf⟩ := z_bs hf
  refine z_getF X hI (k := 0) (ci := 6) (gR_s ex1) i_Pa rfl (by decide) wf_Pa_12 d_Pa_readExchange_1 ?_
  refine lv_dup hx hb d_Pa_readExchange_4 rfl ?_
  obtain ⟨x2, ex2, hf⟩ := z_bs hf
  refine z_getF X hI (k := 1) (ci := 2) (gI_s ex2) i_Cur rfl (by decide) wf_Pa_46 d_Pa_readExchange_5 ?_
  refine lv_iconst (v := 1) hx hb d_Pa_readExchange_8 (by decide) ?_
  refine lv_iadd hx hb d_Pa_readExchange_9 ?_
  obtain ⟨h3, eh3, hf⟩ := z_bs hf
  refine z_putF X hI (k := 1) (ci := 2) (ty0 := t_Cur) eh3 i_Cur t_Cur_ok n_Cur rfl (by decide) wf_Pa_46 rfl rfl rfl d_Pa_readExchange_10 (fun H locs hI => ?_)
  refine lv_aload_n hx hb d_Pa_readExchange_13 rfl (lv_at hl 0 rfl) ?_
  obtain ⟨x4, ex4, hf⟩ := z_bs hf
  refine z_getF X hI (k := 0) (ci := 6) (gR_s ex4) i_Pa rfl (by decide) wf_Pa_12 d_Pa_readExchange_14 ?_
  refine lv_bipush (v := 47) hx hb d_Pa_readExchange_17 (by decide) ?_
  obtain ⟨u5, eu5, hf⟩ := z_bs hf
  obtain ⟨r6, er6, hf⟩ := z_bs hf
  refine z_callV (As := [.int 47]) (rest := []) (r := (some (.int r6.1))) (h' := r6.2) X hI eu5 (s_Cur_pass er6) rfl rfl wm_Pa_190 yi_Cur_pass rfl hl.1 rfl (Nat.le_of_ble_eq_true rfl) (by decide) (by decide) d_Pa_readExchange_19 (fun H locs hI => ?_)
  refine W.eq (g2 := F0 m 22 ls [.int (r6.1)]) rfl ?_
  refine lv_if_ne (tgt := 27) hx hb d_Pa_readExchange_22 (by decide) (fun c7 => ?_) (fun c7 => ?_)
  · rw [if_neg c7] at hf
    refine lv_aload_n hx hb d_Pa_readExchange_27 rfl (lv_at hl 0 rfl) ?_
    obtain ⟨x8, ex8, hf⟩ := z_bs hf
    refine z_getF X hI (k := 6) (ci := 6) (gR_s ex8) i_Pa rfl (by decide) wf_Pa_114 d_Pa_readExchange_28 ?_
    refine lv_aload_n hx hb d_Pa_readExchange_31 rfl (lv_at hl 0 rfl) ?_
    obtain ⟨x9, ex9, hf⟩ := z_bs hf
    refine z_getF X hI (k := 0) (ci := 6) (gR_s ex9) i_Pa rfl (by decide) wf_Pa_12 d_Pa_readExchange_32 ?_
    obtain ⟨x10, ex10, hf⟩ := z_bs hf
    refine z_getF X hI (k := 1) (ci := 2) (gI_s ex10) i_Cur rfl (by decide) wf_Pa_46 d_Pa_readExchange_35 ?_
    obtain ⟨h11, eh11, hf⟩ := z_bs hf
    refine z_putF X hI (k := 9) (ci := 1) (ty0 := t_Cmd) eh11 i_Cmd t_Cmd_ok n_Cmd rfl (by decide) wf_Pa_193 rfl rfl rfl d_Pa_readExchange_38 (fun H locs hI => ?_)
    refine lv_iconst (v := 0) hx hb d_Pa_readExchange_41 (by decide) ?_
    refine lv_istore_n (lv' := [(1, .int 0), (0, .ref v0)]) hx hb d_Pa_readExchange_42 rfl hl (by decide) rfl (fun ls hl => ?_)
    exact s_Pa_readExchange_43 X  N v0 0 h11 _ _ _ hI (lv_sub hl [1, 0] rfl) hf
  · rw [if_pos c7] at hf
    refine lv_iconst (v := 0) hx hb d_Pa_readExchange_25 (by decide) ?_
    cases hf
    exact z_zret X hI (Or.inl rfl) d_Pa_readExchange_26
def f_Pa_readText (N : Nat) (v0 : Nat) (h : z_H) : Option (Int32 × z_H) :=
  z_b (gR h v0 6 0) fun x1 =>
  z_b (gI h x1 2 1) fun x2 =>
  z_b (sF h x1 2 1 (.int (x2 + 1))) fun h3 =>
  z_b (gR h3 v0 6 0) fun x4 =>
  z_b (gO h3 x4 2) fun u5 =>
  z_b (f_Cur_pass N x4 32 h3) fun r6 =>
  if (r6.1) = 0 then
  (some (0, r6.2))
  else
  (z_b (gR r6.2 v0 6 6) fun x8 =>
  z_b (gR r6.2 v0 6 0) fun x9 =>
  z_b (gI r6.2 x9 2 1) fun x10 =>
  z_b (sF r6.2 x8 1 9 (.int x10)) fun h11 =>
  z_b (gR h11 v0 6 6) fun x12 =>
  z_b (gR h11 v0 6 5) fun x13 =>
  z_b (gR h11 x13 9 0) fun x14 =>
  z_b (gR h11 v0 6 0) fun x15 =>
  z_b (gI h11 x15 2 1) fun x16 =>
  z_b (gO h11 x14 10) fun u17 =>
  z_b (f_Row_newlineFrom N x14 x16 h11) fun r18 =>
  z_b (sF r18.2 x12 1 10 (.int (r18.1))) fun h19 =>
  z_b (gR h19 v0 6 0) fun x20 =>
  z_b (gR h19 v0 6 6) fun x21 =>
  z_b (gI h19 x21 1 10) fun x22 =>
  z_b (sF h19 x20 2 1 (.int x22)) fun h23 =>
  some (1, h23))
set_option maxRecDepth 20000 in
set_option maxHeartbeats 2000000 in
theorem s_Pa_readText {l : Launch} {D : va_G} {dA : Nat → ClassId} {B N : Nat} {v0 : Nat} {h h' : z_H} {r : Int32} (hf : f_Pa_readText N v0 h = some (r, h')) : z_Met l y_Pa_readText prog_8_method_17_code 1 (some .boolean) 2 43 D dA B [.ref v0] h (some (.int r)) h' := by
  refine z_of (by decide) (Nat.le_of_ble_eq_true rfl) (fun p e s m below meth c ls X hI hl => ?_)
  have hx := z_hx X
  have hb := z_hb X
  have hl : lv_has ls 1 [(0, .ref v0)] := hl
  unfold f_Pa_readText at hf
  obtain ⟨locs, hlo⟩ : ∃ z : List Loc, z = [] := ⟨_, rfl⟩
  rw [← hlo] at hI ⊢
  refine lv_aload_n hx hb d_Pa_readText_0 rfl (lv_at hl 0 rfl) ?_
  obtain ⟨x1, ex1, hf⟩ := z_bs hf
  refine z_getF X hI (k := 0) (ci := 6) (gR_s ex1) i_Pa rfl (by decide) wf_Pa_12 d_Pa_readText_1 ?_
  refine lv_dup hx hb d_Pa_readText_4 rfl ?_
  obtain ⟨x2, ex2, hf⟩ := z_bs hf
  refine z_getF X hI (k := 1) (ci := 2) (gI_s ex2) i_Cur rfl (by decide) wf_Pa_46 d_Pa_readText_5 ?_
  refine lv_iconst (v := 1) hx hb d_Pa_readText_8 (by decide) ?_
  refine lv_iadd hx hb d_Pa_readText_9 ?_
  obtain ⟨h3, eh3, hf⟩ := z_bs hf
  refine z_putF X hI (k := 1) (ci := 2) (ty0 := t_Cur) eh3 i_Cur t_Cur_ok n_Cur rfl (by decide) wf_Pa_46 rfl rfl rfl d_Pa_readText_10 (fun H locs hI => ?_)
  refine lv_aload_n hx hb d_Pa_readText_13 rfl (lv_at hl 0 rfl) ?_
  obtain ⟨x4, ex4, hf⟩ := z_bs hf
  refine z_getF X hI (k := 0) (ci := 6) (gR_s ex4) i_Pa rfl (by decide) wf_Pa_12 d_Pa_readText_14 ?_
  refine lv_bipush (v := 32) hx hb d_Pa_readText_17 (by decide) ?_
  obtain ⟨u5, eu5, hf⟩ := z_bs hf
  obtain ⟨r6, er6, hf⟩ := z_bs hf
  refine z_callV (As := [.int 32]) (rest := []) (r := (some (.int r6.1))) (h' := r6.2) X hI eu5 (s_Cur_pass er6) rfl rfl wm_Pa_190 yi_Cur_pass rfl hl.1 rfl (Nat.le_of_ble_eq_true rfl) (by decide) (by decide) d_Pa_readText_19 (fun H locs hI => ?_)
  refine W.eq (g2 := F0 m 22 ls [.int (r6.1)]) rfl ?_
  refine lv_if_ne (tgt := 27) hx hb d_Pa_readText_22 (by decide) (fun c7 => ?_) (fun c7 => ?_)
  · rw [if_neg c7] at hf
    refine lv_aload_n hx hb d_Pa_readText_27 rfl (lv_at hl 0 rfl) ?_
    obtain ⟨x8, ex8, hf⟩ := z_bs hf
    refine z_getF X hI (k := 6) (ci := 6) (gR_s ex8) i_Pa rfl (by decide) wf_Pa_114 d_Pa_readText_28 ?_
    refine lv_aload_n hx hb d_Pa_readText_31 rfl (lv_at hl 0 rfl) ?_
    obtain ⟨x9, ex9, hf⟩ := z_bs hf
    refine z_getF X hI (k := 0) (ci := 6) (gR_s ex9) i_Pa rfl (by decide) wf_Pa_12 d_Pa_readText_32 ?_
    obtain ⟨x10, ex10, hf⟩ := z_bs hf
    refine z_getF X hI (k := 1) (ci := 2) (gI_s ex10) i_Cur rfl (by decide) wf_Pa_46 d_Pa_readText_35 ?_
    obtain ⟨h11, eh11, hf⟩ := z_bs hf
    refine z_putF X hI (k := 9) (ci := 1) (ty0 := t_Cmd) eh11 i_Cmd t_Cmd_ok n_Cmd rfl (by decide) wf_Pa_193 rfl rfl rfl d_Pa_readText_38 (fun H locs hI => ?_)
    refine lv_aload_n hx hb d_Pa_readText_41 rfl (lv_at hl 0 rfl) ?_
    obtain ⟨x12, ex12, hf⟩ := z_bs hf
    refine z_getF X hI (k := 6) (ci := 6) (gR_s ex12) i_Pa rfl (by decide) wf_Pa_114 d_Pa_readText_42 ?_
    refine lv_aload_n hx hb d_Pa_readText_45 rfl (lv_at hl 0 rfl) ?_
    obtain ⟨x13, ex13, hf⟩ := z_bs hf
    refine z_getF X hI (k := 5) (ci := 6) (gR_s ex13) i_Pa rfl (by decide) wf_Pa_72 d_Pa_readText_46 ?_
    obtain ⟨x14, ex14, hf⟩ := z_bs hf
    refine z_getF X hI (k := 0) (ci := 9) (gR_s ex14) i_Prog rfl (by decide) wf_Pa_76 d_Pa_readText_49 ?_
    refine lv_aload_n hx hb d_Pa_readText_52 rfl (lv_at hl 0 rfl) ?_
    obtain ⟨x15, ex15, hf⟩ := z_bs hf
    refine z_getF X hI (k := 0) (ci := 6) (gR_s ex15) i_Pa rfl (by decide) wf_Pa_12 d_Pa_readText_53 ?_
    obtain ⟨x16, ex16, hf⟩ := z_bs hf
    refine z_getF X hI (k := 1) (ci := 2) (gI_s ex16) i_Cur rfl (by decide) wf_Pa_46 d_Pa_readText_56 ?_
    obtain ⟨u17, eu17, hf⟩ := z_bs hf
    obtain ⟨r18, er18, hf⟩ := z_bs hf
    refine z_callV (As := [.int x16]) (rest := [.ref x12]) (r := (some (.int r18.1))) (h' := r18.2) X hI eu17 (s_Row_newlineFrom er18) rfl rfl wm_Pa_196 yi_Row_newlineFrom rfl hl.1 rfl (Nat.le_of_ble_eq_true rfl) (by decide) (by decide) d_Pa_readText_59 (fun H locs hI => ?_)
    refine W.eq (g2 := F0 m 62 ls [.int (r18.1), .ref x12]) rfl ?_
    obtain ⟨h19, eh19, hf⟩ := z_bs hf
    refine z_putF X hI (k := 10) (ci := 1) (ty0 := t_Cmd) eh19 i_Cmd t_Cmd_ok n_Cmd rfl (by decide) wf_Pa_199 rfl rfl rfl d_Pa_readText_62 (fun H locs hI => ?_)
    refine lv_aload_n hx hb d_Pa_readText_65 rfl (lv_at hl 0 rfl) ?_
    obtain ⟨x20, ex20, hf⟩ := z_bs hf
    refine z_getF X hI (k := 0) (ci := 6) (gR_s ex20) i_Pa rfl (by decide) wf_Pa_12 d_Pa_readText_66 ?_
    refine lv_aload_n hx hb d_Pa_readText_69 rfl (lv_at hl 0 rfl) ?_
    obtain ⟨x21, ex21, hf⟩ := z_bs hf
    refine z_getF X hI (k := 6) (ci := 6) (gR_s ex21) i_Pa rfl (by decide) wf_Pa_114 d_Pa_readText_70 ?_
    obtain ⟨x22, ex22, hf⟩ := z_bs hf
    refine z_getF X hI (k := 10) (ci := 1) (gI_s ex22) i_Cmd rfl (by decide) wf_Pa_199 d_Pa_readText_73 ?_
    obtain ⟨h23, eh23, hf⟩ := z_bs hf
    refine z_putF X hI (k := 1) (ci := 2) (ty0 := t_Cur) eh23 i_Cur t_Cur_ok n_Cur rfl (by decide) wf_Pa_46 rfl rfl rfl d_Pa_readText_76 (fun H locs hI => ?_)
    refine lv_iconst (v := 1) hx hb d_Pa_readText_79 (by decide) ?_
    cases hf
    exact z_zret X hI (Or.inr rfl) d_Pa_readText_80
  · rw [if_pos c7] at hf
    refine lv_iconst (v := 0) hx hb d_Pa_readText_25 (by decide) ?_
    cases hf
    exact z_zret X hI (Or.inl rfl) d_Pa_readText_26
def f_Pa_readAction (N : Nat) (v0 : Nat) (h : z_H) : Option (Int32 × z_H) :=
  z_b (gR h v0 6 0) fun x1 =>
  z_b (gO h x1 2) fun u2 =>
  z_b (f_Cur_look N x1 0 h) fun r3 =>
  z_b (some (r3.1)) fun x4 =>
  z_b (gR r3.2 v0 6 6) fun x5 =>
  z_b (sF r3.2 x5 1 3 (.int x4)) fun h6 =>
  z_b (gR h6 v0 6 6) fun x7 =>
  z_b (gR h6 v0 6 0) fun x8 =>
  z_b (gI h6 x8 2 1) fun x9 =>
  z_b (sF h6 x7 1 4 (.int x9)) fun h10 =>
  if x4 = 58 then
  (z_b (gO h10 v0 6) fun u12 =>
  z_b (f_Pa_placeLabel N v0 h10) fun r13 =>
  if (r13.1) = 0 then
  (some (0, r13.2))
  else
  (z_b (gO r13.2 v0 6) fun u15 =>
  z_b (f_Pa_endCommand N v0 r13.2) fun r16 =>
  if (r16.1) = 0 then
  (some (0, r16.2))
  else
  (some (1, r16.2))))
  else
  (
  if x4 = 61 then
  (z_b (gR h10 v0 6 0) fun x19 =>
  z_b (gI h10 x19 2 1) fun x20 =>
  z_b (sF h10 x19 2 1 (.int (x20 + 1))) fun h21 =>
  z_b (gO h21 v0 6) fun u22 =>
  z_b (f_Pa_endCommand N v0 h21) fun r23 =>
  z_b (zB (r23.1)) fun x24 =>
  some (x24, r23.2))
  else
  (
  if x4 = 68 then
  (z_b (gR h10 v0 6 0) fun x26 =>
  z_b (gI h10 x26 2 1) fun x27 =>
  z_b (sF h10 x26 2 1 (.int (x27 + 1))) fun h28 =>
  z_b (gO h28 v0 6) fun u29 =>
  z_b (f_Pa_endCommand N v0 h28) fun r30 =>
  z_b (zB (r30.1)) fun x31 =>
  some (x31, r30.2))
  else
  (
  if x4 = 71 then
  (z_b (gR h10 v0 6 0) fun x33 =>
  z_b (gI h10 x33 2 1) fun x34 =>
  z_b (sF h10 x33 2 1 (.int (x34 + 1))) fun h35 =>
  z_b (gO h35 v0 6) fun u36 =>
  z_b (f_Pa_endCommand N v0 h35) fun r37 =>
  z_b (zB (r37.1)) fun x38 =>
  some (x38, r37.2))
  else
  (
  if x4 = 72 then
  (z_b (gR h10 v0 6 0) fun x40 =>
  z_b (gI h10 x40 2 1) fun x41 =>
  z_b (sF h10 x40 2 1 (.int (x41 + 1))) fun h42 =>
  z_b (gO h42 v0 6) fun u43 =>
  z_b (f_Pa_endCommand N v0 h42) fun r44 =>
  z_b (zB (r44.1)) fun x45 =>
  some (x45, r44.2))
  else
  (
  if x4 = 78 then
  (z_b (gR h10 v0 6 0) fun x47 =>
  z_b (gI h10 x47 2 1) fun x48 =>
  z_b (sF h10 x47 2 1 (.int (x48 + 1))) fun h49 =>
  z_b (gO h49 v0 6) fun u50 =>
  z_b (f_Pa_endCommand N v0 h49) fun r51 =>
  z_b (zB (r51.1)) fun x52 =>
  some (x52, r51.2))
  else
  (
  if x4 = 80 then
  (z_b (gR h10 v0 6 0) fun x54 =>
  z_b (gI h10 x54 2 1) fun x55 =>
  z_b (sF h10 x54 2 1 (.int (x55 + 1))) fun h56 =>
  z_b (gO h56 v0 6) fun u57 =>
  z_b (f_Pa_endCommand N v0 h56) fun r58 =>
  z_b (zB (r58.1)) fun x59 =>
  some (x59, r58.2))
  else
  (
  if x4 = 97 then
  (z_b (gO h10 v0 6) fun u61 =>
  z_b (f_Pa_readText N v0 h10) fun r62 =>
  z_b (zB (r62.1)) fun x63 =>
  some (x63, r62.2))
  else
  (
  if x4 = 98 then
  (z_b (gO h10 v0 6) fun u65 =>
  z_b (f_Pa_readBranch N v0 h10) fun r66 =>
  if (r66.1) = 0 then
  (some (0, r66.2))
  else
  (z_b (gO r66.2 v0 6) fun u68 =>
  z_b (f_Pa_endCommand N v0 r66.2) fun r69 =>
  if (r69.1) = 0 then
  (some (0, r69.2))
  else
  (some (1, r69.2))))
  else
  (
  if x4 = 99 then
  (z_b (gO h10 v0 6) fun u72 =>
  z_b (f_Pa_readText N v0 h10) fun r73 =>
  z_b (zB (r73.1)) fun x74 =>
  some (x74, r73.2))
  else
  (
  if x4 = 100 then
  (z_b (gR h10 v0 6 0) fun x76 =>
  z_b (gI h10 x76 2 1) fun x77 =>
  z_b (sF h10 x76 2 1 (.int (x77 + 1))) fun h78 =>
  z_b (gO h78 v0 6) fun u79 =>
  z_b (f_Pa_endCommand N v0 h78) fun r80 =>
  z_b (zB (r80.1)) fun x81 =>
  some (x81, r80.2))
  else
  (
  if x4 = 103 then
  (z_b (gR h10 v0 6 0) fun x83 =>
  z_b (gI h10 x83 2 1) fun x84 =>
  z_b (sF h10 x83 2 1 (.int (x84 + 1))) fun h85 =>
  z_b (gO h85 v0 6) fun u86 =>
  z_b (f_Pa_endCommand N v0 h85) fun r87 =>
  z_b (zB (r87.1)) fun x88 =>
  some (x88, r87.2))
  else
  (
  if x4 = 104 then
  (z_b (gR h10 v0 6 0) fun x90 =>
  z_b (gI h10 x90 2 1) fun x91 =>
  z_b (sF h10 x90 2 1 (.int (x91 + 1))) fun h92 =>
  z_b (gO h92 v0 6) fun u93 =>
  z_b (f_Pa_endCommand N v0 h92) fun r94 =>
  z_b (zB (r94.1)) fun x95 =>
  some (x95, r94.2))
  else
  (
  if x4 = 105 then
  (z_b (gO h10 v0 6) fun u97 =>
  z_b (f_Pa_readText N v0 h10) fun r98 =>
  z_b (zB (r98.1)) fun x99 =>
  some (x99, r98.2))
  else
  (
  if x4 = 110 then
  (z_b (gR h10 v0 6 0) fun x101 =>
  z_b (gI h10 x101 2 1) fun x102 =>
  z_b (sF h10 x101 2 1 (.int (x102 + 1))) fun h103 =>
  z_b (gO h103 v0 6) fun u104 =>
  z_b (f_Pa_endCommand N v0 h103) fun r105 =>
  z_b (zB (r105.1)) fun x106 =>
  some (x106, r105.2))
  else
  (
  if x4 = 112 then
  (z_b (gR h10 v0 6 0) fun x108 =>
  z_b (gI h10 x108 2 1) fun x109 =>
  z_b (sF h10 x108 2 1 (.int (x109 + 1))) fun h110 =>
  z_b (gO h110 v0 6) fun u111 =>
  z_b (f_Pa_endCommand N v0 h110) fun r112 =>
  z_b (zB (r112.1)) fun x113 =>
  some (x113, r112.2))
  else
  (
  if x4 = 113 then
  (z_b (gR h10 v0 6 0) fun x115 =>
  z_b (gI h10 x115 2 1) fun x116 =>
  z_b (sF h10 x115 2 1 (.int (x116 + 1))) fun h117 =>
  z_b (gO h117 v0 6) fun u118 =>
  z_b (f_Pa_endCommand N v0 h117) fun r119 =>
  z_b (zB (r119.1)) fun x120 =>
  some (x120, r119.2))
  else
  (
  if x4 = 115 then
  (z_b (gO h10 v0 6) fun u122 =>
  z_b (f_Pa_readSubstitution N v0 h10) fun r123 =>
  if (r123.1) = 0 then
  (some (0, r123.2))
  else
  (z_b (gO r123.2 v0 6) fun u125 =>
  z_b (f_Pa_endCommand N v0 r123.2) fun r126 =>
  if (r126.1) = 0 then
  (some (0, r126.2))
  else
  (some (1, r126.2))))
  else
  (
  if x4 = 116 then
  (z_b (gO h10 v0 6) fun u129 =>
  z_b (f_Pa_readBranch N v0 h10) fun r130 =>
  if (r130.1) = 0 then
  (some (0, r130.2))
  else
  (z_b (gO r130.2 v0 6) fun u132 =>
  z_b (f_Pa_endCommand N v0 r130.2) fun r133 =>
  if (r133.1) = 0 then
  (some (0, r133.2))
  else
  (some (1, r133.2))))
  else
  (
  if x4 = 120 then
  (z_b (gR h10 v0 6 0) fun x136 =>
  z_b (gI h10 x136 2 1) fun x137 =>
  z_b (sF h10 x136 2 1 (.int (x137 + 1))) fun h138 =>
  z_b (gO h138 v0 6) fun u139 =>
  z_b (f_Pa_endCommand N v0 h138) fun r140 =>
  z_b (zB (r140.1)) fun x141 =>
  some (x141, r140.2))
  else
  (
  if x4 = 121 then
  (z_b (gO h10 v0 6) fun u143 =>
  z_b (f_Pa_readExchange N v0 h10) fun r144 =>
  if (r144.1) = 0 then
  (some (0, r144.2))
  else
  (z_b (gO r144.2 v0 6) fun u146 =>
  z_b (f_Pa_endCommand N v0 r144.2) fun r147 =>
  if (r147.1) = 0 then
  (some (0, r147.2))
  else
  (some (1, r147.2))))
  else
  (
  if x4 = 123 then
  (z_b (gO h10 v0 6) fun u150 =>
  z_b (f_Pa_openBlock N v0 h10) fun r151 =>
  z_b (zB (r151.1)) fun x152 =>
  some (x152, r151.2))
  else
  (
  z_b (gR h10 v0 6 0) fun x153 =>
  z_b (gO h10 x153 2) fun u154 =>
  z_b (f_Cur_refuse N x153 0 h10) fun r155 =>
  z_b (zB (r155.1)) fun x156 =>
  some (x156, r155.2)))))))))))))))))))))))
set_option maxRecDepth 20000 in
set_option maxHeartbeats 2000000 in
theorem s_Pa_readAction {l : Launch} {D : va_G} {dA : Nat → ClassId} {B N : Nat} {v0 : Nat} {h h' : z_H} {r : Int32} (hf : f_Pa_readAction N v0 h = some (r, h')) : z_Met l y_Pa_readAction prog_8_method_11_code 2 (some .boolean) 5 115 D dA B [.ref v0] h (some (.int r)) h' := by
  refine z_of (by decide) (Nat.le_of_ble_eq_true rfl) (fun p e s m below meth c ls X hI hl => ?_)
  have hx := z_hx X
  have hb := z_hb X
  have hl : lv_has ls 2 [(0, .ref v0)] := hl
  unfold f_Pa_readAction at hf
  obtain ⟨locs, hlo⟩ : ∃ z : List Loc, z = [] := ⟨_, rfl⟩
  rw [← hlo] at hI ⊢
  refine lv_aload_n hx hb d_Pa_readAction_0 rfl (lv_at hl 0 rfl) ?_
  obtain ⟨x1, ex1, hf⟩ := z_bs hf
  refine z_getF X hI (k := 0) (ci := 6) (gR_s ex1) i_Pa rfl (by decide) wf_Pa_12 d_Pa_readAction_1 ?_
  refine lv_iconst (v := 0) hx hb d_Pa_readAction_4 (by decide) ?_
  obtain ⟨u2, eu2, hf⟩ := z_bs hf
  obtain ⟨r3, er3, hf⟩ := z_bs hf
  refine z_callV (As := [.int 0]) (rest := []) (r := (some (.int r3.1))) (h' := r3.2) X hI eu2 (s_Cur_look er3) rfl rfl wm_Pa_42 yi_Cur_look rfl hl.1 rfl (Nat.le_of_ble_eq_true rfl) (by decide) (by decide) d_Pa_readAction_5 (fun H locs hI => ?_)
  refine W.eq (g2 := F0 m 8 ls [.int (r3.1)]) rfl ?_
  obtain ⟨x4, ex4, hf⟩ := z_bs hf
  refine z_topi (Option.some.inj ex4) ?_
  refine lv_istore_n (lv' := [(1, .int x4), (0, .ref v0)]) hx hb d_Pa_readAction_8 rfl hl (by decide) rfl (fun ls hl => ?_)
  refine lv_aload_n hx hb d_Pa_readAction_9 rfl (lv_at hl 1 rfl) ?_
  obtain ⟨x5, ex5, hf⟩ := z_bs hf
  refine z_getF X hI (k := 6) (ci := 6) (gR_s ex5) i_Pa rfl (by decide) wf_Pa_114 d_Pa_readAction_10 ?_
  refine lv_iload_n hx hb d_Pa_readAction_13 rfl (lv_at hl 0 rfl) ?_
  obtain ⟨h6, eh6, hf⟩ := z_bs hf
  refine z_putF X hI (k := 3) (ci := 1) (ty0 := t_Cmd) eh6 i_Cmd t_Cmd_ok n_Cmd rfl (by decide) wf_Pa_161 rfl rfl rfl d_Pa_readAction_14 (fun H locs hI => ?_)
  refine lv_aload_n hx hb d_Pa_readAction_17 rfl (lv_at hl 1 rfl) ?_
  obtain ⟨x7, ex7, hf⟩ := z_bs hf
  refine z_getF X hI (k := 6) (ci := 6) (gR_s ex7) i_Pa rfl (by decide) wf_Pa_114 d_Pa_readAction_18 ?_
  refine lv_aload_n hx hb d_Pa_readAction_21 rfl (lv_at hl 1 rfl) ?_
  obtain ⟨x8, ex8, hf⟩ := z_bs hf
  refine z_getF X hI (k := 0) (ci := 6) (gR_s ex8) i_Pa rfl (by decide) wf_Pa_12 d_Pa_readAction_22 ?_
  obtain ⟨x9, ex9, hf⟩ := z_bs hf
  refine z_getF X hI (k := 1) (ci := 2) (gI_s ex9) i_Cur rfl (by decide) wf_Pa_46 d_Pa_readAction_25 ?_
  obtain ⟨h10, eh10, hf⟩ := z_bs hf
  refine z_putF X hI (k := 4) (ci := 1) (ty0 := t_Cmd) eh10 i_Cmd t_Cmd_ok n_Cmd rfl (by decide) wf_Pa_162 rfl rfl rfl d_Pa_readAction_28 (fun H locs hI => ?_)
  refine lv_iload_n hx hb d_Pa_readAction_31 rfl (lv_at hl 0 rfl) ?_
  by_cases c11 : x4 = 58
  · rw [if_pos c11] at hf
    refine lv_tableIn (off := 285) (tgt := 317) hx hb d_Pa_readAction_32 (by rw [c11]; decide) (by rw [c11]; decide) (by rw [c11]; rfl) (by decide) ?_
    refine lv_aload_n hx hb d_Pa_readAction_317 rfl (lv_at hl 1 rfl) ?_
    obtain ⟨u12, eu12, hf⟩ := z_bs hf
    obtain ⟨r13, er13, hf⟩ := z_bs hf
    refine z_callV (As := []) (rest := []) (r := (some (.int r13.1))) (h' := r13.2) X hI eu12 (s_Pa_placeLabel er13) rfl rfl wm_Pa_166 yi_Pa_placeLabel rfl hl.1 rfl (Nat.le_of_ble_eq_true rfl) (by decide) (by decide) d_Pa_readAction_318 (fun H locs hI => ?_)
    refine W.eq (g2 := F0 m 321 ls [.int (r13.1)]) rfl ?_
    refine lv_if_eq (tgt := 335) hx hb d_Pa_readAction_321 (by decide) (fun c14 => ?_) (fun c14 => ?_)
    · rw [if_pos c14] at hf
      refine lv_iconst (v := 0) hx hb d_Pa_readAction_335 (by decide) ?_
      cases hf
      exact z_zret X hI (Or.inl rfl) d_Pa_readAction_336
    · rw [if_neg c14] at hf
      refine lv_aload_n hx hb d_Pa_readAction_324 rfl (lv_at hl 1 rfl) ?_
      obtain ⟨u15, eu15, hf⟩ := z_bs hf
      obtain ⟨r16, er16, hf⟩ := z_bs hf
      refine z_callV (As := []) (rest := []) (r := (some (.int r16.1))) (h' := r16.2) X hI eu15 (s_Pa_endCommand er16) rfl rfl wm_Pa_169 yi_Pa_endCommand rfl hl.1 rfl (Nat.le_of_ble_eq_true rfl) (by decide) (by decide) d_Pa_readAction_325 (fun H locs hI => ?_)
      refine W.eq (g2 := F0 m 328 ls [.int (r16.1)]) rfl ?_
      refine lv_if_eq (tgt := 335) hx hb d_Pa_readAction_328 (by decide) (fun c17 => ?_) (fun c17 => ?_)
      · rw [if_pos c17] at hf
        refine lv_iconst (v := 0) hx hb d_Pa_readAction_335 (by decide) ?_
        cases hf
        exact z_zret X hI (Or.inl rfl) d_Pa_readAction_336
      · rw [if_neg c17] at hf
        refine lv_iconst (v := 1) hx hb d_Pa_readAction_331 (by decide) ?_
        refine lv_goto (tgt := 336) hx hb d_Pa_readAction_332 (by decide) ?_
        cases hf
        exact z_zret X hI (Or.inr rfl) d_Pa_readAction_336
  · rw [if_neg c11] at hf
    by_cases c18 : x4 = 61
    · rw [if_pos c18] at hf
      refine lv_tableIn (off := 370) (tgt := 402) hx hb d_Pa_readAction_32 (by rw [c18]; decide) (by rw [c18]; decide) (by rw [c18]; rfl) (by decide) ?_
      refine lv_aload_n hx hb d_Pa_readAction_402 rfl (lv_at hl 1 rfl) ?_
      obtain ⟨x19, ex19, hf⟩ := z_bs hf
      refine z_getF X hI (k := 0) (ci := 6) (gR_s ex19) i_Pa rfl (by decide) wf_Pa_12 d_Pa_readAction_403 ?_
      refine lv_dup hx hb d_Pa_readAction_406 rfl ?_
      obtain ⟨x20, ex20, hf⟩ := z_bs hf
      refine z_getF X hI (k := 1) (ci := 2) (gI_s ex20) i_Cur rfl (by decide) wf_Pa_46 d_Pa_readAction_407 ?_
      refine lv_iconst (v := 1) hx hb d_Pa_readAction_410 (by decide) ?_
      refine lv_iadd hx hb d_Pa_readAction_411 ?_
      obtain ⟨h21, eh21, hf⟩ := z_bs hf
      refine z_putF X hI (k := 1) (ci := 2) (ty0 := t_Cur) eh21 i_Cur t_Cur_ok n_Cur rfl (by decide) wf_Pa_46 rfl rfl rfl d_Pa_readAction_412 (fun H locs hI => ?_)
      refine lv_aload_n hx hb d_Pa_readAction_415 rfl (lv_at hl 1 rfl) ?_
      obtain ⟨u22, eu22, hf⟩ := z_bs hf
      obtain ⟨r23, er23, hf⟩ := z_bs hf
      refine z_callV (As := []) (rest := []) (r := (some (.int r23.1))) (h' := r23.2) X hI eu22 (s_Pa_endCommand er23) rfl rfl wm_Pa_169 yi_Pa_endCommand rfl hl.1 rfl (Nat.le_of_ble_eq_true rfl) (by decide) (by decide) d_Pa_readAction_416 (fun H locs hI => ?_)
      refine W.eq (g2 := F0 m 419 ls [.int (r23.1)]) rfl ?_
      obtain ⟨x24, ex24, hf⟩ := z_bs hf
      refine z_topi (zB_s ex24).1 ?_
      cases hf
      exact z_zret X hI (zB_s2 ex24) d_Pa_readAction_419
    · rw [if_neg c18] at hf
      by_cases c25 : x4 = 68
      · rw [if_pos c25] at hf
        refine lv_tableIn (off := 370) (tgt := 402) hx hb d_Pa_readAction_32 (by rw [c25]; decide) (by rw [c25]; decide) (by rw [c25]; rfl) (by decide) ?_
        refine lv_aload_n hx hb d_Pa_readAction_402 rfl (lv_at hl 1 rfl) ?_
        obtain ⟨x26, ex26, hf⟩ := z_bs hf
        refine z_getF X hI (k := 0) (ci := 6) (gR_s ex26) i_Pa rfl (by decide) wf_Pa_12 d_Pa_readAction_403 ?_
        refine lv_dup hx hb d_Pa_readAction_406 rfl ?_
        obtain ⟨x27, ex27, hf⟩ := z_bs hf
        refine z_getF X hI (k := 1) (ci := 2) (gI_s ex27) i_Cur rfl (by decide) wf_Pa_46 d_Pa_readAction_407 ?_
        refine lv_iconst (v := 1) hx hb d_Pa_readAction_410 (by decide) ?_
        refine lv_iadd hx hb d_Pa_readAction_411 ?_
        obtain ⟨h28, eh28, hf⟩ := z_bs hf
        refine z_putF X hI (k := 1) (ci := 2) (ty0 := t_Cur) eh28 i_Cur t_Cur_ok n_Cur rfl (by decide) wf_Pa_46 rfl rfl rfl d_Pa_readAction_412 (fun H locs hI => ?_)
        refine lv_aload_n hx hb d_Pa_readAction_415 rfl (lv_at hl 1 rfl) ?_
        obtain ⟨u29, eu29, hf⟩ := z_bs hf
        obtain ⟨r30, er30, hf⟩ := z_bs hf
        refine z_callV (As := []) (rest := []) (r := (some (.int r30.1))) (h' := r30.2) X hI eu29 (s_Pa_endCommand er30) rfl rfl wm_Pa_169 yi_Pa_endCommand rfl hl.1 rfl (Nat.le_of_ble_eq_true rfl) (by decide) (by decide) d_Pa_readAction_416 (fun H locs hI => ?_)
        refine W.eq (g2 := F0 m 419 ls [.int (r30.1)]) rfl ?_
        obtain ⟨x31, ex31, hf⟩ := z_bs hf
        refine z_topi (zB_s ex31).1 ?_
        cases hf
        exact z_zret X hI (zB_s2 ex31) d_Pa_readAction_419
      · rw [if_neg c25] at hf
        by_cases c32 : x4 = 71
        · rw [if_pos c32] at hf
          refine lv_tableIn (off := 370) (tgt := 402) hx hb d_Pa_readAction_32 (by rw [c32]; decide) (by rw [c32]; decide) (by rw [c32]; rfl) (by decide) ?_
          refine lv_aload_n hx hb d_Pa_readAction_402 rfl (lv_at hl 1 rfl) ?_
          obtain ⟨x33, ex33, hf⟩ := z_bs hf
          refine z_getF X hI (k := 0) (ci := 6) (gR_s ex33) i_Pa rfl (by decide) wf_Pa_12 d_Pa_readAction_403 ?_
          refine lv_dup hx hb d_Pa_readAction_406 rfl ?_
          obtain ⟨x34, ex34, hf⟩ := z_bs hf
          refine z_getF X hI (k := 1) (ci := 2) (gI_s ex34) i_Cur rfl (by decide) wf_Pa_46 d_Pa_readAction_407 ?_
          refine lv_iconst (v := 1) hx hb d_Pa_readAction_410 (by decide) ?_
          refine lv_iadd hx hb d_Pa_readAction_411 ?_
          obtain ⟨h35, eh35, hf⟩ := z_bs hf
          refine z_putF X hI (k := 1) (ci := 2) (ty0 := t_Cur) eh35 i_Cur t_Cur_ok n_Cur rfl (by decide) wf_Pa_46 rfl rfl rfl d_Pa_readAction_412 (fun H locs hI => ?_)
          refine lv_aload_n hx hb d_Pa_readAction_415 rfl (lv_at hl 1 rfl) ?_
          obtain ⟨u36, eu36, hf⟩ := z_bs hf
          obtain ⟨r37, er37, hf⟩ := z_bs hf
          refine z_callV (As := []) (rest := []) (r := (some (.int r37.1))) (h' := r37.2) X hI eu36 (s_Pa_endCommand er37) rfl rfl wm_Pa_169 yi_Pa_endCommand rfl hl.1 rfl (Nat.le_of_ble_eq_true rfl) (by decide) (by decide) d_Pa_readAction_416 (fun H locs hI => ?_)
          refine W.eq (g2 := F0 m 419 ls [.int (r37.1)]) rfl ?_
          obtain ⟨x38, ex38, hf⟩ := z_bs hf
          refine z_topi (zB_s ex38).1 ?_
          cases hf
          exact z_zret X hI (zB_s2 ex38) d_Pa_readAction_419
        · rw [if_neg c32] at hf
          by_cases c39 : x4 = 72
          · rw [if_pos c39] at hf
            refine lv_tableIn (off := 370) (tgt := 402) hx hb d_Pa_readAction_32 (by rw [c39]; decide) (by rw [c39]; decide) (by rw [c39]; rfl) (by decide) ?_
            refine lv_aload_n hx hb d_Pa_readAction_402 rfl (lv_at hl 1 rfl) ?_
            obtain ⟨x40, ex40, hf⟩ := z_bs hf
            refine z_getF X hI (k := 0) (ci := 6) (gR_s ex40) i_Pa rfl (by decide) wf_Pa_12 d_Pa_readAction_403 ?_
            refine lv_dup hx hb d_Pa_readAction_406 rfl ?_
            obtain ⟨x41, ex41, hf⟩ := z_bs hf
            refine z_getF X hI (k := 1) (ci := 2) (gI_s ex41) i_Cur rfl (by decide) wf_Pa_46 d_Pa_readAction_407 ?_
            refine lv_iconst (v := 1) hx hb d_Pa_readAction_410 (by decide) ?_
            refine lv_iadd hx hb d_Pa_readAction_411 ?_
            obtain ⟨h42, eh42, hf⟩ := z_bs hf
            refine z_putF X hI (k := 1) (ci := 2) (ty0 := t_Cur) eh42 i_Cur t_Cur_ok n_Cur rfl (by decide) wf_Pa_46 rfl rfl rfl d_Pa_readAction_412 (fun H locs hI => ?_)
            refine lv_aload_n hx hb d_Pa_readAction_415 rfl (lv_at hl 1 rfl) ?_
            obtain ⟨u43, eu43, hf⟩ := z_bs hf
            obtain ⟨r44, er44, hf⟩ := z_bs hf
            refine z_callV (As := []) (rest := []) (r := (some (.int r44.1))) (h' := r44.2) X hI eu43 (s_Pa_endCommand er44) rfl rfl wm_Pa_169 yi_Pa_endCommand rfl hl.1 rfl (Nat.le_of_ble_eq_true rfl) (by decide) (by decide) d_Pa_readAction_416 (fun H locs hI => ?_)
            refine W.eq (g2 := F0 m 419 ls [.int (r44.1)]) rfl ?_
            obtain ⟨x45, ex45, hf⟩ := z_bs hf
            refine z_topi (zB_s ex45).1 ?_
            cases hf
            exact z_zret X hI (zB_s2 ex45) d_Pa_readAction_419
          · rw [if_neg c39] at hf
            by_cases c46 : x4 = 78
            · rw [if_pos c46] at hf
              refine lv_tableIn (off := 370) (tgt := 402) hx hb d_Pa_readAction_32 (by rw [c46]; decide) (by rw [c46]; decide) (by rw [c46]; rfl) (by decide) ?_
              refine lv_aload_n hx hb d_Pa_readAction_402 rfl (lv_at hl 1 rfl) ?_
              obtain ⟨x47, ex47, hf⟩ := z_bs hf
              refine z_getF X hI (k := 0) (ci := 6) (gR_s ex47) i_Pa rfl (by decide) wf_Pa_12 d_Pa_readAction_403 ?_
              refine lv_dup hx hb d_Pa_readAction_406 rfl ?_
              obtain ⟨x48, ex48, hf⟩ := z_bs hf
              refine z_getF X hI (k := 1) (ci := 2) (gI_s ex48) i_Cur rfl (by decide) wf_Pa_46 d_Pa_readAction_407 ?_
              refine lv_iconst (v := 1) hx hb d_Pa_readAction_410 (by decide) ?_
              refine lv_iadd hx hb d_Pa_readAction_411 ?_
              obtain ⟨h49, eh49, hf⟩ := z_bs hf
              refine z_putF X hI (k := 1) (ci := 2) (ty0 := t_Cur) eh49 i_Cur t_Cur_ok n_Cur rfl (by decide) wf_Pa_46 rfl rfl rfl d_Pa_readAction_412 (fun H locs hI => ?_)
              refine lv_aload_n hx hb d_Pa_readAction_415 rfl (lv_at hl 1 rfl) ?_
              obtain ⟨u50, eu50, hf⟩ := z_bs hf
              obtain ⟨r51, er51, hf⟩ := z_bs hf
              refine z_callV (As := []) (rest := []) (r := (some (.int r51.1))) (h' := r51.2) X hI eu50 (s_Pa_endCommand er51) rfl rfl wm_Pa_169 yi_Pa_endCommand rfl hl.1 rfl (Nat.le_of_ble_eq_true rfl) (by decide) (by decide) d_Pa_readAction_416 (fun H locs hI => ?_)
              refine W.eq (g2 := F0 m 419 ls [.int (r51.1)]) rfl ?_
              obtain ⟨x52, ex52, hf⟩ := z_bs hf
              refine z_topi (zB_s ex52).1 ?_
              cases hf
              exact z_zret X hI (zB_s2 ex52) d_Pa_readAction_419
            · rw [if_neg c46] at hf
              by_cases c53 : x4 = 80
              · rw [if_pos c53] at hf
                refine lv_tableIn (off := 370) (tgt := 402) hx hb d_Pa_readAction_32 (by rw [c53]; decide) (by rw [c53]; decide) (by rw [c53]; rfl) (by decide) ?_
                refine lv_aload_n hx hb d_Pa_readAction_402 rfl (lv_at hl 1 rfl) ?_
                obtain ⟨x54, ex54, hf⟩ := z_bs hf
                refine z_getF X hI (k := 0) (ci := 6) (gR_s ex54) i_Pa rfl (by decide) wf_Pa_12 d_Pa_readAction_403 ?_
                refine lv_dup hx hb d_Pa_readAction_406 rfl ?_
                obtain ⟨x55, ex55, hf⟩ := z_bs hf
                refine z_getF X hI (k := 1) (ci := 2) (gI_s ex55) i_Cur rfl (by decide) wf_Pa_46 d_Pa_readAction_407 ?_
                refine lv_iconst (v := 1) hx hb d_Pa_readAction_410 (by decide) ?_
                refine lv_iadd hx hb d_Pa_readAction_411 ?_
                obtain ⟨h56, eh56, hf⟩ := z_bs hf
                refine z_putF X hI (k := 1) (ci := 2) (ty0 := t_Cur) eh56 i_Cur t_Cur_ok n_Cur rfl (by decide) wf_Pa_46 rfl rfl rfl d_Pa_readAction_412 (fun H locs hI => ?_)
                refine lv_aload_n hx hb d_Pa_readAction_415 rfl (lv_at hl 1 rfl) ?_
                obtain ⟨u57, eu57, hf⟩ := z_bs hf
                obtain ⟨r58, er58, hf⟩ := z_bs hf
                refine z_callV (As := []) (rest := []) (r := (some (.int r58.1))) (h' := r58.2) X hI eu57 (s_Pa_endCommand er58) rfl rfl wm_Pa_169 yi_Pa_endCommand rfl hl.1 rfl (Nat.le_of_ble_eq_true rfl) (by decide) (by decide) d_Pa_readAction_416 (fun H locs hI => ?_)
                refine W.eq (g2 := F0 m 419 ls [.int (r58.1)]) rfl ?_
                obtain ⟨x59, ex59, hf⟩ := z_bs hf
                refine z_topi (zB_s ex59).1 ?_
                cases hf
                exact z_zret X hI (zB_s2 ex59) d_Pa_readAction_419
              · rw [if_neg c53] at hf
                by_cases c60 : x4 = 97
                · rw [if_pos c60] at hf
                  refine lv_tableIn (off := 365) (tgt := 397) hx hb d_Pa_readAction_32 (by rw [c60]; decide) (by rw [c60]; decide) (by rw [c60]; rfl) (by decide) ?_
                  refine lv_aload_n hx hb d_Pa_readAction_397 rfl (lv_at hl 1 rfl) ?_
                  obtain ⟨u61, eu61, hf⟩ := z_bs hf
                  obtain ⟨r62, er62, hf⟩ := z_bs hf
                  refine z_callV (As := []) (rest := []) (r := (some (.int r62.1))) (h' := r62.2) X hI eu61 (s_Pa_readText er62) rfl rfl wm_Pa_181 yi_Pa_readText rfl hl.1 rfl (Nat.le_of_ble_eq_true rfl) (by decide) (by decide) d_Pa_readAction_398 (fun H locs hI => ?_)
                  refine W.eq (g2 := F0 m 401 ls [.int (r62.1)]) rfl ?_
                  obtain ⟨x63, ex63, hf⟩ := z_bs hf
                  refine z_topi (zB_s ex63).1 ?_
                  cases hf
                  exact z_zret X hI (zB_s2 ex63) d_Pa_readAction_401
                · rw [if_neg c60] at hf
                  by_cases c64 : x4 = 98
                  · rw [if_pos c64] at hf
                    refine lv_tableIn (off := 305) (tgt := 337) hx hb d_Pa_readAction_32 (by rw [c64]; decide) (by rw [c64]; decide) (by rw [c64]; rfl) (by decide) ?_
                    refine lv_aload_n hx hb d_Pa_readAction_337 rfl (lv_at hl 1 rfl) ?_
                    obtain ⟨u65, eu65, hf⟩ := z_bs hf
                    obtain ⟨r66, er66, hf⟩ := z_bs hf
                    refine z_callV (As := []) (rest := []) (r := (some (.int r66.1))) (h' := r66.2) X hI eu65 (s_Pa_readBranch er66) rfl rfl wm_Pa_172 yi_Pa_readBranch rfl hl.1 rfl (Nat.le_of_ble_eq_true rfl) (by decide) (by decide) d_Pa_readAction_338 (fun H locs hI => ?_)
                    refine W.eq (g2 := F0 m 341 ls [.int (r66.1)]) rfl ?_
                    refine lv_if_eq (tgt := 355) hx hb d_Pa_readAction_341 (by decide) (fun c67 => ?_) (fun c67 => ?_)
                    · rw [if_pos c67] at hf
                      refine lv_iconst (v := 0) hx hb d_Pa_readAction_355 (by decide) ?_
                      cases hf
                      exact z_zret X hI (Or.inl rfl) d_Pa_readAction_356
                    · rw [if_neg c67] at hf
                      refine lv_aload_n hx hb d_Pa_readAction_344 rfl (lv_at hl 1 rfl) ?_
                      obtain ⟨u68, eu68, hf⟩ := z_bs hf
                      obtain ⟨r69, er69, hf⟩ := z_bs hf
                      refine z_callV (As := []) (rest := []) (r := (some (.int r69.1))) (h' := r69.2) X hI eu68 (s_Pa_endCommand er69) rfl rfl wm_Pa_169 yi_Pa_endCommand rfl hl.1 rfl (Nat.le_of_ble_eq_true rfl) (by decide) (by decide) d_Pa_readAction_345 (fun H locs hI => ?_)
                      refine W.eq (g2 := F0 m 348 ls [.int (r69.1)]) rfl ?_
                      refine lv_if_eq (tgt := 355) hx hb d_Pa_readAction_348 (by decide) (fun c70 => ?_) (fun c70 => ?_)
                      · rw [if_pos c70] at hf
                        refine lv_iconst (v := 0) hx hb d_Pa_readAction_355 (by decide) ?_
                        cases hf
                        exact z_zret X hI (Or.inl rfl) d_Pa_readAction_356
                      · rw [if_neg c70] at hf
                        refine lv_iconst (v := 1) hx hb d_Pa_readAction_351 (by decide) ?_
                        refine lv_goto (tgt := 356) hx hb d_Pa_readAction_352 (by decide) ?_
                        cases hf
                        exact z_zret X hI (Or.inr rfl) d_Pa_readAction_356
                  · rw [if_neg c64] at hf
                    by_cases c71 : x4 = 99
                    · rw [if_pos c71] at hf
                      refine lv_tableIn (off := 365) (tgt := 397) hx hb d_Pa_readAction_32 (by rw [c71]; decide) (by rw [c71]; decide) (by rw [c71]; rfl) (by decide) ?_
                      refine lv_aload_n hx hb d_Pa_readAction_397 rfl (lv_at hl 1 rfl) ?_
                      obtain ⟨u72, eu72, hf⟩ := z_bs hf
                      obtain ⟨r73, er73, hf⟩ := z_bs hf
                      refine z_callV (As := []) (rest := []) (r := (some (.int r73.1))) (h' := r73.2) X hI eu72 (s_Pa_readText er73) rfl rfl wm_Pa_181 yi_Pa_readText rfl hl.1 rfl (Nat.le_of_ble_eq_true rfl) (by decide) (by decide) d_Pa_readAction_398 (fun H locs hI => ?_)
                      refine W.eq (g2 := F0 m 401 ls [.int (r73.1)]) rfl ?_
                      obtain ⟨x74, ex74, hf⟩ := z_bs hf
                      refine z_topi (zB_s ex74).1 ?_
                      cases hf
                      exact z_zret X hI (zB_s2 ex74) d_Pa_readAction_401
                    · rw [if_neg c71] at hf
                      by_cases c75 : x4 = 100
                      · rw [if_pos c75] at hf
                        refine lv_tableIn (off := 370) (tgt := 402) hx hb d_Pa_readAction_32 (by rw [c75]; decide) (by rw [c75]; decide) (by rw [c75]; rfl) (by decide) ?_
                        refine lv_aload_n hx hb d_Pa_readAction_402 rfl (lv_at hl 1 rfl) ?_
                        obtain ⟨x76, ex76, hf⟩ := z_bs hf
                        refine z_getF X hI (k := 0) (ci := 6) (gR_s ex76) i_Pa rfl (by decide) wf_Pa_12 d_Pa_readAction_403 ?_
                        refine lv_dup hx hb d_Pa_readAction_406 rfl ?_
                        obtain ⟨x77, ex77, hf⟩ := z_bs hf
                        refine z_getF X hI (k := 1) (ci := 2) (gI_s ex77) i_Cur rfl (by decide) wf_Pa_46 d_Pa_readAction_407 ?_
                        refine lv_iconst (v := 1) hx hb d_Pa_readAction_410 (by decide) ?_
                        refine lv_iadd hx hb d_Pa_readAction_411 ?_
                        obtain ⟨h78, eh78, hf⟩ := z_bs hf
                        refine z_putF X hI (k := 1) (ci := 2) (ty0 := t_Cur) eh78 i_Cur t_Cur_ok n_Cur rfl (by decide) wf_Pa_46 rfl rfl rfl d_Pa_readAction_412 (fun H locs hI => ?_)
                        refine lv_aload_n hx hb d_Pa_readAction_415 rfl (lv_at hl 1 rfl) ?_
                        obtain ⟨u79, eu79, hf⟩ := z_bs hf
                        obtain ⟨r80, er80, hf⟩ := z_bs hf
                        refine z_callV (As := []) (rest := []) (r := (some (.int r80.1))) (h' := r80.2) X hI eu79 (s_Pa_endCommand er80) rfl rfl wm_Pa_169 yi_Pa_endCommand rfl hl.1 rfl (Nat.le_of_ble_eq_true rfl) (by decide) (by decide) d_Pa_readAction_416 (fun H locs hI => ?_)
                        refine W.eq (g2 := F0 m 419 ls [.int (r80.1)]) rfl ?_
                        obtain ⟨x81, ex81, hf⟩ := z_bs hf
                        refine z_topi (zB_s ex81).1 ?_
                        cases hf
                        exact z_zret X hI (zB_s2 ex81) d_Pa_readAction_419
                      · rw [if_neg c75] at hf
                        by_cases c82 : x4 = 103
                        · rw [if_pos c82] at hf
                          refine lv_tableIn (off := 370) (tgt := 402) hx hb d_Pa_readAction_32 (by rw [c82]; decide) (by rw [c82]; decide) (by rw [c82]; rfl) (by decide) ?_
                          refine lv_aload_n hx hb d_Pa_readAction_402 rfl (lv_at hl 1 rfl) ?_
                          obtain ⟨x83, ex83, hf⟩ := z_bs hf
                          refine z_getF X hI (k := 0) (ci := 6) (gR_s ex83) i_Pa rfl (by decide) wf_Pa_12 d_Pa_readAction_403 ?_
                          refine lv_dup hx hb d_Pa_readAction_406 rfl ?_
                          obtain ⟨x84, ex84, hf⟩ := z_bs hf
                          refine z_getF X hI (k := 1) (ci := 2) (gI_s ex84) i_Cur rfl (by decide) wf_Pa_46 d_Pa_readAction_407 ?_
                          refine lv_iconst (v := 1) hx hb d_Pa_readAction_410 (by decide) ?_
                          refine lv_iadd hx hb d_Pa_readAction_411 ?_
                          obtain ⟨h85, eh85, hf⟩ := z_bs hf
                          refine z_putF X hI (k := 1) (ci := 2) (ty0 := t_Cur) eh85 i_Cur t_Cur_ok n_Cur rfl (by decide) wf_Pa_46 rfl rfl rfl d_Pa_readAction_412 (fun H locs hI => ?_)
                          refine lv_aload_n hx hb d_Pa_readAction_415 rfl (lv_at hl 1 rfl) ?_
                          obtain ⟨u86, eu86, hf⟩ := z_bs hf
                          obtain ⟨r87, er87, hf⟩ := z_bs hf
                          refine z_callV (As := []) (rest := []) (r := (some (.int r87.1))) (h' := r87.2) X hI eu86 (s_Pa_endCommand er87) rfl rfl wm_Pa_169 yi_Pa_endCommand rfl hl.1 rfl (Nat.le_of_ble_eq_true rfl) (by decide) (by decide) d_Pa_readAction_416 (fun H locs hI => ?_)
                          refine W.eq (g2 := F0 m 419 ls [.int (r87.1)]) rfl ?_
                          obtain ⟨x88, ex88, hf⟩ := z_bs hf
                          refine z_topi (zB_s ex88).1 ?_
                          cases hf
                          exact z_zret X hI (zB_s2 ex88) d_Pa_readAction_419
                        · rw [if_neg c82] at hf
                          by_cases c89 : x4 = 104
                          · rw [if_pos c89] at hf
                            refine lv_tableIn (off := 370) (tgt := 402) hx hb d_Pa_readAction_32 (by rw [c89]; decide) (by rw [c89]; decide) (by rw [c89]; rfl) (by decide) ?_
                            refine lv_aload_n hx hb d_Pa_readAction_402 rfl (lv_at hl 1 rfl) ?_
                            obtain ⟨x90, ex90, hf⟩ := z_bs hf
                            refine z_getF X hI (k := 0) (ci := 6) (gR_s ex90) i_Pa rfl (by decide) wf_Pa_12 d_Pa_readAction_403 ?_
                            refine lv_dup hx hb d_Pa_readAction_406 rfl ?_
                            obtain ⟨x91, ex91, hf⟩ := z_bs hf
                            refine z_getF X hI (k := 1) (ci := 2) (gI_s ex91) i_Cur rfl (by decide) wf_Pa_46 d_Pa_readAction_407 ?_
                            refine lv_iconst (v := 1) hx hb d_Pa_readAction_410 (by decide) ?_
                            refine lv_iadd hx hb d_Pa_readAction_411 ?_
                            obtain ⟨h92, eh92, hf⟩ := z_bs hf
                            refine z_putF X hI (k := 1) (ci := 2) (ty0 := t_Cur) eh92 i_Cur t_Cur_ok n_Cur rfl (by decide) wf_Pa_46 rfl rfl rfl d_Pa_readAction_412 (fun H locs hI => ?_)
                            refine lv_aload_n hx hb d_Pa_readAction_415 rfl (lv_at hl 1 rfl) ?_
                            obtain ⟨u93, eu93, hf⟩ := z_bs hf
                            obtain ⟨r94, er94, hf⟩ := z_bs hf
                            refine z_callV (As := []) (rest := []) (r := (some (.int r94.1))) (h' := r94.2) X hI eu93 (s_Pa_endCommand er94) rfl rfl wm_Pa_169 yi_Pa_endCommand rfl hl.1 rfl (Nat.le_of_ble_eq_true rfl) (by decide) (by decide) d_Pa_readAction_416 (fun H locs hI => ?_)
                            refine W.eq (g2 := F0 m 419 ls [.int (r94.1)]) rfl ?_
                            obtain ⟨x95, ex95, hf⟩ := z_bs hf
                            refine z_topi (zB_s ex95).1 ?_
                            cases hf
                            exact z_zret X hI (zB_s2 ex95) d_Pa_readAction_419
                          · rw [if_neg c89] at hf
                            by_cases c96 : x4 = 105
                            · rw [if_pos c96] at hf
                              refine lv_tableIn (off := 365) (tgt := 397) hx hb d_Pa_readAction_32 (by rw [c96]; decide) (by rw [c96]; decide) (by rw [c96]; rfl) (by decide) ?_
                              refine lv_aload_n hx hb d_Pa_readAction_397 rfl (lv_at hl 1 rfl) ?_
                              obtain ⟨u97, eu97, hf⟩ := z_bs hf
                              obtain ⟨r98, er98, hf⟩ := z_bs hf
                              refine z_callV (As := []) (rest := []) (r := (some (.int r98.1))) (h' := r98.2) X hI eu97 (s_Pa_readText er98) rfl rfl wm_Pa_181 yi_Pa_readText rfl hl.1 rfl (Nat.le_of_ble_eq_true rfl) (by decide) (by decide) d_Pa_readAction_398 (fun H locs hI => ?_)
                              refine W.eq (g2 := F0 m 401 ls [.int (r98.1)]) rfl ?_
                              obtain ⟨x99, ex99, hf⟩ := z_bs hf
                              refine z_topi (zB_s ex99).1 ?_
                              cases hf
                              exact z_zret X hI (zB_s2 ex99) d_Pa_readAction_401
                            · rw [if_neg c96] at hf
                              by_cases c100 : x4 = 110
                              · rw [if_pos c100] at hf
                                refine lv_tableIn (off := 370) (tgt := 402) hx hb d_Pa_readAction_32 (by rw [c100]; decide) (by rw [c100]; decide) (by rw [c100]; rfl) (by decide) ?_
                                refine lv_aload_n hx hb d_Pa_readAction_402 rfl (lv_at hl 1 rfl) ?_
                                obtain ⟨x101, ex101, hf⟩ := z_bs hf
                                refine z_getF X hI (k := 0) (ci := 6) (gR_s ex101) i_Pa rfl (by decide) wf_Pa_12 d_Pa_readAction_403 ?_
                                refine lv_dup hx hb d_Pa_readAction_406 rfl ?_
                                obtain ⟨x102, ex102, hf⟩ := z_bs hf
                                refine z_getF X hI (k := 1) (ci := 2) (gI_s ex102) i_Cur rfl (by decide) wf_Pa_46 d_Pa_readAction_407 ?_
                                refine lv_iconst (v := 1) hx hb d_Pa_readAction_410 (by decide) ?_
                                refine lv_iadd hx hb d_Pa_readAction_411 ?_
                                obtain ⟨h103, eh103, hf⟩ := z_bs hf
                                refine z_putF X hI (k := 1) (ci := 2) (ty0 := t_Cur) eh103 i_Cur t_Cur_ok n_Cur rfl (by decide) wf_Pa_46 rfl rfl rfl d_Pa_readAction_412 (fun H locs hI => ?_)
                                refine lv_aload_n hx hb d_Pa_readAction_415 rfl (lv_at hl 1 rfl) ?_
                                obtain ⟨u104, eu104, hf⟩ := z_bs hf
                                obtain ⟨r105, er105, hf⟩ := z_bs hf
                                refine z_callV (As := []) (rest := []) (r := (some (.int r105.1))) (h' := r105.2) X hI eu104 (s_Pa_endCommand er105) rfl rfl wm_Pa_169 yi_Pa_endCommand rfl hl.1 rfl (Nat.le_of_ble_eq_true rfl) (by decide) (by decide) d_Pa_readAction_416 (fun H locs hI => ?_)
                                refine W.eq (g2 := F0 m 419 ls [.int (r105.1)]) rfl ?_
                                obtain ⟨x106, ex106, hf⟩ := z_bs hf
                                refine z_topi (zB_s ex106).1 ?_
                                cases hf
                                exact z_zret X hI (zB_s2 ex106) d_Pa_readAction_419
                              · rw [if_neg c100] at hf
                                by_cases c107 : x4 = 112
                                · rw [if_pos c107] at hf
                                  refine lv_tableIn (off := 370) (tgt := 402) hx hb d_Pa_readAction_32 (by rw [c107]; decide) (by rw [c107]; decide) (by rw [c107]; rfl) (by decide) ?_
                                  refine lv_aload_n hx hb d_Pa_readAction_402 rfl (lv_at hl 1 rfl) ?_
                                  obtain ⟨x108, ex108, hf⟩ := z_bs hf
                                  refine z_getF X hI (k := 0) (ci := 6) (gR_s ex108) i_Pa rfl (by decide) wf_Pa_12 d_Pa_readAction_403 ?_
                                  refine lv_dup hx hb d_Pa_readAction_406 rfl ?_
                                  obtain ⟨x109, ex109, hf⟩ := z_bs hf
                                  refine z_getF X hI (k := 1) (ci := 2) (gI_s ex109) i_Cur rfl (by decide) wf_Pa_46 d_Pa_readAction_407 ?_
                                  refine lv_iconst (v := 1) hx hb d_Pa_readAction_410 (by decide) ?_
                                  refine lv_iadd hx hb d_Pa_readAction_411 ?_
                                  obtain ⟨h110, eh110, hf⟩ := z_bs hf
                                  refine z_putF X hI (k := 1) (ci := 2) (ty0 := t_Cur) eh110 i_Cur t_Cur_ok n_Cur rfl (by decide) wf_Pa_46 rfl rfl rfl d_Pa_readAction_412 (fun H locs hI => ?_)
                                  refine lv_aload_n hx hb d_Pa_readAction_415 rfl (lv_at hl 1 rfl) ?_
                                  obtain ⟨u111, eu111, hf⟩ := z_bs hf
                                  obtain ⟨r112, er112, hf⟩ := z_bs hf
                                  refine z_callV (As := []) (rest := []) (r := (some (.int r112.1))) (h' := r112.2) X hI eu111 (s_Pa_endCommand er112) rfl rfl wm_Pa_169 yi_Pa_endCommand rfl hl.1 rfl (Nat.le_of_ble_eq_true rfl) (by decide) (by decide) d_Pa_readAction_416 (fun H locs hI => ?_)
                                  refine W.eq (g2 := F0 m 419 ls [.int (r112.1)]) rfl ?_
                                  obtain ⟨x113, ex113, hf⟩ := z_bs hf
                                  refine z_topi (zB_s ex113).1 ?_
                                  cases hf
                                  exact z_zret X hI (zB_s2 ex113) d_Pa_readAction_419
                                · rw [if_neg c107] at hf
                                  by_cases c114 : x4 = 113
                                  · rw [if_pos c114] at hf
                                    refine lv_tableIn (off := 370) (tgt := 402) hx hb d_Pa_readAction_32 (by rw [c114]; decide) (by rw [c114]; decide) (by rw [c114]; rfl) (by decide) ?_
                                    refine lv_aload_n hx hb d_Pa_readAction_402 rfl (lv_at hl 1 rfl) ?_
                                    obtain ⟨x115, ex115, hf⟩ := z_bs hf
                                    refine z_getF X hI (k := 0) (ci := 6) (gR_s ex115) i_Pa rfl (by decide) wf_Pa_12 d_Pa_readAction_403 ?_
                                    refine lv_dup hx hb d_Pa_readAction_406 rfl ?_
                                    obtain ⟨x116, ex116, hf⟩ := z_bs hf
                                    refine z_getF X hI (k := 1) (ci := 2) (gI_s ex116) i_Cur rfl (by decide) wf_Pa_46 d_Pa_readAction_407 ?_
                                    refine lv_iconst (v := 1) hx hb d_Pa_readAction_410 (by decide) ?_
                                    refine lv_iadd hx hb d_Pa_readAction_411 ?_
                                    obtain ⟨h117, eh117, hf⟩ := z_bs hf
                                    refine z_putF X hI (k := 1) (ci := 2) (ty0 := t_Cur) eh117 i_Cur t_Cur_ok n_Cur rfl (by decide) wf_Pa_46 rfl rfl rfl d_Pa_readAction_412 (fun H locs hI => ?_)
                                    refine lv_aload_n hx hb d_Pa_readAction_415 rfl (lv_at hl 1 rfl) ?_
                                    obtain ⟨u118, eu118, hf⟩ := z_bs hf
                                    obtain ⟨r119, er119, hf⟩ := z_bs hf
                                    refine z_callV (As := []) (rest := []) (r := (some (.int r119.1))) (h' := r119.2) X hI eu118 (s_Pa_endCommand er119) rfl rfl wm_Pa_169 yi_Pa_endCommand rfl hl.1 rfl (Nat.le_of_ble_eq_true rfl) (by decide) (by decide) d_Pa_readAction_416 (fun H locs hI => ?_)
                                    refine W.eq (g2 := F0 m 419 ls [.int (r119.1)]) rfl ?_
                                    obtain ⟨x120, ex120, hf⟩ := z_bs hf
                                    refine z_topi (zB_s ex120).1 ?_
                                    cases hf
                                    exact z_zret X hI (zB_s2 ex120) d_Pa_readAction_419
                                  · rw [if_neg c114] at hf
                                    by_cases c121 : x4 = 115
                                    · rw [if_pos c121] at hf
                                      refine lv_tableIn (off := 325) (tgt := 357) hx hb d_Pa_readAction_32 (by rw [c121]; decide) (by rw [c121]; decide) (by rw [c121]; rfl) (by decide) ?_
                                      refine lv_aload_n hx hb d_Pa_readAction_357 rfl (lv_at hl 1 rfl) ?_
                                      obtain ⟨u122, eu122, hf⟩ := z_bs hf
                                      obtain ⟨r123, er123, hf⟩ := z_bs hf
                                      refine z_callV (As := []) (rest := []) (r := (some (.int r123.1))) (h' := r123.2) X hI eu122 (s_Pa_readSubstitution er123) rfl rfl wm_Pa_175 yi_Pa_readSubstitution rfl hl.1 rfl (Nat.le_of_ble_eq_true rfl) (by decide) (by decide) d_Pa_readAction_358 (fun H locs hI => ?_)
                                      refine W.eq (g2 := F0 m 361 ls [.int (r123.1)]) rfl ?_
                                      refine lv_if_eq (tgt := 375) hx hb d_Pa_readAction_361 (by decide) (fun c124 => ?_) (fun c124 => ?_)
                                      · rw [if_pos c124] at hf
                                        refine lv_iconst (v := 0) hx hb d_Pa_readAction_375 (by decide) ?_
                                        cases hf
                                        exact z_zret X hI (Or.inl rfl) d_Pa_readAction_376
                                      · rw [if_neg c124] at hf
                                        refine lv_aload_n hx hb d_Pa_readAction_364 rfl (lv_at hl 1 rfl) ?_
                                        obtain ⟨u125, eu125, hf⟩ := z_bs hf
                                        obtain ⟨r126, er126, hf⟩ := z_bs hf
                                        refine z_callV (As := []) (rest := []) (r := (some (.int r126.1))) (h' := r126.2) X hI eu125 (s_Pa_endCommand er126) rfl rfl wm_Pa_169 yi_Pa_endCommand rfl hl.1 rfl (Nat.le_of_ble_eq_true rfl) (by decide) (by decide) d_Pa_readAction_365 (fun H locs hI => ?_)
                                        refine W.eq (g2 := F0 m 368 ls [.int (r126.1)]) rfl ?_
                                        refine lv_if_eq (tgt := 375) hx hb d_Pa_readAction_368 (by decide) (fun c127 => ?_) (fun c127 => ?_)
                                        · rw [if_pos c127] at hf
                                          refine lv_iconst (v := 0) hx hb d_Pa_readAction_375 (by decide) ?_
                                          cases hf
                                          exact z_zret X hI (Or.inl rfl) d_Pa_readAction_376
                                        · rw [if_neg c127] at hf
                                          refine lv_iconst (v := 1) hx hb d_Pa_readAction_371 (by decide) ?_
                                          refine lv_goto (tgt := 376) hx hb d_Pa_readAction_372 (by decide) ?_
                                          cases hf
                                          exact z_zret X hI (Or.inr rfl) d_Pa_readAction_376
                                    · rw [if_neg c121] at hf
                                      by_cases c128 : x4 = 116
                                      · rw [if_pos c128] at hf
                                        refine lv_tableIn (off := 305) (tgt := 337) hx hb d_Pa_readAction_32 (by rw [c128]; decide) (by rw [c128]; decide) (by rw [c128]; rfl) (by decide) ?_
                                        refine lv_aload_n hx hb d_Pa_readAction_337 rfl (lv_at hl 1 rfl) ?_
                                        obtain ⟨u129, eu129, hf⟩ := z_bs hf
                                        obtain ⟨r130, er130, hf⟩ := z_bs hf
                                        refine z_callV (As := []) (rest := []) (r := (some (.int r130.1))) (h' := r130.2) X hI eu129 (s_Pa_readBranch er130) rfl rfl wm_Pa_172 yi_Pa_readBranch rfl hl.1 rfl (Nat.le_of_ble_eq_true rfl) (by decide) (by decide) d_Pa_readAction_338 (fun H locs hI => ?_)
                                        refine W.eq (g2 := F0 m 341 ls [.int (r130.1)]) rfl ?_
                                        refine lv_if_eq (tgt := 355) hx hb d_Pa_readAction_341 (by decide) (fun c131 => ?_) (fun c131 => ?_)
                                        · rw [if_pos c131] at hf
                                          refine lv_iconst (v := 0) hx hb d_Pa_readAction_355 (by decide) ?_
                                          cases hf
                                          exact z_zret X hI (Or.inl rfl) d_Pa_readAction_356
                                        · rw [if_neg c131] at hf
                                          refine lv_aload_n hx hb d_Pa_readAction_344 rfl (lv_at hl 1 rfl) ?_
                                          obtain ⟨u132, eu132, hf⟩ := z_bs hf
                                          obtain ⟨r133, er133, hf⟩ := z_bs hf
                                          refine z_callV (As := []) (rest := []) (r := (some (.int r133.1))) (h' := r133.2) X hI eu132 (s_Pa_endCommand er133) rfl rfl wm_Pa_169 yi_Pa_endCommand rfl hl.1 rfl (Nat.le_of_ble_eq_true rfl) (by decide) (by decide) d_Pa_readAction_345 (fun H locs hI => ?_)
                                          refine W.eq (g2 := F0 m 348 ls [.int (r133.1)]) rfl ?_
                                          refine lv_if_eq (tgt := 355) hx hb d_Pa_readAction_348 (by decide) (fun c134 => ?_) (fun c134 => ?_)
                                          · rw [if_pos c134] at hf
                                            refine lv_iconst (v := 0) hx hb d_Pa_readAction_355 (by decide) ?_
                                            cases hf
                                            exact z_zret X hI (Or.inl rfl) d_Pa_readAction_356
                                          · rw [if_neg c134] at hf
                                            refine lv_iconst (v := 1) hx hb d_Pa_readAction_351 (by decide) ?_
                                            refine lv_goto (tgt := 356) hx hb d_Pa_readAction_352 (by decide) ?_
                                            cases hf
                                            exact z_zret X hI (Or.inr rfl) d_Pa_readAction_356
                                      · rw [if_neg c128] at hf
                                        by_cases c135 : x4 = 120
                                        · rw [if_pos c135] at hf
                                          refine lv_tableIn (off := 370) (tgt := 402) hx hb d_Pa_readAction_32 (by rw [c135]; decide) (by rw [c135]; decide) (by rw [c135]; rfl) (by decide) ?_
                                          refine lv_aload_n hx hb d_Pa_readAction_402 rfl (lv_at hl 1 rfl) ?_
                                          obtain ⟨x136, ex136, hf⟩ := z_bs hf
                                          refine z_getF X hI (k := 0) (ci := 6) (gR_s ex136) i_Pa rfl (by decide) wf_Pa_12 d_Pa_readAction_403 ?_
                                          refine lv_dup hx hb d_Pa_readAction_406 rfl ?_
                                          obtain ⟨x137, ex137, hf⟩ := z_bs hf
                                          refine z_getF X hI (k := 1) (ci := 2) (gI_s ex137) i_Cur rfl (by decide) wf_Pa_46 d_Pa_readAction_407 ?_
                                          refine lv_iconst (v := 1) hx hb d_Pa_readAction_410 (by decide) ?_
                                          refine lv_iadd hx hb d_Pa_readAction_411 ?_
                                          obtain ⟨h138, eh138, hf⟩ := z_bs hf
                                          refine z_putF X hI (k := 1) (ci := 2) (ty0 := t_Cur) eh138 i_Cur t_Cur_ok n_Cur rfl (by decide) wf_Pa_46 rfl rfl rfl d_Pa_readAction_412 (fun H locs hI => ?_)
                                          refine lv_aload_n hx hb d_Pa_readAction_415 rfl (lv_at hl 1 rfl) ?_
                                          obtain ⟨u139, eu139, hf⟩ := z_bs hf
                                          obtain ⟨r140, er140, hf⟩ := z_bs hf
                                          refine z_callV (As := []) (rest := []) (r := (some (.int r140.1))) (h' := r140.2) X hI eu139 (s_Pa_endCommand er140) rfl rfl wm_Pa_169 yi_Pa_endCommand rfl hl.1 rfl (Nat.le_of_ble_eq_true rfl) (by decide) (by decide) d_Pa_readAction_416 (fun H locs hI => ?_)
                                          refine W.eq (g2 := F0 m 419 ls [.int (r140.1)]) rfl ?_
                                          obtain ⟨x141, ex141, hf⟩ := z_bs hf
                                          refine z_topi (zB_s ex141).1 ?_
                                          cases hf
                                          exact z_zret X hI (zB_s2 ex141) d_Pa_readAction_419
                                        · rw [if_neg c135] at hf
                                          by_cases c142 : x4 = 121
                                          · rw [if_pos c142] at hf
                                            refine lv_tableIn (off := 345) (tgt := 377) hx hb d_Pa_readAction_32 (by rw [c142]; decide) (by rw [c142]; decide) (by rw [c142]; rfl) (by decide) ?_
                                            refine lv_aload_n hx hb d_Pa_readAction_377 rfl (lv_at hl 1 rfl) ?_
                                            obtain ⟨u143, eu143, hf⟩ := z_bs hf
                                            obtain ⟨r144, er144, hf⟩ := z_bs hf
                                            refine z_callV (As := []) (rest := []) (r := (some (.int r144.1))) (h' := r144.2) X hI eu143 (s_Pa_readExchange er144) rfl rfl wm_Pa_178 yi_Pa_readExchange rfl hl.1 rfl (Nat.le_of_ble_eq_true rfl) (by decide) (by decide) d_Pa_readAction_378 (fun H locs hI => ?_)
                                            refine W.eq (g2 := F0 m 381 ls [.int (r144.1)]) rfl ?_
                                            refine lv_if_eq (tgt := 395) hx hb d_Pa_readAction_381 (by decide) (fun c145 => ?_) (fun c145 => ?_)
                                            · rw [if_pos c145] at hf
                                              refine lv_iconst (v := 0) hx hb d_Pa_readAction_395 (by decide) ?_
                                              cases hf
                                              exact z_zret X hI (Or.inl rfl) d_Pa_readAction_396
                                            · rw [if_neg c145] at hf
                                              refine lv_aload_n hx hb d_Pa_readAction_384 rfl (lv_at hl 1 rfl) ?_
                                              obtain ⟨u146, eu146, hf⟩ := z_bs hf
                                              obtain ⟨r147, er147, hf⟩ := z_bs hf
                                              refine z_callV (As := []) (rest := []) (r := (some (.int r147.1))) (h' := r147.2) X hI eu146 (s_Pa_endCommand er147) rfl rfl wm_Pa_169 yi_Pa_endCommand rfl hl.1 rfl (Nat.le_of_ble_eq_true rfl) (by decide) (by decide) d_Pa_readAction_385 (fun H locs hI => ?_)
                                              refine W.eq (g2 := F0 m 388 ls [.int (r147.1)]) rfl ?_
                                              refine lv_if_eq (tgt := 395) hx hb d_Pa_readAction_388 (by decide) (fun c148 => ?_) (fun c148 => ?_)
                                              · rw [if_pos c148] at hf
                                                refine lv_iconst (v := 0) hx hb d_Pa_readAction_395 (by decide) ?_
                                                cases hf
                                                exact z_zret X hI (Or.inl rfl) d_Pa_readAction_396
                                              · rw [if_neg c148] at hf
                                                refine lv_iconst (v := 1) hx hb d_Pa_readAction_391 (by decide) ?_
                                                refine lv_goto (tgt := 396) hx hb d_Pa_readAction_392 (by decide) ?_
                                                cases hf
                                                exact z_zret X hI (Or.inr rfl) d_Pa_readAction_396
                                          · rw [if_neg c142] at hf
                                            by_cases c149 : x4 = 123
                                            · rw [if_pos c149] at hf
                                              refine lv_tableIn (off := 280) (tgt := 312) hx hb d_Pa_readAction_32 (by rw [c149]; decide) (by rw [c149]; decide) (by rw [c149]; rfl) (by decide) ?_
                                              refine lv_aload_n hx hb d_Pa_readAction_312 rfl (lv_at hl 1 rfl) ?_
                                              obtain ⟨u150, eu150, hf⟩ := z_bs hf
                                              obtain ⟨r151, er151, hf⟩ := z_bs hf
                                              refine z_callV (As := []) (rest := []) (r := (some (.int r151.1))) (h' := r151.2) X hI eu150 (s_Pa_openBlock er151) rfl rfl wm_Pa_163 yi_Pa_openBlock rfl hl.1 rfl (Nat.le_of_ble_eq_true rfl) (by decide) (by decide) d_Pa_readAction_313 (fun H locs hI => ?_)
                                              refine W.eq (g2 := F0 m 316 ls [.int (r151.1)]) rfl ?_
                                              obtain ⟨x152, ex152, hf⟩ := z_bs hf
                                              refine z_topi (zB_s ex152).1 ?_
                                              cases hf
                                              exact z_zret X hI (zB_s2 ex152) d_Pa_readAction_316
                                            · rw [if_neg c149] at hf
                                              refine z_tabD (ks := [58, 61, 68, 71, 72, 78, 80, 97, 98, 99, 100, 103, 104, 105, 110, 112, 113, 115, 116, 120, 121, 123]) (tgt := 420) hx hb d_Pa_readAction_32 (by decide) (by decide) (by simp only [List.forall_mem_cons, List.not_mem_nil, false_implies, implies_true, and_true]; exact ⟨z_ne c11 (by decide), z_ne c18 (by decide), z_ne c25 (by decide), z_ne c32 (by decide), z_ne c39 (by decide), z_ne c46 (by decide), z_ne c53 (by decide), z_ne c60 (by decide), z_ne c64 (by decide), z_ne c71 (by decide), z_ne c75 (by decide), z_ne c82 (by decide), z_ne c89 (by decide), z_ne c96 (by decide), z_ne c100 (by decide), z_ne c107 (by decide), z_ne c114 (by decide), z_ne c121 (by decide), z_ne c128 (by decide), z_ne c135 (by decide), z_ne c142 (by decide), z_ne c149 (by decide)⟩) (by decide) ?_
                                              refine lv_aload_n hx hb d_Pa_readAction_420 rfl (lv_at hl 1 rfl) ?_
                                              obtain ⟨x153, ex153, hf⟩ := z_bs hf
                                              refine z_getF X hI (k := 0) (ci := 6) (gR_s ex153) i_Pa rfl (by decide) wf_Pa_12 d_Pa_readAction_421 ?_
                                              refine lv_iconst (v := 0) hx hb d_Pa_readAction_424 (by decide) ?_
                                              obtain ⟨u154, eu154, hf⟩ := z_bs hf
                                              obtain ⟨r155, er155, hf⟩ := z_bs hf
                                              refine z_callV (As := [.int 0]) (rest := []) (r := (some (.int r155.1))) (h' := r155.2) X hI eu154 (s_Cur_refuse er155) rfl rfl wm_Pa_68 yi_Cur_refuse rfl hl.1 rfl (Nat.le_of_ble_eq_true rfl) (by decide) (by decide) d_Pa_readAction_425 (fun H locs hI => ?_)
                                              refine W.eq (g2 := F0 m 428 ls [.int (r155.1)]) rfl ?_
                                              obtain ⟨x156, ex156, hf⟩ := z_bs hf
                                              refine z_topi (zB_s ex156).1 ?_
                                              cases hf
                                              exact z_zret X hI (zB_s2 ex156) d_Pa_readAction_428
def f_Pa_joinLabels_69 (N : Nat) (k2 : Nat → Int32 → z_H → Option (Int32 × z_H)) (v0 : Nat) (v1 : Int32) (v2 : Nat) (s0 : Nat) (s1 : Int32) (h : z_H) : Option (Int32 × z_H) :=
  z_b (sF h s0 1 7 (.int s1)) fun h1 =>
  z_b (gI h1 v2 1 7) fun x2 =>
  if x2 = (-1) then
  (z_b (gR h1 v0 6 0) fun x5 =>
  z_b (gI h1 v2 1 4) fun x6 =>
  z_b (sF h1 x5 2 1 (.int x6)) fun h7 =>
  z_b (gR h7 v0 6 0) fun x8 =>
  z_b (gO h7 x8 2) fun u9 =>
  z_b (f_Cur_refuse N x8 0 h7) fun r10 =>
  z_b (zB (r10.1)) fun x11 =>
  some (x11, r10.2))
  else
  (z_b (some (v1 + 1)) fun x4 =>
  k2 v0 x4 h1)
set_option maxRecDepth 20000 in
set_option maxHeartbeats 2000000 in
theorem s_Pa_joinLabels_69 (X : z_X p s m args meth c prog_8_method_25_code 3 (some .boolean) Ts "StreamForge$Parser" D dA B) {N : Nat} {r : Int32} {h' : z_H} {k2 : Nat → Int32 → z_H → Option (Int32 × z_H)} (hk2 : ∀ (v0 : Nat) (v1 : Int32) (h : z_H) (H : Heap) (locs : List Loc) (ls : Array Slot), z_I D dA B h s.heap H locs → lv_has ls 3 [(0, .ref v0), (1, .int v1)] → k2 v0 v1 h = some (r, h') → W p l e (z_rm 1 21) s m args below meth c H locs 0 0 (MQ below (z_Q D dA B (some (.int r)) h') args s 0 0 (fun q => B ≤ q)) (F0 m 2 ls [])) : ∀ (v0 : Nat) (v1 : Int32) (v2 : Nat) (s0 : Nat) (s1 : Int32) (h : z_H) (H : Heap) (locs : List Loc) (ls : Array Slot), z_I D dA B h s.heap H locs → lv_has ls 3 [(0, .ref v0), (1, .int v1), (2, .ref v2)] → f_Pa_joinLabels_69 N k2 v0 v1 v2 s0 s1 h = some (r, h') → W p l e (z_rm 1 21) s m args below meth c H locs 0 0 (MQ below (z_Q D dA B (some (.int r)) h') args s 0 0 (fun q => B ≤ q)) (F0 m 69 ls [.int s1, .ref s0]) := by
  have hx := z_hx X
  have hb := z_hb X
  intro v0 v1 v2 s0 s1 h H locs ls hI hl hf
  unfold f_Pa_joinLabels_69 at hf
  obtain ⟨h1, eh1, hf⟩ := z_bs hf
  refine z_putF X hI (k := 7) (ci := 1) (ty0 := t_Cmd) eh1 i_Cmd t_Cmd_ok n_Cmd rfl (by decide) wf_Pa_109 rfl rfl rfl d_Pa_joinLabels_69 (fun H locs hI => ?_)
  refine lv_aload_n hx hb d_Pa_joinLabels_72 rfl (lv_at hl 2 rfl) ?_
  obtain ⟨x2, ex2, hf⟩ := z_bs hf
  refine z_getF X hI (k := 7) (ci := 1) (gI_s ex2) i_Cmd rfl (by decide) wf_Pa_109 d_Pa_joinLabels_73 ?_
  refine lv_iconst (v := (-1)) hx hb d_Pa_joinLabels_76 (by decide) ?_
  refine lv_icmp_ne (tgt := 100) hx hb d_Pa_joinLabels_77 (by decide) (fun c3 => ?_) (fun c3 => ?_)
  · rw [if_neg c3] at hf
    obtain ⟨x4, ex4, hf⟩ := z_bs hf
    refine lv_iinc (v := x4) (lv' := [(1, .int x4), (0, .ref v0), (2, .ref v2)]) hx hb d_Pa_joinLabels_100 hl (k := 1) rfl (by rw [← Option.some.inj ex4]; rfl) (by decide) rfl (fun ls hl => ?_)
    refine lv_goto (tgt := 2) hx hb d_Pa_joinLabels_103 (by decide) ?_
    exact hk2 v0 x4 h1 _ _ _ hI (lv_sub hl [1, 0] rfl) hf
  · rw [if_pos c3] at hf
    refine lv_aload_n hx hb d_Pa_joinLabels_80 rfl (lv_at hl 0 rfl) ?_
    obtain ⟨x5, ex5, hf⟩ := z_bs hf
    refine z_getF X hI (k := 0) (ci := 6) (gR_s ex5) i_Pa rfl (by decide) wf_Pa_12 d_Pa_joinLabels_81 ?_
    refine lv_aload_n hx hb d_Pa_joinLabels_84 rfl (lv_at hl 2 rfl) ?_
    obtain ⟨x6, ex6, hf⟩ := z_bs hf
    refine z_getF X hI (k := 4) (ci := 1) (gI_s ex6) i_Cmd rfl (by decide) wf_Pa_162 d_Pa_joinLabels_85 ?_
    obtain ⟨h7, eh7, hf⟩ := z_bs hf
    refine z_putF X hI (k := 1) (ci := 2) (ty0 := t_Cur) eh7 i_Cur t_Cur_ok n_Cur rfl (by decide) wf_Pa_46 rfl rfl rfl d_Pa_joinLabels_88 (fun H locs hI => ?_)
    refine lv_aload_n hx hb d_Pa_joinLabels_91 rfl (lv_at hl 0 rfl) ?_
    obtain ⟨x8, ex8, hf⟩ := z_bs hf
    refine z_getF X hI (k := 0) (ci := 6) (gR_s ex8) i_Pa rfl (by decide) wf_Pa_12 d_Pa_joinLabels_92 ?_
    refine lv_iconst (v := 0) hx hb d_Pa_joinLabels_95 (by decide) ?_
    obtain ⟨u9, eu9, hf⟩ := z_bs hf
    obtain ⟨r10, er10, hf⟩ := z_bs hf
    refine z_callV (As := [.int 0]) (rest := []) (r := (some (.int r10.1))) (h' := r10.2) X hI eu9 (s_Cur_refuse er10) rfl rfl wm_Pa_68 yi_Cur_refuse rfl hl.1 rfl (Nat.le_of_ble_eq_true rfl) (by decide) (by decide) d_Pa_joinLabels_96 (fun H locs hI => ?_)
    refine W.eq (g2 := F0 m 99 ls [.int (r10.1)]) rfl ?_
    obtain ⟨x11, ex11, hf⟩ := z_bs hf
    refine z_topi (zB_s ex11).1 ?_
    cases hf
    exact z_zret X hI (zB_s2 ex11) d_Pa_joinLabels_99
def f_Pa_joinLabels_41 (N : Nat) (k2 : Nat → Int32 → z_H → Option (Int32 × z_H)) (v0 : Nat) (v1 : Int32) (v2 : Nat) (h : z_H) : Option (Int32 × z_H) :=
  z_b (gI h v2 1 8) fun x1 =>
  if x1 = (-1) then
  (z_b (gR h v0 6 5) fun x6 =>
  z_b (gI h x6 9 3) fun x7 =>
  f_Pa_joinLabels_69 N k2 v0 v1 v2 v2 x7 h)
  else
  (z_b (gR h v0 6 3) fun x3 =>
  z_b (gI h v2 1 8) fun x4 =>
  z_b (aI h x3 0 x4) fun x5 =>
  f_Pa_joinLabels_69 N k2 v0 v1 v2 v2 x5 h)
set_option maxRecDepth 20000 in
set_option maxHeartbeats 2000000 in
theorem s_Pa_joinLabels_41 (X : z_X p s m args meth c prog_8_method_25_code 3 (some .boolean) Ts "StreamForge$Parser" D dA B) {N : Nat} {r : Int32} {h' : z_H} {k2 : Nat → Int32 → z_H → Option (Int32 × z_H)} (hk2 : ∀ (v0 : Nat) (v1 : Int32) (h : z_H) (H : Heap) (locs : List Loc) (ls : Array Slot), z_I D dA B h s.heap H locs → lv_has ls 3 [(0, .ref v0), (1, .int v1)] → k2 v0 v1 h = some (r, h') → W p l e (z_rm 1 21) s m args below meth c H locs 0 0 (MQ below (z_Q D dA B (some (.int r)) h') args s 0 0 (fun q => B ≤ q)) (F0 m 2 ls [])) : ∀ (v0 : Nat) (v1 : Int32) (v2 : Nat) (h : z_H) (H : Heap) (locs : List Loc) (ls : Array Slot), z_I D dA B h s.heap H locs → lv_has ls 3 [(0, .ref v0), (1, .int v1), (2, .ref v2)] → f_Pa_joinLabels_41 N k2 v0 v1 v2 h = some (r, h') → W p l e (z_rm 1 21) s m args below meth c H locs 0 0 (MQ below (z_Q D dA B (some (.int r)) h') args s 0 0 (fun q => B ≤ q)) (F0 m 41 ls []) := by
  have hx := z_hx X
  have hb := z_hb X
  intro v0 v1 v2 h H locs ls hI hl hf
  unfold f_Pa_joinLabels_41 at hf
  refine lv_aload_n hx hb d_Pa_joinLabels_41 rfl (lv_at hl 2 rfl) ?_
  refine lv_aload_n hx hb d_Pa_joinLabels_42 rfl (lv_at hl 2 rfl) ?_
  obtain ⟨x1, ex1, hf⟩ := z_bs hf
  refine z_getF X hI (k := 8) (ci := 1) (gI_s ex1) i_Cmd rfl (by decide) wf_Pa_187 d_Pa_joinLabels_43 ?_
  refine lv_iconst (v := (-1)) hx hb d_Pa_joinLabels_46 (by decide) ?_
  refine lv_icmp_ne (tgt := 60) hx hb d_Pa_joinLabels_47 (by decide) (fun c2 => ?_) (fun c2 => ?_)
  · rw [if_neg c2] at hf
    refine lv_aload_n hx hb d_Pa_joinLabels_60 rfl (lv_at hl 0 rfl) ?_
    obtain ⟨x3, ex3, hf⟩ := z_bs hf
    refine z_getF X hI (k := 3) (ci := 6) (gR_s ex3) i_Pa rfl (by decide) wf_Pa_31 d_Pa_joinLabels_61 ?_
    refine lv_aload_n hx hb d_Pa_joinLabels_64 rfl (lv_at hl 2 rfl) ?_
    obtain ⟨x4, ex4, hf⟩ := z_bs hf
    refine z_getF X hI (k := 8) (ci := 1) (gI_s ex4) i_Cmd rfl (by decide) wf_Pa_187 d_Pa_joinLabels_65 ?_
    obtain ⟨x5, ex5, hf⟩ := z_bs hf
    refine z_iald X hI ex5 d_Pa_joinLabels_68 ?_
    exact s_Pa_joinLabels_69 X hk2 v0 v1 v2 v2 x5 h _ _ _ hI (lv_sub hl [0, 1, 2] rfl) hf
  · rw [if_pos c2] at hf
    refine lv_aload_n hx hb d_Pa_joinLabels_50 rfl (lv_at hl 0 rfl) ?_
    obtain ⟨x6, ex6, hf⟩ := z_bs hf
    refine z_getF X hI (k := 5) (ci := 6) (gR_s ex6) i_Pa rfl (by decide) wf_Pa_72 d_Pa_joinLabels_51 ?_
    obtain ⟨x7, ex7, hf⟩ := z_bs hf
    refine z_getF X hI (k := 3) (ci := 9) (gI_s ex7) i_Prog rfl (by decide) wf_Pa_103 d_Pa_joinLabels_54 ?_
    refine lv_goto (tgt := 69) hx hb d_Pa_joinLabels_57 (by decide) ?_
    exact s_Pa_joinLabels_69 X hk2 v0 v1 v2 v2 x7 h _ _ _ hI (lv_sub hl [0, 1, 2] rfl) hf
def f_Pa_joinLabels_2 (N : Nat)  : Nat → Nat → Int32 → z_H → Option (Int32 × z_H)
  | 0, _, _, _ => none
  | n + 1, v0, v1, h =>
    z_b (gR h v0 6 5) fun x1 =>
    z_b (gI h x1 9 3) fun x2 =>
    if x2 ≤ v1 then
    (some (1, h))
    else
    (z_b (gR h v0 6 5) fun x4 =>
    z_b (gR h x4 9 2) fun x5 =>
    z_b (aR h x5 5 v1) fun x6 =>
    z_b (gI h x6 1 3) fun x7 =>
    if x7 = 98 then
    (f_Pa_joinLabels_41 N (f_Pa_joinLabels_2 N  n) v0 v1 x6 h)
    else
    (z_b (gI h x6 1 3) fun x9 =>
    if x9 = 116 then
    (f_Pa_joinLabels_41 N (f_Pa_joinLabels_2 N  n) v0 v1 x6 h)
    else
    (z_b (some (v1 + 1)) fun x11 =>
    (f_Pa_joinLabels_2 N  n) v0 x11 h)))
set_option maxRecDepth 20000 in
set_option maxHeartbeats 2000000 in
theorem s_Pa_joinLabels_2 (X : z_X p s m args meth c prog_8_method_25_code 3 (some .boolean) Ts "StreamForge$Parser" D dA B) {N : Nat} {r : Int32} {h' : z_H}   : ∀ n : Nat, ∀ (v0 : Nat) (v1 : Int32) (h : z_H) (H : Heap) (locs : List Loc) (ls : Array Slot), z_I D dA B h s.heap H locs → lv_has ls 3 [(0, .ref v0), (1, .int v1)] → f_Pa_joinLabels_2 N  n v0 v1 h = some (r, h') → W p l e (z_rm 1 21) s m args below meth c H locs 0 0 (MQ below (z_Q D dA B (some (.int r)) h') args s 0 0 (fun q => B ≤ q)) (F0 m 2 ls []) := by
  have hx := z_hx X
  have hb := z_hb X
  intro n
  induction n with
  | zero => intro v0 v1 h H locs ls hI hl hf; rw [f_Pa_joinLabels_2] at hf; cases hf
  | succ n ih =>
    intro v0 v1 h H locs ls hI hl hf
    rw [f_Pa_joinLabels_2] at hf
    refine lv_iload_n hx hb d_Pa_joinLabels_2 rfl (lv_at hl 1 rfl) ?_
    refine lv_aload_n hx hb d_Pa_joinLabels_3 rfl (lv_at hl 0 rfl) ?_
    obtain ⟨x1, ex1, hf⟩ := z_bs hf
    refine z_getF X hI (k := 5) (ci := 6) (gR_s ex1) i_Pa rfl (by decide) wf_Pa_72 d_Pa_joinLabels_4 ?_
    obtain ⟨x2, ex2, hf⟩ := z_bs hf
    refine z_getF X hI (k := 3) (ci := 9) (gI_s ex2) i_Prog rfl (by decide) wf_Pa_103 d_Pa_joinLabels_7 ?_
    refine lv_icmp_ge (tgt := 106) hx hb d_Pa_joinLabels_10 (by decide) (fun c3 => ?_) (fun c3 => ?_)
    · rw [if_pos c3] at hf
      refine lv_iconst (v := 1) hx hb d_Pa_joinLabels_106 (by decide) ?_
      cases hf
      exact z_zret X hI (Or.inr rfl) d_Pa_joinLabels_107
    · rw [if_neg c3] at hf
      refine lv_aload_n hx hb d_Pa_joinLabels_13 rfl (lv_at hl 0 rfl) ?_
      obtain ⟨x4, ex4, hf⟩ := z_bs hf
      refine z_getF X hI (k := 5) (ci := 6) (gR_s ex4) i_Pa rfl (by decide) wf_Pa_72 d_Pa_joinLabels_14 ?_
      obtain ⟨x5, ex5, hf⟩ := z_bs hf
      refine z_getF X hI (k := 2) (ci := 9) (gR_s ex5) i_Prog rfl (by decide) wf_Pa_105 d_Pa_joinLabels_17 ?_
      refine lv_iload_n hx hb d_Pa_joinLabels_20 rfl (lv_at hl 1 rfl) ?_
      obtain ⟨x6, ex6, hf⟩ := z_bs hf
      refine z_aald5 X hI ex6 d_Pa_joinLabels_21 ?_
      refine lv_astore_n (lv' := [(2, .ref x6), (0, .ref v0), (1, .int v1)]) hx hb d_Pa_joinLabels_22 rfl hl (by decide) rfl (fun ls hl => ?_)
      refine lv_aload_n hx hb d_Pa_joinLabels_23 rfl (lv_at hl 0 rfl) ?_
      obtain ⟨x7, ex7, hf⟩ := z_bs hf
      refine z_getF X hI (k := 3) (ci := 1) (gI_s ex7) i_Cmd rfl (by decide) wf_Pa_161 d_Pa_joinLabels_24 ?_
      refine lv_bipush (v := 98) hx hb d_Pa_joinLabels_27 (by decide) ?_
      refine lv_icmp_eq (tgt := 41) hx hb d_Pa_joinLabels_29 (by decide) (fun c8 => ?_) (fun c8 => ?_)
      · rw [if_pos c8] at hf
        exact s_Pa_joinLabels_41 X ih v0 v1 x6 h _ _ _ hI (lv_sub hl [1, 2, 0] rfl) hf
      · rw [if_neg c8] at hf
        refine lv_aload_n hx hb d_Pa_joinLabels_32 rfl (lv_at hl 0 rfl) ?_
        obtain ⟨x9, ex9, hf⟩ := z_bs hf
        refine z_getF X hI (k := 3) (ci := 1) (gI_s ex9) i_Cmd rfl (by decide) wf_Pa_161 d_Pa_joinLabels_33 ?_
        refine lv_bipush (v := 116) hx hb d_Pa_joinLabels_36 (by decide) ?_
        refine lv_icmp_ne (tgt := 100) hx hb d_Pa_joinLabels_38 (by decide) (fun c10 => ?_) (fun c10 => ?_)
        · rw [if_neg c10] at hf
          obtain ⟨x11, ex11, hf⟩ := z_bs hf
          refine lv_iinc (v := x11) (lv' := [(1, .int x11), (2, .ref x6), (0, .ref v0)]) hx hb d_Pa_joinLabels_100 hl (k := 2) rfl (by rw [← Option.some.inj ex11]; rfl) (by decide) rfl (fun ls hl => ?_)
          refine lv_goto (tgt := 2) hx hb d_Pa_joinLabels_103 (by decide) ?_
          exact ih v0 x11 h _ _ _ hI (lv_sub hl [2, 0] rfl) hf
        · rw [if_pos c10] at hf
          exact s_Pa_joinLabels_41 X ih v0 v1 x6 h _ _ _ hI (lv_sub hl [1, 2, 0] rfl) hf
def f_Pa_joinLabels (N : Nat) (v0 : Nat) (h : z_H) : Option (Int32 × z_H) :=
  f_Pa_joinLabels_2 N N v0 0 h
set_option maxRecDepth 20000 in
set_option maxHeartbeats 2000000 in
theorem s_Pa_joinLabels {l : Launch} {D : va_G} {dA : Nat → ClassId} {B N : Nat} {v0 : Nat} {h h' : z_H} {r : Int32} (hf : f_Pa_joinLabels N v0 h = some (r, h')) : z_Met l y_Pa_joinLabels prog_8_method_25_code 3 (some .boolean) 1 21 D dA B [.ref v0] h (some (.int r)) h' := by
  refine z_of (by decide) (Nat.le_of_ble_eq_true rfl) (fun p e s m below meth c ls X hI hl => ?_)
  have hx := z_hx X
  have hb := z_hb X
  have hl : lv_has ls 3 [(0, .ref v0)] := hl
  unfold f_Pa_joinLabels at hf
  obtain ⟨locs, hlo⟩ : ∃ z : List Loc, z = [] := ⟨_, rfl⟩
  rw [← hlo] at hI ⊢
  refine lv_iconst (v := 0) hx hb d_Pa_joinLabels_0 (by decide) ?_
  refine lv_istore_n (lv' := [(1, .int 0), (0, .ref v0)]) hx hb d_Pa_joinLabels_1 rfl hl (by decide) rfl (fun ls hl => ?_)
  exact s_Pa_joinLabels_2 X  N v0 0 h _ _ _ hI (lv_sub hl [1, 0] rfl) hf
def f_Pa_read_58 (N : Nat) (k8 : Nat → Int32 → z_H → Option (Int32 × z_H)) (v0 : Nat) (v3 : Int32) (h : z_H) : Option (Int32 × z_H) :=
  z_b (gR h v0 6 0) fun x1 =>
  z_b (gI h x1 2 1) fun x2 =>
  z_b (sF h x1 2 1 (.int (x2 + 1))) fun h3 =>
  z_b (some (v3 + 1)) fun x4 =>
  k8 v0 x4 h3
set_option maxRecDepth 20000 in
set_option maxHeartbeats 2000000 in
theorem s_Pa_read_58 (X : z_X p s m args meth c prog_8_method_3_code 5 (some .boolean) Ts "StreamForge$Parser" D dA B) {N : Nat} {r : Int32} {h' : z_H} {k8 : Nat → Int32 → z_H → Option (Int32 × z_H)} (hk8 : ∀ (v0 : Nat) (v3 : Int32) (h : z_H) (H : Heap) (locs : List Loc) (ls : Array Slot), z_I D dA B h s.heap H locs → lv_has ls 5 [(0, .ref v0), (3, .int v3)] → k8 v0 v3 h = some (r, h') → W p l e (z_rm 6 138) s m args below meth c H locs 0 0 (MQ below (z_Q D dA B (some (.int r)) h') args s 0 0 (fun q => B ≤ q)) (F0 m 8 ls [])) : ∀ (v0 : Nat) (v3 : Int32) (h : z_H) (H : Heap) (locs : List Loc) (ls : Array Slot), z_I D dA B h s.heap H locs → lv_has ls 5 [(0, .ref v0), (3, .int v3)] → f_Pa_read_58 N k8 v0 v3 h = some (r, h') → W p l e (z_rm 6 138) s m args below meth c H locs 0 0 (MQ below (z_Q D dA B (some (.int r)) h') args s 0 0 (fun q => B ≤ q)) (F0 m 58 ls []) := by
  have hx := z_hx X
  have hb := z_hb X
  intro v0 v3 h H locs ls hI hl hf
  unfold f_Pa_read_58 at hf
  refine lv_aload_n hx hb d_Pa_read_58 rfl (lv_at hl 0 rfl) ?_
  obtain ⟨x1, ex1, hf⟩ := z_bs hf
  refine z_getF X hI (k := 0) (ci := 6) (gR_s ex1) i_Pa rfl (by decide) wf_Pa_12 d_Pa_read_59 ?_
  refine lv_dup hx hb d_Pa_read_62 rfl ?_
  obtain ⟨x2, ex2, hf⟩ := z_bs hf
  refine z_getF X hI (k := 1) (ci := 2) (gI_s ex2) i_Cur rfl (by decide) wf_Pa_46 d_Pa_read_63 ?_
  refine lv_iconst (v := 1) hx hb d_Pa_read_66 (by decide) ?_
  refine lv_iadd hx hb d_Pa_read_67 ?_
  obtain ⟨h3, eh3, hf⟩ := z_bs hf
  refine z_putF X hI (k := 1) (ci := 2) (ty0 := t_Cur) eh3 i_Cur t_Cur_ok n_Cur rfl (by decide) wf_Pa_46 rfl rfl rfl d_Pa_read_68 (fun H locs hI => ?_)
  refine lv_goto (tgt := 113) hx hb d_Pa_read_71 (by decide) ?_
  obtain ⟨x4, ex4, hf⟩ := z_bs hf
  refine lv_iinc (v := x4) (lv' := [(3, .int x4), (0, .ref v0)]) hx hb d_Pa_read_113 hl (k := 1) rfl (by rw [← Option.some.inj ex4]; rfl) (by decide) rfl (fun ls hl => ?_)
  refine lv_goto (tgt := 8) hx hb d_Pa_read_116 (by decide) ?_
  exact hk8 v0 x4 h3 _ _ _ hI (lv_sub hl [1, 0] rfl) hf
def f_Pa_read_119 (N : Nat)  (v0 : Nat) (h : z_H) : Option (Int32 × z_H) :=
  z_b (gI h v0 6 4) fun x1 =>
  if x1 = 0 then
  (z_b (gO h v0 6) fun u7 =>
  z_b (f_Pa_joinLabels N v0 h) fun r8 =>
  z_b (zB (r8.1)) fun x9 =>
  some (x9, r8.2))
  else
  (z_b (gR h v0 6 0) fun x3 =>
  z_b (gO h x3 2) fun u4 =>
  z_b (f_Cur_refuse N x3 0 h) fun r5 =>
  z_b (zB (r5.1)) fun x6 =>
  some (x6, r5.2))
set_option maxRecDepth 20000 in
set_option maxHeartbeats 2000000 in
theorem s_Pa_read_119 (X : z_X p s m args meth c prog_8_method_3_code 5 (some .boolean) Ts "StreamForge$Parser" D dA B) {N : Nat} {r : Int32} {h' : z_H}   : ∀ (v0 : Nat) (h : z_H) (H : Heap) (locs : List Loc) (ls : Array Slot), z_I D dA B h s.heap H locs → lv_has ls 5 [(0, .ref v0)] → f_Pa_read_119 N  v0 h = some (r, h') → W p l e (z_rm 6 138) s m args below meth c H locs 0 0 (MQ below (z_Q D dA B (some (.int r)) h') args s 0 0 (fun q => B ≤ q)) (F0 m 119 ls []) := by
  have hx := z_hx X
  have hb := z_hb X
  intro v0 h H locs ls hI hl hf
  unfold f_Pa_read_119 at hf
  refine lv_aload_n hx hb d_Pa_read_119 rfl (lv_at hl 0 rfl) ?_
  obtain ⟨x1, ex1, hf⟩ := z_bs hf
  refine z_getF X hI (k := 4) (ci := 6) (gI_s ex1) i_Pa rfl (by decide) wf_Pa_62 d_Pa_read_120 ?_
  refine lv_if_ne (tgt := 133) hx hb d_Pa_read_123 (by decide) (fun c2 => ?_) (fun c2 => ?_)
  · rw [if_neg c2] at hf
    refine lv_aload_n hx hb d_Pa_read_133 rfl (lv_at hl 0 rfl) ?_
    obtain ⟨x3, ex3, hf⟩ := z_bs hf
    refine z_getF X hI (k := 0) (ci := 6) (gR_s ex3) i_Pa rfl (by decide) wf_Pa_12 d_Pa_read_134 ?_
    refine lv_iconst (v := 0) hx hb d_Pa_read_137 (by decide) ?_
    obtain ⟨u4, eu4, hf⟩ := z_bs hf
    obtain ⟨r5, er5, hf⟩ := z_bs hf
    refine z_callV (As := [.int 0]) (rest := []) (r := (some (.int r5.1))) (h' := r5.2) X hI eu4 (s_Cur_refuse er5) rfl rfl wm_Pa_68 yi_Cur_refuse rfl hl.1 rfl (Nat.le_of_ble_eq_true rfl) (by decide) (by decide) d_Pa_read_138 (fun H locs hI => ?_)
    refine W.eq (g2 := F0 m 141 ls [.int (r5.1)]) rfl ?_
    obtain ⟨x6, ex6, hf⟩ := z_bs hf
    refine z_topi (zB_s ex6).1 ?_
    cases hf
    exact z_zret X hI (zB_s2 ex6) d_Pa_read_141
  · rw [if_pos c2] at hf
    refine lv_aload_n hx hb d_Pa_read_126 rfl (lv_at hl 0 rfl) ?_
    obtain ⟨u7, eu7, hf⟩ := z_bs hf
    obtain ⟨r8, er8, hf⟩ := z_bs hf
    refine z_callV (As := []) (rest := []) (r := (some (.int r8.1))) (h' := r8.2) X hI eu7 (s_Pa_joinLabels er8) rfl rfl wm_Pa_65 yi_Pa_joinLabels rfl hl.1 rfl (Nat.le_of_ble_eq_true rfl) (by decide) (by decide) d_Pa_read_127 (fun H locs hI => ?_)
    refine W.eq (g2 := F0 m 130 ls [.int (r8.1)]) rfl ?_
    refine lv_goto (tgt := 141) hx hb d_Pa_read_130 (by decide) ?_
    obtain ⟨x9, ex9, hf⟩ := z_bs hf
    refine z_topi (zB_s ex9).1 ?_
    cases hf
    exact z_zret X hI (zB_s2 ex9) d_Pa_read_141
def f_Pa_read_8 (N : Nat)  : Nat → Nat → Int32 → z_H → Option (Int32 × z_H)
  | 0, _, _, _ => none
  | n + 1, v0, v3, h =>
    if 240 < v3 then
    (f_Pa_read_119 N v0 h)
    else
    (z_b (gR h v0 6 0) fun x2 =>
    z_b (gO h x2 2) fun u3 =>
    z_b (f_Cur_look N x2 0 h) fun r4 =>
    if (r4.1) = (-1) then
    (f_Pa_read_119 N v0 r4.2)
    else
    (z_b (gR r4.2 v0 6 0) fun x6 =>
    z_b (gO r4.2 x6 2) fun u7 =>
    z_b (f_Cur_look N x6 0 r4.2) fun r8 =>
    z_b (some (r8.1)) fun x9 =>
    if x9 = 32 then
    (f_Pa_read_58 N (f_Pa_read_8 N  n) v0 v3 r8.2)
    else
    (if x9 = 10 then
    (f_Pa_read_58 N (f_Pa_read_8 N  n) v0 v3 r8.2)
    else
    (if x9 = 59 then
    (f_Pa_read_58 N (f_Pa_read_8 N  n) v0 v3 r8.2)
    else
    (if x9 = 125 then
    (z_b (gO r8.2 v0 6) fun u24 =>
    z_b (f_Pa_closeBlock N v0 r8.2) fun r25 =>
    if (r25.1) = 0 then
    (some (0, r25.2))
    else
    (z_b (some (v3 + 1)) fun x27 =>
    (f_Pa_read_8 N  n) v0 x27 r25.2))
    else
    (z_b (gO r8.2 v0 6) fun u14 =>
    z_b (f_Pa_beginCommand N v0 r8.2) fun r15 =>
    if (r15.1) = 0 then
    (some (0, r15.2))
    else
    (z_b (gO r15.2 v0 6) fun u17 =>
    z_b (f_Pa_readAddresses N v0 r15.2) fun r18 =>
    if (r18.1) = 0 then
    (some (0, r18.2))
    else
    (z_b (gO r18.2 v0 6) fun u20 =>
    z_b (f_Pa_readAction N v0 r18.2) fun r21 =>
    if (r21.1) = 0 then
    (some (0, r21.2))
    else
    (z_b (some (v3 + 1)) fun x23 =>
    (f_Pa_read_8 N  n) v0 x23 r21.2)))))))))
set_option maxRecDepth 20000 in
set_option maxHeartbeats 2000000 in
theorem s_Pa_read_8 (X : z_X p s m args meth c prog_8_method_3_code 5 (some .boolean) Ts "StreamForge$Parser" D dA B) {N : Nat} {r : Int32} {h' : z_H}   : ∀ n : Nat, ∀ (v0 : Nat) (v3 : Int32) (h : z_H) (H : Heap) (locs : List Loc) (ls : Array Slot), z_I D dA B h s.heap H locs → lv_has ls 5 [(0, .ref v0), (3, .int v3)] → f_Pa_read_8 N  n v0 v3 h = some (r, h') → W p l e (z_rm 6 138) s m args below meth c H locs 0 0 (MQ below (z_Q D dA B (some (.int r)) h') args s 0 0 (fun q => B ≤ q)) (F0 m 8 ls []) := by
  have hx := z_hx X
  have hb := z_hb X
  intro n
  induction n with
  | zero => intro v0 v3 h H locs ls hI hl hf; rw [f_Pa_read_8] at hf; cases hf
  | succ n ih =>
    intro v0 v3 h H locs ls hI hl hf
    rw [f_Pa_read_8] at hf
    refine lv_iload_n hx hb d_Pa_read_8 rfl (lv_at hl 1 rfl) ?_
    refine lv_sipush (v := 240) hx hb d_Pa_read_9 (by decide) ?_
    refine lv_icmp_gt (tgt := 119) hx hb d_Pa_read_12 (by decide) (fun c1 => ?_) (fun c1 => ?_)
    · rw [if_pos c1] at hf
      exact s_Pa_read_119 X  v0 h _ _ _ hI (lv_sub hl [0] rfl) hf
    · rw [if_neg c1] at hf
      refine lv_aload_n hx hb d_Pa_read_15 rfl (lv_at hl 0 rfl) ?_
      obtain ⟨x2, ex2, hf⟩ := z_bs hf
      refine z_getF X hI (k := 0) (ci := 6) (gR_s ex2) i_Pa rfl (by decide) wf_Pa_12 d_Pa_read_16 ?_
      refine lv_iconst (v := 0) hx hb d_Pa_read_19 (by decide) ?_
      obtain ⟨u3, eu3, hf⟩ := z_bs hf
      obtain ⟨r4, er4, hf⟩ := z_bs hf
      refine z_callV (As := [.int 0]) (rest := []) (r := (some (.int r4.1))) (h' := r4.2) X hI eu3 (s_Cur_look er4) rfl rfl wm_Pa_42 yi_Cur_look rfl hl.1 rfl (Nat.le_of_ble_eq_true rfl) (by decide) (by decide) d_Pa_read_20 (fun H locs hI => ?_)
      refine W.eq (g2 := F0 m 23 ls [.int (r4.1)]) rfl ?_
      refine lv_iconst (v := (-1)) hx hb d_Pa_read_23 (by decide) ?_
      refine lv_icmp_eq (tgt := 119) hx hb d_Pa_read_24 (by decide) (fun c5 => ?_) (fun c5 => ?_)
      · rw [if_pos c5] at hf
        exact s_Pa_read_119 X  v0 r4.2 _ _ _ hI (lv_sub hl [0] rfl) hf
      · rw [if_neg c5] at hf
        refine lv_aload_n hx hb d_Pa_read_27 rfl (lv_at hl 0 rfl) ?_
        obtain ⟨x6, ex6, hf⟩ := z_bs hf
        refine z_getF X hI (k := 0) (ci := 6) (gR_s ex6) i_Pa rfl (by decide) wf_Pa_12 d_Pa_read_28 ?_
        refine lv_iconst (v := 0) hx hb d_Pa_read_31 (by decide) ?_
        obtain ⟨u7, eu7, hf⟩ := z_bs hf
        obtain ⟨r8, er8, hf⟩ := z_bs hf
        refine z_callV (As := [.int 0]) (rest := []) (r := (some (.int r8.1))) (h' := r8.2) X hI eu7 (s_Cur_look er8) rfl rfl wm_Pa_42 yi_Cur_look rfl hl.1 rfl (Nat.le_of_ble_eq_true rfl) (by decide) (by decide) d_Pa_read_32 (fun H locs hI => ?_)
        refine W.eq (g2 := F0 m 35 ls [.int (r8.1)]) rfl ?_
        obtain ⟨x9, ex9, hf⟩ := z_bs hf
        refine z_topi (Option.some.inj ex9) ?_
        refine lv_istore (lv' := [(4, .int x9), (0, .ref v0), (3, .int v3)]) hx hb d_Pa_read_35 hl (by decide) rfl (fun ls hl => ?_)
        refine lv_iload hx hb d_Pa_read_37 (lv_at hl 0 rfl) ?_
        refine lv_bipush (v := 32) hx hb d_Pa_read_39 (by decide) ?_
        refine lv_icmp_eq (tgt := 58) hx hb d_Pa_read_41 (by decide) (fun c10 => ?_) (fun c10 => ?_)
        · rw [if_pos c10] at hf
          exact s_Pa_read_58 X ih v0 v3 r8.2 _ _ _ hI (lv_sub hl [1, 2] rfl) hf
        · rw [if_neg c10] at hf
          refine lv_iload hx hb d_Pa_read_44 (lv_at hl 0 rfl) ?_
          refine lv_bipush (v := 10) hx hb d_Pa_read_46 (by decide) ?_
          refine lv_icmp_eq (tgt := 58) hx hb d_Pa_read_48 (by decide) (fun c11 => ?_) (fun c11 => ?_)
          · rw [if_pos c11] at hf
            exact s_Pa_read_58 X ih v0 v3 r8.2 _ _ _ hI (lv_sub hl [1, 2] rfl) hf
          · rw [if_neg c11] at hf
            refine lv_iload hx hb d_Pa_read_51 (lv_at hl 0 rfl) ?_
            refine lv_bipush (v := 59) hx hb d_Pa_read_53 (by decide) ?_
            refine lv_icmp_ne (tgt := 74) hx hb d_Pa_read_55 (by decide) (fun c12 => ?_) (fun c12 => ?_)
            · rw [if_neg c12] at hf
              refine lv_iload hx hb d_Pa_read_74 (lv_at hl 0 rfl) ?_
              refine lv_bipush (v := 125) hx hb d_Pa_read_76 (by decide) ?_
              refine lv_icmp_ne (tgt := 90) hx hb d_Pa_read_78 (by decide) (fun c13 => ?_) (fun c13 => ?_)
              · rw [if_neg c13] at hf
                refine lv_aload_n hx hb d_Pa_read_90 rfl (lv_at hl 1 rfl) ?_
                obtain ⟨u14, eu14, hf⟩ := z_bs hf
                obtain ⟨r15, er15, hf⟩ := z_bs hf
                refine z_callV (As := []) (rest := []) (r := (some (.int r15.1))) (h' := r15.2) X hI eu14 (s_Pa_beginCommand er15) rfl rfl wm_Pa_53 yi_Pa_beginCommand rfl hl.1 rfl (Nat.le_of_ble_eq_true rfl) (by decide) (by decide) d_Pa_read_91 (fun H locs hI => ?_)
                refine W.eq (g2 := F0 m 94 ls [.int (r15.1)]) rfl ?_
                refine lv_if_eq (tgt := 111) hx hb d_Pa_read_94 (by decide) (fun c16 => ?_) (fun c16 => ?_)
                · rw [if_pos c16] at hf
                  refine lv_iconst (v := 0) hx hb d_Pa_read_111 (by decide) ?_
                  cases hf
                  exact z_zret X hI (Or.inl rfl) d_Pa_read_112
                · rw [if_neg c16] at hf
                  refine lv_aload_n hx hb d_Pa_read_97 rfl (lv_at hl 1 rfl) ?_
                  obtain ⟨u17, eu17, hf⟩ := z_bs hf
                  obtain ⟨r18, er18, hf⟩ := z_bs hf
                  refine z_callV (As := []) (rest := []) (r := (some (.int r18.1))) (h' := r18.2) X hI eu17 (s_Pa_readAddresses er18) rfl rfl wm_Pa_56 yi_Pa_readAddresses rfl hl.1 rfl (Nat.le_of_ble_eq_true rfl) (by decide) (by decide) d_Pa_read_98 (fun H locs hI => ?_)
                  refine W.eq (g2 := F0 m 101 ls [.int (r18.1)]) rfl ?_
                  refine lv_if_eq (tgt := 111) hx hb d_Pa_read_101 (by decide) (fun c19 => ?_) (fun c19 => ?_)
                  · rw [if_pos c19] at hf
                    refine lv_iconst (v := 0) hx hb d_Pa_read_111 (by decide) ?_
                    cases hf
                    exact z_zret X hI (Or.inl rfl) d_Pa_read_112
                  · rw [if_neg c19] at hf
                    refine lv_aload_n hx hb d_Pa_read_104 rfl (lv_at hl 1 rfl) ?_
                    obtain ⟨u20, eu20, hf⟩ := z_bs hf
                    obtain ⟨r21, er21, hf⟩ := z_bs hf
                    refine z_callV (As := []) (rest := []) (r := (some (.int r21.1))) (h' := r21.2) X hI eu20 (s_Pa_readAction er21) rfl rfl wm_Pa_59 yi_Pa_readAction rfl hl.1 rfl (Nat.le_of_ble_eq_true rfl) (by decide) (by decide) d_Pa_read_105 (fun H locs hI => ?_)
                    refine W.eq (g2 := F0 m 108 ls [.int (r21.1)]) rfl ?_
                    refine lv_if_ne (tgt := 113) hx hb d_Pa_read_108 (by decide) (fun c22 => ?_) (fun c22 => ?_)
                    · rw [if_neg c22] at hf
                      obtain ⟨x23, ex23, hf⟩ := z_bs hf
                      refine lv_iinc (v := x23) (lv' := [(3, .int x23), (4, .int x9), (0, .ref v0)]) hx hb d_Pa_read_113 hl (k := 2) rfl (by rw [← Option.some.inj ex23]; rfl) (by decide) rfl (fun ls hl => ?_)
                      refine lv_goto (tgt := 8) hx hb d_Pa_read_116 (by decide) ?_
                      exact ih v0 x23 r21.2 _ _ _ hI (lv_sub hl [2, 0] rfl) hf
                    · rw [if_pos c22] at hf
                      refine lv_iconst (v := 0) hx hb d_Pa_read_111 (by decide) ?_
                      cases hf
                      exact z_zret X hI (Or.inl rfl) d_Pa_read_112
              · rw [if_pos c13] at hf
                refine lv_aload_n hx hb d_Pa_read_81 rfl (lv_at hl 1 rfl) ?_
                obtain ⟨u24, eu24, hf⟩ := z_bs hf
                obtain ⟨r25, er25, hf⟩ := z_bs hf
                refine z_callV (As := []) (rest := []) (r := (some (.int r25.1))) (h' := r25.2) X hI eu24 (s_Pa_closeBlock er25) rfl rfl wm_Pa_49 yi_Pa_closeBlock rfl hl.1 rfl (Nat.le_of_ble_eq_true rfl) (by decide) (by decide) d_Pa_read_82 (fun H locs hI => ?_)
                refine W.eq (g2 := F0 m 85 ls [.int (r25.1)]) rfl ?_
                refine lv_if_ne (tgt := 113) hx hb d_Pa_read_85 (by decide) (fun c26 => ?_) (fun c26 => ?_)
                · rw [if_neg c26] at hf
                  obtain ⟨x27, ex27, hf⟩ := z_bs hf
                  refine lv_iinc (v := x27) (lv' := [(3, .int x27), (4, .int x9), (0, .ref v0)]) hx hb d_Pa_read_113 hl (k := 2) rfl (by rw [← Option.some.inj ex27]; rfl) (by decide) rfl (fun ls hl => ?_)
                  refine lv_goto (tgt := 8) hx hb d_Pa_read_116 (by decide) ?_
                  exact ih v0 x27 r25.2 _ _ _ hI (lv_sub hl [2, 0] rfl) hf
                · rw [if_pos c26] at hf
                  refine lv_iconst (v := 0) hx hb d_Pa_read_88 (by decide) ?_
                  cases hf
                  exact z_zret X hI (Or.inl rfl) d_Pa_read_89
            · rw [if_pos c12] at hf
              exact s_Pa_read_58 X ih v0 v3 r8.2 _ _ _ hI (lv_sub hl [1, 2] rfl) hf
def f_Pa_read (N : Nat) (v0 : Nat) (v1 : Nat) (v2 : Nat) (h : z_H) : Option (Int32 × z_H) :=
  z_b (gO h v0 6) fun u1 =>
  z_b (f_Pa_begin N v0 v1 v2 h) fun r2 =>
  f_Pa_read_8 N N v0 0 r2
set_option maxRecDepth 20000 in
set_option maxHeartbeats 2000000 in
theorem s_Pa_read {l : Launch} {D : va_G} {dA : Nat → ClassId} {B N : Nat} {v0 : Nat} {v1 : Nat} {v2 : Nat} {h h' : z_H} {r : Int32} (hf : f_Pa_read N v0 v1 v2 h = some (r, h')) : z_Met l y_Pa_read prog_8_method_3_code 5 (some .boolean) 6 138 D dA B [.ref v0, .ref v1, .ref v2] h (some (.int r)) h' := by
  refine z_of (by decide) (Nat.le_of_ble_eq_true rfl) (fun p e s m below meth c ls X hI hl => ?_)
  have hx := z_hx X
  have hb := z_hb X
  have hl : lv_has ls 5 [(0, .ref v0), (1, .ref v1), (2, .ref v2)] := hl
  unfold f_Pa_read at hf
  obtain ⟨locs, hlo⟩ : ∃ z : List Loc, z = [] := ⟨_, rfl⟩
  rw [← hlo] at hI ⊢
  refine lv_aload_n hx hb d_Pa_read_0 rfl (lv_at hl 0 rfl) ?_
  refine lv_aload_n hx hb d_Pa_read_1 rfl (lv_at hl 1 rfl) ?_
  refine lv_aload_n hx hb d_Pa_read_2 rfl (lv_at hl 2 rfl) ?_
  obtain ⟨u1, eu1, hf⟩ := z_bs hf
  obtain ⟨r2, er2, hf⟩ := z_bs hf
  refine z_callV (As := [.ref v1, .ref v2]) (rest := []) (r := none) (h' := r2) X hI eu1 (s_Pa_begin er2) rfl rfl wm_Pa_38 yi_Pa_begin rfl hl.1 rfl (Nat.le_of_ble_eq_true rfl) (by decide) (by decide) d_Pa_read_3 (fun H locs hI => ?_)
  refine W.eq (g2 := F0 m 6 ls []) rfl ?_
  refine lv_iconst (v := 0) hx hb d_Pa_read_6 (by decide) ?_
  refine lv_istore_n (lv' := [(3, .int 0), (0, .ref v0), (1, .ref v1), (2, .ref v2)]) hx hb d_Pa_read_7 rfl hl (by decide) rfl (fun ls hl => ?_)
  exact s_Pa_read_8 X  N v0 0 r2 _ _ _ hI (lv_sub hl [1, 0] rfl) hf
end
