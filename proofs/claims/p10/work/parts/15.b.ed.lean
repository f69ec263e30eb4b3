section
variable {p : Program} {l : Launch} {e : Env} {s : State} {m : MethodId} {args : Array Value} {below : List Frame} {meth : Method} {c : Code} {Ts : List Cond} {own : String} {D : va_G} {dA : Nat → ClassId} {B : Nat}
def f_Ed_readLine (N : Nat) (v0 : Nat) (h : z_H) : Option z_H :=
  z_b (gR h v0 3 11) fun x1 =>
  z_b (gI h v0 3 3) fun x2 =>
  z_b (aR h x1 4 x2) fun x3 =>
  z_b (gR h v0 3 1) fun x4 =>
  z_b (gI h x3 10 1) fun x5 =>
  z_b (gO h x4 10) fun u6 =>
  z_b (f_Row_addPart N x4 x3 0 x5 h) fun r7 =>
  z_b (gI r7 v0 3 3) fun x8 =>
  z_b (sF r7 v0 3 3 (.int (x8 + 1))) fun h9 =>
  some h9
set_option maxRecDepth 20000 in
set_option maxHeartbeats 2000000 in
theorem s_Ed_readLine {l : Launch} {D : va_G} {dA : Nat → ClassId} {B N : Nat} {v0 : Nat} {h h' : z_H} (hf : f_Ed_readLine N v0 h = some h') : z_Met l y_Ed_readLine prog_5_method_6_code 2 none 1 24 D dA B [.ref v0] h none h' := by
  refine z_of (by decide) (Nat.le_of_ble_eq_true rfl) (fun p e s m below meth c ls X hI hl => ?_)
  have hx := z_hx X
  have hb := z_hb X
  have hl : lv_has ls 2 [(0, .ref v0)] := hl
  unfold f_Ed_readLine at hf
  obtain ⟨locs, hlo⟩ : ∃ z : List Loc, z = [] := ⟨_, rfl⟩
  rw [← hlo] at hI ⊢
  refine lv_aload_n hx hb d_Ed_readLine_0 rfl (lv_at hl 0 rfl) ?_
  obtain ⟨x1, ex1, hf⟩ := z_bs hf
  refine z_getF X hI (k := 11) (ci := 3) (gR_s ex1) i_Ed rfl (by decide) wf_Ed_43 d_Ed_readLine_1 ?_
  refine lv_aload_n hx hb d_Ed_readLine_4 rfl (lv_at hl 0 rfl) ?_
  obtain ⟨x2, ex2, hf⟩ := z_bs hf
  refine z_getF X hI (k := 3) (ci := 3) (gI_s ex2) i_Ed rfl (by decide) wf_Ed_99 d_Ed_readLine_5 ?_
  obtain ⟨x3, ex3, hf⟩ := z_bs hf
  refine z_aald4 X hI ex3 d_Ed_readLine_8 ?_
  refine lv_astore_n (lv' := [(1, .ref x3), (0, .ref v0)]) hx hb d_Ed_readLine_9 rfl hl (by decide) rfl (fun ls hl => ?_)
  refine lv_aload_n hx hb d_Ed_readLine_10 rfl (lv_at hl 1 rfl) ?_
  obtain ⟨x4, ex4, hf⟩ := z_bs hf
  refine z_getF X hI (k := 1) (ci := 3) (gR_s ex4) i_Ed rfl (by decide) wf_Ed_20 d_Ed_readLine_11 ?_
  refine lv_aload_n hx hb d_Ed_readLine_14 rfl (lv_at hl 0 rfl) ?_
  refine lv_iconst (v := 0) hx hb d_Ed_readLine_15 (by decide) ?_
  refine lv_aload_n hx hb d_Ed_readLine_16 rfl (lv_at hl 0 rfl) ?_
  obtain ⟨x5, ex5, hf⟩ := z_bs hf
  refine z_getF X hI (k := 1) (ci := 10) (gI_s ex5) i_Row rfl (by decide) wf_Ed_123 d_Ed_readLine_17 ?_
  obtain ⟨u6, eu6, hf⟩ := z_bs hf
  obtain ⟨r7, er7, hf⟩ := z_bs hf
  refine z_callV (As := [.ref x3, .int 0, .int x5]) (rest := []) (r := none) (h' := r7) X hI eu6 (s_Row_addPart er7) rfl rfl wm_Ed_126 yi_Row_addPart rfl hl.1 rfl (Nat.le_of_ble_eq_true rfl) (by decide) (by decide) d_Ed_readLine_20 (fun H locs hI => ?_)
  refine W.eq (g2 := F0 m 23 ls []) rfl ?_
  refine lv_aload_n hx hb d_Ed_readLine_23 rfl (lv_at hl 1 rfl) ?_
  refine lv_dup hx hb d_Ed_readLine_24 rfl ?_
  obtain ⟨x8, ex8, hf⟩ := z_bs hf
  refine z_getF X hI (k := 3) (ci := 3) (gI_s ex8) i_Ed rfl (by decide) wf_Ed_99 d_Ed_readLine_25 ?_
  refine lv_iconst (v := 1) hx hb d_Ed_readLine_28 (by decide) ?_
  refine lv_iadd hx hb d_Ed_readLine_29 ?_
  obtain ⟨h9, eh9, hf⟩ := z_bs hf
  refine z_putF X hI (k := 3) (ci := 3) (ty0 := t_Ed) eh9 i_Ed t_Ed_ok n_Ed rfl (by decide) wf_Ed_99 rfl rfl rfl d_Ed_readLine_30 (fun H locs hI => ?_)
  cases hf
  exact z_vret X hI d_Ed_readLine_33
def f_Ed_beginCycle (N : Nat) (v0 : Nat) (h : z_H) : Option z_H :=
  z_b (gI h v0 3 5) fun x1 =>
  z_b (sF h v0 3 5 (.int (x1 + 1))) fun h2 =>
  z_b (sF h2 v0 3 15 (.int 0)) fun h3 =>
  z_b (sF h3 v0 3 13 (.int 0)) fun h4 =>
  some h4
set_option maxRecDepth 20000 in
set_option maxHeartbeats 2000000 in
theorem s_Ed_beginCycle {l : Launch} {D : va_G} {dA : Nat → ClassId} {B N : Nat} {v0 : Nat} {h h' : z_H} (hf : f_Ed_beginCycle N v0 h = some h') : z_Met l y_Ed_beginCycle prog_5_method_5_code 1 none 0 0 D dA B [.ref v0] h none h' := by
  refine z_of (by decide) (Nat.le_of_ble_eq_true rfl) (fun p e s m below meth c ls X hI hl => ?_)
  have hx := z_hx X
  have hb := z_hb X
  have hl : lv_has ls 1 [(0, .ref v0)] := hl
  unfold f_Ed_beginCycle at hf
  obtain ⟨locs, hlo⟩ : ∃ z : List Loc, z = [] := ⟨_, rfl⟩
  rw [← hlo] at hI ⊢
  refine lv_aload_n hx hb d_Ed_beginCycle_0 rfl (lv_at hl 0 rfl) ?_
  refine lv_dup hx hb d_Ed_beginCycle_1 rfl ?_
  obtain ⟨x1, ex1, hf⟩ := z_bs hf
  refine z_getF X hI (k := 5) (ci := 3) (gI_s ex1) i_Ed rfl (by decide) wf_Ed_102 d_Ed_beginCycle_2 ?_
  refine lv_iconst (v := 1) hx hb d_Ed_beginCycle_5 (by decide) ?_
  refine lv_iadd hx hb d_Ed_beginCycle_6 ?_
  obtain ⟨h2, eh2, hf⟩ := z_bs hf
  refine z_putF X hI (k := 5) (ci := 3) (ty0 := t_Ed) eh2 i_Ed t_Ed_ok n_Ed rfl (by decide) wf_Ed_102 rfl rfl rfl d_Ed_beginCycle_7 (fun H locs hI => ?_)
  refine lv_aload_n hx hb d_Ed_beginCycle_10 rfl (lv_at hl 0 rfl) ?_
  refine lv_iconst (v := 0) hx hb d_Ed_beginCycle_11 (by decide) ?_
  obtain ⟨h3, eh3, hf⟩ := z_bs hf
  refine z_putF X hI (k := 15) (ci := 3) (ty0 := t_Ed) eh3 i_Ed t_Ed_ok n_Ed rfl (by decide) wf_Ed_120 rfl rfl rfl d_Ed_beginCycle_12 (fun H locs hI => ?_)
  refine lv_aload_n hx hb d_Ed_beginCycle_15 rfl (lv_at hl 0 rfl) ?_
  refine lv_iconst (v := 0) hx hb d_Ed_beginCycle_16 (by decide) ?_
  obtain ⟨h4, eh4, hf⟩ := z_bs hf
  refine z_putF X hI (k := 13) (ci := 3) (ty0 := t_Ed) eh4 i_Ed t_Ed_ok n_Ed rfl (by decide) wf_Ed_58 rfl rfl rfl d_Ed_beginCycle_17 (fun H locs hI => ?_)
  cases hf
  exact z_vret X hI d_Ed_beginCycle_20
def f_Ed_beginLine (N : Nat) (v0 : Nat) (h : z_H) : Option z_H :=
  z_b (gI h v0 3 3) fun x1 =>
  z_b (gI h v0 3 12) fun x2 =>
  if x1 = x2 then
  (z_b (sF h v0 3 14 (.int 1)) fun h11 =>
  some h11)
  else
  (z_b (gR h v0 3 1) fun x4 =>
  z_b (gO h x4 10) fun u5 =>
  z_b (f_Row_empty N x4 h) fun r6 =>
  z_b (gO r6 v0 3) fun u7 =>
  z_b (f_Ed_readLine N v0 r6) fun r8 =>
  z_b (gO r8 v0 3) fun u9 =>
  z_b (f_Ed_beginCycle N v0 r8) fun r10 =>
  some r10)
set_option maxRecDepth 20000 in
set_option maxHeartbeats 2000000 in
theorem s_Ed_beginLine {l : Launch} {D : va_G} {dA : Nat → ClassId} {B N : Nat} {v0 : Nat} {h h' : z_H} (hf : f_Ed_beginLine N v0 h = some h') : z_Met l y_Ed_beginLine prog_5_method_4_code 1 none 2 45 D dA B [.ref v0] h none h' := by
  refine z_of (by decide) (Nat.le_of_ble_eq_true rfl) (fun p e s m below meth c ls X hI hl => ?_)
  have hx := z_hx X
  have hb := z_hb X
  have hl : lv_has ls 1 [(0, .ref v0)] := hl
  unfold f_Ed_beginLine at hf
  obtain ⟨locs, hlo⟩ : ∃ z : List Loc, z = [] := ⟨_, rfl⟩
  rw [← hlo] at hI ⊢
  refine lv_aload_n hx hb d_Ed_beginLine_0 rfl (lv_at hl 0 rfl) ?_
  obtain ⟨x1, ex1, hf⟩ := z_bs hf
  refine z_getF X hI (k := 3) (ci := 3) (gI_s ex1) i_Ed rfl (by decide) wf_Ed_99 d_Ed_beginLine_1 ?_
  refine lv_aload_n hx hb d_Ed_beginLine_4 rfl (lv_at hl 0 rfl) ?_
  obtain ⟨x2, ex2, hf⟩ := z_bs hf
  refine z_getF X hI (k := 12) (ci := 3) (gI_s ex2) i_Ed rfl (by decide) wf_Ed_47 d_Ed_beginLine_5 ?_
  refine lv_icmp_ne (tgt := 17) hx hb d_Ed_beginLine_8 (by decide) (fun c3 => ?_) (fun c3 => ?_)
  · rw [if_neg c3] at hf
    refine lv_aload_n hx hb d_Ed_beginLine_17 rfl (lv_at hl 0 rfl) ?_
    obtain ⟨x4, ex4, hf⟩ := z_bs hf
    refine z_getF X hI (k := 1) (ci := 3) (gR_s ex4) i_Ed rfl (by decide) wf_Ed_20 d_Ed_beginLine_18 ?_
    obtain ⟨u5, eu5, hf⟩ := z_bs hf
    obtain ⟨r6, er6, hf⟩ := z_bs hf
    refine z_callV (As := []) (rest := []) (r := none) (h' := r6) X hI eu5 (s_Row_empty er6) rfl rfl wm_Ed_96 yi_Row_empty rfl hl.1 rfl (Nat.le_of_ble_eq_true rfl) (by decide) (by decide) d_Ed_beginLine_21 (fun H locs hI => ?_)
    refine W.eq (g2 := F0 m 24 ls []) rfl ?_
    refine lv_aload_n hx hb d_Ed_beginLine_24 rfl (lv_at hl 0 rfl) ?_
    obtain ⟨u7, eu7, hf⟩ := z_bs hf
    obtain ⟨r8, er8, hf⟩ := z_bs hf
    refine z_callV (As := []) (rest := []) (r := none) (h' := r8) X hI eu7 (s_Ed_readLine er8) rfl rfl wm_Ed_114 yi_Ed_readLine rfl hl.1 rfl (Nat.le_of_ble_eq_true rfl) (by decide) (by decide) d_Ed_beginLine_25 (fun H locs hI => ?_)
    refine W.eq (g2 := F0 m 28 ls []) rfl ?_
    refine lv_aload_n hx hb d_Ed_beginLine_28 rfl (lv_at hl 0 rfl) ?_
    obtain ⟨u9, eu9, hf⟩ := z_bs hf
    obtain ⟨r10, er10, hf⟩ := z_bs hf
    refine z_callV (As := []) (rest := []) (r := none) (h' := r10) X hI eu9 (s_Ed_beginCycle er10) rfl rfl wm_Ed_117 yi_Ed_beginCycle rfl hl.1 rfl (Nat.le_of_ble_eq_true rfl) (by decide) (by decide) d_Ed_beginLine_29 (fun H locs hI => ?_)
    refine W.eq (g2 := F0 m 32 ls []) rfl ?_
    cases hf
    exact z_vret X hI d_Ed_beginLine_32
  · rw [if_pos c3] at hf
    refine lv_aload_n hx hb d_Ed_beginLine_11 rfl (lv_at hl 0 rfl) ?_
    refine lv_iconst (v := 1) hx hb d_Ed_beginLine_12 (by decide) ?_
    obtain ⟨h11, eh11, hf⟩ := z_bs hf
    refine z_putF X hI (k := 14) (ci := 3) (ty0 := t_Ed) eh11 i_Ed t_Ed_ok n_Ed rfl (by decide) wf_Ed_54 rfl rfl rfl d_Ed_beginLine_13 (fun H locs hI => ?_)
    cases hf
    exact z_vret X hI d_Ed_beginLine_16
def f_Ed_begin_55 (N : Nat)  : Nat → Nat → Int32 → z_H → Option z_H
  | 0, _, _, _ => none
  | n + 1, v0, v1, h =>
    z_b (gR h v0 3 10) fun x1 =>
    z_b (gI h x1 9 3) fun x2 =>
    if x2 ≤ v1 then
    (z_b (gO h v0 3) fun u4 =>
    z_b (f_Ed_beginLine N v0 h) fun r5 =>
    some r5)
    else
    (z_b (gR h v0 3 10) fun x6 =>
    z_b (gR h x6 9 2) fun x7 =>
    z_b (aR h x7 5 v1) fun x8 =>
    z_b (sF h x8 1 15 (.int 0)) fun h9 =>
    z_b (some (v1 + 1)) fun x10 =>
    (f_Ed_begin_55 N  n) v0 x10 h9)
set_option maxRecDepth 20000 in
set_option maxHeartbeats 2000000 in
theorem s_Ed_begin_55 (X : z_X p s m args meth c prog_5_method_3_code 2 none Ts "StreamForge$Editor" D dA B) {N : Nat} {h' : z_H}   : ∀ n : Nat, ∀ (v0 : Nat) (v1 : Int32) (h : z_H) (H : Heap) (locs : List Loc) (ls : Array Slot), z_I D dA B h s.heap H locs → lv_has ls 2 [(0, .ref v0), (1, .int v1)] → f_Ed_begin_55 N  n v0 v1 h = some h' → W p l e (z_rm 3 65) s m args below meth c H locs 0 0 (MQ below (z_Q D dA B none h') args s 0 0 (fun q => B ≤ q)) (F0 m 55 ls []) := by
  have hx := z_hx X
  have hb := z_hb X
  intro n
  induction n with
  | zero => intro v0 v1 h H locs ls hI hl hf; rw [f_Ed_begin_55] at hf; cases hf
  | succ n ih =>
    intro v0 v1 h H locs ls hI hl hf
    rw [f_Ed_begin_55] at hf
    refine lv_iload_n hx hb d_Ed_begin_55 rfl (lv_at hl 1 rfl) ?_
    refine lv_aload_n hx hb d_Ed_begin_56 rfl (lv_at hl 0 rfl) ?_
    obtain ⟨x1, ex1, hf⟩ := z_bs hf
    refine z_getF X hI (k := 10) (ci := 3) (gR_s ex1) i_Ed rfl (by decide) wf_Ed_39 d_Ed_begin_57 ?_
    obtain ⟨x2, ex2, hf⟩ := z_bs hf
    refine z_getF X hI (k := 3) (ci := 9) (gI_s ex2) i_Prog rfl (by decide) wf_Ed_61 d_Ed_begin_60 ?_
    refine lv_icmp_ge (tgt := 85) hx hb d_Ed_begin_63 (by decide) (fun c3 => ?_) (fun c3 => ?_)
    · rw [if_pos c3] at hf
      refine lv_aload_n hx hb d_Ed_begin_85 rfl (lv_at hl 0 rfl) ?_
      obtain ⟨u4, eu4, hf⟩ := z_bs hf
      obtain ⟨r5, er5, hf⟩ := z_bs hf
      refine z_callV (As := []) (rest := []) (r := none) (h' := r5) X hI eu4 (s_Ed_beginLine er5) rfl rfl wm_Ed_111 yi_Ed_beginLine rfl hl.1 rfl (Nat.le_of_ble_eq_true rfl) (by decide) (by decide) d_Ed_begin_86 (fun H locs hI => ?_)
      refine W.eq (g2 := F0 m 89 ls []) rfl ?_
      cases hf
      exact z_vret X hI d_Ed_begin_89
    · rw [if_neg c3] at hf
      refine lv_aload_n hx hb d_Ed_begin_66 rfl (lv_at hl 0 rfl) ?_
      obtain ⟨x6, ex6, hf⟩ := z_bs hf
      refine z_getF X hI (k := 10) (ci := 3) (gR_s ex6) i_Ed rfl (by decide) wf_Ed_39 d_Ed_begin_67 ?_
      obtain ⟨x7, ex7, hf⟩ := z_bs hf
      refine z_getF X hI (k := 2) (ci := 9) (gR_s ex7) i_Prog rfl (by decide) wf_Ed_76 d_Ed_begin_70 ?_
      refine lv_iload_n hx hb d_Ed_begin_73 rfl (lv_at hl 1 rfl) ?_
      obtain ⟨x8, ex8, hf⟩ := z_bs hf
      refine z_aald5 X hI ex8 d_Ed_begin_74 ?_
      refine lv_iconst (v := 0) hx hb d_Ed_begin_75 (by decide) ?_
      obtain ⟨h9, eh9, hf⟩ := z_bs hf
      refine z_putF X hI (k := 15) (ci := 1) (ty0 := t_Cmd) eh9 i_Cmd t_Cmd_ok n_Cmd rfl (by decide) wf_Ed_108 rfl rfl rfl d_Ed_begin_76 (fun H locs hI => ?_)
      obtain ⟨x10, ex10, hf⟩ := z_bs hf
      refine lv_iinc (v := x10) (lv' := [(1, .int x10), (0, .ref v0)]) hx hb d_Ed_begin_79 hl (k := 1) rfl (by rw [← Option.some.inj ex10]; rfl) (by decide) rfl (fun ls hl => ?_)
      refine lv_goto (tgt := 55) hx hb d_Ed_begin_82 (by decide) ?_
      exact ih v0 x10 h9 _ _ _ hI (lv_sub hl [1, 0] rfl) hf
def f_Ed_begin (N : Nat) (v0 : Nat) (h : z_H) : Option z_H :=
  z_b (gR h v0 3 0) fun x1 =>
  z_b (gO h x1 10) fun u2 =>
  z_b (f_Row_empty N x1 h) fun r3 =>
  z_b (gR r3 v0 3 1) fun x4 =>
  z_b (gO r3 x4 10) fun u5 =>
  z_b (f_Row_empty N x4 r3) fun r6 =>
  z_b (gR r6 v0 3 2) fun x7 =>
  z_b (gO r6 x7 10) fun u8 =>
  z_b (f_Row_empty N x7 r6) fun r9 =>
  z_b (gR r9 v0 3 7) fun x10 =>
  z_b (gO r9 x10 10) fun u11 =>
  z_b (f_Row_empty N x10 r9) fun r12 =>
  z_b (sF r12 v0 3 3 (.int 0)) fun h13 =>
  z_b (sF h13 v0 3 4 (.int 0)) fun h14 =>
  z_b (sF h14 v0 3 5 (.int 0)) fun h15 =>
  z_b (sF h15 v0 3 6 (.int 0)) fun h16 =>
  z_b (sF h16 v0 3 14 (.int 0)) fun h17 =>
  f_Ed_begin_55 N N v0 0 h17
set_option maxRecDepth 20000 in
set_option maxHeartbeats 2000000 in
theorem s_Ed_begin {l : Launch} {D : va_G} {dA : Nat → ClassId} {B N : Nat} {v0 : Nat} {h h' : z_H} (hf : f_Ed_begin N v0 h = some h') : z_Met l y_Ed_begin prog_5_method_3_code 2 none 3 65 D dA B [.ref v0] h none h' := by
  refine z_of (by decide) (Nat.le_of_ble_eq_true rfl) (fun p e s m below meth c ls X hI hl => ?_)
  have hx := z_hx X
  have hb := z_hb X
  have hl : lv_has ls 2 [(0, .ref v0)] := hl
  unfold f_Ed_begin at hf
  obtain ⟨locs, hlo⟩ : ∃ z : List Loc, z = [] := ⟨_, rfl⟩
  rw [← hlo] at hI ⊢
  refine lv_aload_n hx hb d_Ed_begin_0 rfl (lv_at hl 0 rfl) ?_
  obtain ⟨x1, ex1, hf⟩ := z_bs hf
  refine z_getF X hI (k := 0) (ci := 3) (gR_s ex1) i_Ed rfl (by decide) wf_Ed_14 d_Ed_begin_1 ?_
  obtain ⟨u2, eu2, hf⟩ := z_bs hf
  obtain ⟨r3, er3, hf⟩ := z_bs hf
  refine z_callV (As := []) (rest := []) (r := none) (h' := r3) X hI eu2 (s_Row_empty er3) rfl rfl wm_Ed_96 yi_Row_empty rfl hl.1 rfl (Nat.le_of_ble_eq_true rfl) (by decide) (by decide) d_Ed_begin_4 (fun H locs hI => ?_)
  refine W.eq (g2 := F0 m 7 ls []) rfl ?_
  refine lv_aload_n hx hb d_Ed_begin_7 rfl (lv_at hl 0 rfl) ?_
  obtain ⟨x4, ex4, hf⟩ := z_bs hf
  refine z_getF X hI (k := 1) (ci := 3) (gR_s ex4) i_Ed rfl (by decide) wf_Ed_20 d_Ed_begin_8 ?_
  obtain ⟨u5, eu5, hf⟩ := z_bs hf
  obtain ⟨r6, er6, hf⟩ := z_bs hf
  refine z_callV (As := []) (rest := []) (r := none) (h' := r6) X hI eu5 (s_Row_empty er6) rfl rfl wm_Ed_96 yi_Row_empty rfl hl.1 rfl (Nat.le_of_ble_eq_true rfl) (by decide) (by decide) d_Ed_begin_11 (fun H locs hI => ?_)
  refine W.eq (g2 := F0 m 14 ls []) rfl ?_
  refine lv_aload_n hx hb d_Ed_begin_14 rfl (lv_at hl 0 rfl) ?_
  obtain ⟨x7, ex7, hf⟩ := z_bs hf
  refine z_getF X hI (k := 2) (ci := 3) (gR_s ex7) i_Ed rfl (by decide) wf_Ed_23 d_Ed_begin_15 ?_
  obtain ⟨u8, eu8, hf⟩ := z_bs hf
  obtain ⟨r9, er9, hf⟩ := z_bs hf
  refine z_callV (As := []) (rest := []) (r := none) (h' := r9) X hI eu8 (s_Row_empty er9) rfl rfl wm_Ed_96 yi_Row_empty rfl hl.1 rfl (Nat.le_of_ble_eq_true rfl) (by decide) (by decide) d_Ed_begin_18 (fun H locs hI => ?_)
  refine W.eq (g2 := F0 m 21 ls []) rfl ?_
  refine lv_aload_n hx hb d_Ed_begin_21 rfl (lv_at hl 0 rfl) ?_
  obtain ⟨x10, ex10, hf⟩ := z_bs hf
  refine z_getF X hI (k := 7) (ci := 3) (gR_s ex10) i_Ed rfl (by decide) wf_Ed_26 d_Ed_begin_22 ?_
  obtain ⟨u11, eu11, hf⟩ := z_bs hf
  obtain ⟨r12, er12, hf⟩ := z_bs hf
  refine z_callV (As := []) (rest := []) (r := none) (h' := r12) X hI eu11 (s_Row_empty er12) rfl rfl wm_Ed_96 yi_Row_empty rfl hl.1 rfl (Nat.le_of_ble_eq_true rfl) (by decide) (by decide) d_Ed_begin_25 (fun H locs hI => ?_)
  refine W.eq (g2 := F0 m 28 ls []) rfl ?_
  refine lv_aload_n hx hb d_Ed_begin_28 rfl (lv_at hl 0 rfl) ?_
  refine lv_iconst (v := 0) hx hb d_Ed_begin_29 (by decide) ?_
  obtain ⟨h13, eh13, hf⟩ := z_bs hf
  refine z_putF X hI (k := 3) (ci := 3) (ty0 := t_Ed) eh13 i_Ed t_Ed_ok n_Ed rfl (by decide) wf_Ed_99 rfl rfl rfl d_Ed_begin_30 (fun H locs hI => ?_)
  refine lv_aload_n hx hb d_Ed_begin_33 rfl (lv_at hl 0 rfl) ?_
  refine lv_iconst (v := 0) hx hb d_Ed_begin_34 (by decide) ?_
  obtain ⟨h14, eh14, hf⟩ := z_bs hf
  refine z_putF X hI (k := 4) (ci := 3) (ty0 := t_Ed) eh14 i_Ed t_Ed_ok n_Ed rfl (by decide) wf_Ed_70 rfl rfl rfl d_Ed_begin_35 (fun H locs hI => ?_)
  refine lv_aload_n hx hb d_Ed_begin_38 rfl (lv_at hl 0 rfl) ?_
  refine lv_iconst (v := 0) hx hb d_Ed_begin_39 (by decide) ?_
  obtain ⟨h15, eh15, hf⟩ := z_bs hf
  refine z_putF X hI (k := 5) (ci := 3) (ty0 := t_Ed) eh15 i_Ed t_Ed_ok n_Ed rfl (by decide) wf_Ed_102 rfl rfl rfl d_Ed_begin_40 (fun H locs hI => ?_)
  refine lv_aload_n hx hb d_Ed_begin_43 rfl (lv_at hl 0 rfl) ?_
  refine lv_iconst (v := 0) hx hb d_Ed_begin_44 (by decide) ?_
  obtain ⟨h16, eh16, hf⟩ := z_bs hf
  refine z_putF X hI (k := 6) (ci := 3) (ty0 := t_Ed) eh16 i_Ed t_Ed_ok n_Ed rfl (by decide) wf_Ed_105 rfl rfl rfl d_Ed_begin_45 (fun H locs hI => ?_)
  refine lv_aload_n hx hb d_Ed_begin_48 rfl (lv_at hl 0 rfl) ?_
  refine lv_iconst (v := 0) hx hb d_Ed_begin_49 (by decide) ?_
  obtain ⟨h17, eh17, hf⟩ := z_bs hf
  refine z_putF X hI (k := 14) (ci := 3) (ty0 := t_Ed) eh17 i_Ed t_Ed_ok n_Ed rfl (by decide) wf_Ed_54 rfl rfl rfl d_Ed_begin_50 (fun H locs hI => ?_)
  refine lv_iconst (v := 0) hx hb d_Ed_begin_53 (by decide) ?_
  refine lv_istore_n (lv' := [(1, .int 0), (0, .ref v0)]) hx hb d_Ed_begin_54 rfl hl (by decide) rfl (fun ls hl => ?_)
  exact s_Ed_begin_55 X  N v0 0 h17 _ _ _ hI (lv_sub hl [1, 0] rfl) hf
def f_Ed_fits (N : Nat) (v0 : Nat) (v1 : Nat) (h : z_H) : Option (Int32 × z_H) :=
  z_b (gI h v1 0 1) fun x1 =>
  if x1 = 0 then
  (z_b (gI h v0 3 3) fun x3 =>
  z_b (gI h v1 0 2) fun x4 =>
  if x3 = x4 then
  (some (1, h))
  else
  (some (0, h)))
  else
  (
  if x1 = 1 then
  (z_b (gI h v0 3 3) fun x7 =>
  z_b (gI h v0 3 12) fun x8 =>
  if x7 = x8 then
  (some (1, h))
  else
  (some (0, h)))
  else
  (
  z_b (gR h v0 3 8) fun x10 =>
  z_b (gR h v0 3 10) fun x11 =>
  z_b (gR h x11 9 1) fun x12 =>
  z_b (gR h v1 0 0) fun x13 =>
  z_b (gR h v0 3 1) fun x14 =>
  z_b (gO h x10 5) fun u15 =>
  z_b (f_Ma_find N x10 x12 x13 x14 0 h) fun r16 =>
  z_b (zB (r16.1)) fun x17 =>
  some (x17, r16.2)))
set_option maxRecDepth 20000 in
set_option maxHeartbeats 2000000 in
theorem s_Ed_fits {l : Launch} {D : va_G} {dA : Nat → ClassId} {B N : Nat} {v0 : Nat} {v1 : Nat} {h h' : z_H} {r : Int32} (hf : f_Ed_fits N v0 v1 h = some (r, h')) : z_Met l y_Ed_fits prog_5_method_13_code 2 (some .boolean) 4 102 D dA B [.ref v0, .ref v1] h (some (.int r)) h' := by
  refine z_of (by decide) (Nat.le_of_ble_eq_true rfl) (fun p e s m below meth c ls X hI hl => ?_)
  have hx := z_hx X
  have hb := z_hb X
  have hl : lv_has ls 2 [(0, .ref v0), (1, .ref v1)] := hl
  unfold f_Ed_fits at hf
  obtain ⟨locs, hlo⟩ : ∃ z : List Loc, z = [] := ⟨_, rfl⟩
  rw [← hlo] at hI ⊢
  refine lv_aload_n hx hb d_Ed_fits_0 rfl (lv_at hl 1 rfl) ?_
  obtain ⟨x1, ex1, hf⟩ := z_bs hf
  refine z_getF X hI (k := 1) (ci := 0) (gI_s ex1) i_Addr rfl (by decide) wf_Ed_173 d_Ed_fits_1 ?_
  by_cases c2 : x1 = 0
  · rw [if_pos c2] at hf
    refine lv_lookup (off := 28) (tgt := 32) hx hb d_Ed_fits_4 (by decide) (by rw [c2]; rfl) (by decide) ?_
    refine lv_aload_n hx hb d_Ed_fits_32 rfl (lv_at hl 0 rfl) ?_
    obtain ⟨x3, ex3, hf⟩ := z_bs hf
    refine z_getF X hI (k := 3) (ci := 3) (gI_s ex3) i_Ed rfl (by decide) wf_Ed_99 d_Ed_fits_33 ?_
    refine lv_aload_n hx hb d_Ed_fits_36 rfl (lv_at hl 1 rfl) ?_
    obtain ⟨x4, ex4, hf⟩ := z_bs hf
    refine z_getF X hI (k := 2) (ci := 0) (gI_s ex4) i_Addr rfl (by decide) wf_Ed_176 d_Ed_fits_37 ?_
    refine lv_icmp_ne (tgt := 47) hx hb d_Ed_fits_40 (by decide) (fun c5 => ?_) (fun c5 => ?_)
    · rw [if_neg c5] at hf
      refine lv_iconst (v := 0) hx hb d_Ed_fits_47 (by decide) ?_
      cases hf
      exact z_zret X hI (Or.inl rfl) d_Ed_fits_48
    · rw [if_pos c5] at hf
      refine lv_iconst (v := 1) hx hb d_Ed_fits_43 (by decide) ?_
      refine lv_goto (tgt := 48) hx hb d_Ed_fits_44 (by decide) ?_
      cases hf
      exact z_zret X hI (Or.inr rfl) d_Ed_fits_48
  · rw [if_neg c2] at hf
    by_cases c6 : x1 = 1
    · rw [if_pos c6] at hf
      refine lv_lookup (off := 45) (tgt := 49) hx hb d_Ed_fits_4 (by decide) (by rw [c6]; rfl) (by decide) ?_
      refine lv_aload_n hx hb d_Ed_fits_49 rfl (lv_at hl 0 rfl) ?_
      obtain ⟨x7, ex7, hf⟩ := z_bs hf
      refine z_getF X hI (k := 3) (ci := 3) (gI_s ex7) i_Ed rfl (by decide) wf_Ed_99 d_Ed_fits_50 ?_
      refine lv_aload_n hx hb d_Ed_fits_53 rfl (lv_at hl 0 rfl) ?_
      obtain ⟨x8, ex8, hf⟩ := z_bs hf
      refine z_getF X hI (k := 12) (ci := 3) (gI_s ex8) i_Ed rfl (by decide) wf_Ed_47 d_Ed_fits_54 ?_
      refine lv_icmp_ne (tgt := 64) hx hb d_Ed_fits_57 (by decide) (fun c9 => ?_) (fun c9 => ?_)
      · rw [if_neg c9] at hf
        refine lv_iconst (v := 0) hx hb d_Ed_fits_64 (by decide) ?_
        cases hf
        exact z_zret X hI (Or.inl rfl) d_Ed_fits_65
      · rw [if_pos c9] at hf
        refine lv_iconst (v := 1) hx hb d_Ed_fits_60 (by decide) ?_
        refine lv_goto (tgt := 65) hx hb d_Ed_fits_61 (by decide) ?_
        cases hf
        exact z_zret X hI (Or.inr rfl) d_Ed_fits_65
    · rw [if_neg c6] at hf
      refine z_lokD (ks := [0, 1]) (tgt := 66) hx hb d_Ed_fits_4 (by decide) (by decide) (by simp only [List.forall_mem_cons, List.not_mem_nil, false_implies, implies_true, and_true]; exact ⟨z_ne c2 (by decide), z_ne c6 (by decide)⟩) (by decide) ?_
      refine lv_aload_n hx hb d_Ed_fits_66 rfl (lv_at hl 0 rfl) ?_
      obtain ⟨x10, ex10, hf⟩ := z_bs hf
      refine z_getF X hI (k := 8) (ci := 3) (gR_s ex10) i_Ed rfl (by decide) wf_Ed_32 d_Ed_fits_67 ?_
      refine lv_aload_n hx hb d_Ed_fits_70 rfl (lv_at hl 0 rfl) ?_
      obtain ⟨x11, ex11, hf⟩ := z_bs hf
      refine z_getF X hI (k := 10) (ci := 3) (gR_s ex11) i_Ed rfl (by decide) wf_Ed_39 d_Ed_fits_71 ?_
      obtain ⟨x12, ex12, hf⟩ := z_bs hf
      refine z_getF X hI (k := 1) (ci := 9) (gR_s ex12) i_Prog rfl (by decide) wf_Ed_179 d_Ed_fits_74 ?_
      refine lv_aload_n hx hb d_Ed_fits_77 rfl (lv_at hl 1 rfl) ?_
      obtain ⟨x13, ex13, hf⟩ := z_bs hf
      refine z_getF X hI (k := 0) (ci := 0) (gR_s ex13) i_Addr rfl (by decide) wf_Ed_183 d_Ed_fits_78 ?_
      refine lv_aload_n hx hb d_Ed_fits_81 rfl (lv_at hl 0 rfl) ?_
      obtain ⟨x14, ex14, hf⟩ := z_bs hf
      refine z_getF X hI (k := 1) (ci := 3) (gR_s ex14) i_Ed rfl (by decide) wf_Ed_20 d_Ed_fits_82 ?_
      refine lv_iconst (v := 0) hx hb d_Ed_fits_85 (by decide) ?_
      obtain ⟨u15, eu15, hf⟩ := z_bs hf
      obtain ⟨r16, er16, hf⟩ := z_bs hf
      refine z_callV (As := [.ref x12, .ref x13, .ref x14, .int 0]) (rest := []) (r := (some (.int r16.1))) (h' := r16.2) X hI eu15 (s_Ma_find er16) rfl rfl wm_Ed_187 yi_Ma_find rfl hl.1 rfl (Nat.le_of_ble_eq_true rfl) (by decide) (by decide) d_Ed_fits_86 (fun H locs hI => ?_)
      refine W.eq (g2 := F0 m 89 ls [.int (r16.1)]) rfl ?_
      obtain ⟨x17, ex17, hf⟩ := z_bs hf
      refine z_topi (zB_s ex17).1 ?_
      cases hf
      exact z_zret X hI (zB_s2 ex17) d_Ed_fits_89
def f_Ed_isReached (N : Nat) (v0 : Nat) (v1 : Nat) (h : z_H) : Option (Int32 × z_H) :=
  z_b (gI h v1 0 1) fun x1 =>
  if x1 = 0 then
  (z_b (gI h v0 3 3) fun x3 =>
  z_b (gI h v1 0 2) fun x4 =>
  if x3 < x4 then
  (some (0, h))
  else
  (some (1, h)))
  else
  (some (0, h))
set_option maxRecDepth 20000 in
set_option maxHeartbeats 2000000 in
theorem s_Ed_isReached {l : Launch} {D : va_G} {dA : Nat → ClassId} {B N : Nat} {v0 : Nat} {v1 : Nat} {h h' : z_H} {r : Int32} (hf : f_Ed_isReached N v0 v1 h = some (r, h')) : z_Met l y_Ed_isReached prog_5_method_12_code 2 (some .boolean) 0 0 D dA B [.ref v0, .ref v1] h (some (.int r)) h' := by
  refine z_of (by decide) (Nat.le_of_ble_eq_true rfl) (fun p e s m below meth c ls X hI hl => ?_)
  have hx := z_hx X
  have hb := z_hb X
  have hl : lv_has ls 2 [(0, .ref v0), (1, .ref v1)] := hl
  unfold f_Ed_isReached at hf
  obtain ⟨locs, hlo⟩ : ∃ z : List Loc, z = [] := ⟨_, rfl⟩
  rw [← hlo] at hI ⊢
  refine lv_aload_n hx hb d_Ed_isReached_0 rfl (lv_at hl 1 rfl) ?_
  obtain ⟨x1, ex1, hf⟩ := z_bs hf
  refine z_getF X hI (k := 1) (ci := 0) (gI_s ex1) i_Addr rfl (by decide) wf_Ed_173 d_Ed_isReached_1 ?_
  refine lv_if_ne (tgt := 22) hx hb d_Ed_isReached_4 (by decide) (fun c2 => ?_) (fun c2 => ?_)
  · rw [if_neg c2] at hf
    refine lv_iconst (v := 0) hx hb d_Ed_isReached_22 (by decide) ?_
    cases hf
    exact z_zret X hI (Or.inl rfl) d_Ed_isReached_23
  · rw [if_pos c2] at hf
    refine lv_aload_n hx hb d_Ed_isReached_7 rfl (lv_at hl 0 rfl) ?_
    obtain ⟨x3, ex3, hf⟩ := z_bs hf
    refine z_getF X hI (k := 3) (ci := 3) (gI_s ex3) i_Ed rfl (by decide) wf_Ed_99 d_Ed_isReached_8 ?_
    refine lv_aload_n hx hb d_Ed_isReached_11 rfl (lv_at hl 1 rfl) ?_
    obtain ⟨x4, ex4, hf⟩ := z_bs hf
    refine z_getF X hI (k := 2) (ci := 0) (gI_s ex4) i_Addr rfl (by decide) wf_Ed_176 d_Ed_isReached_12 ?_
    refine lv_icmp_lt (tgt := 22) hx hb d_Ed_isReached_15 (by decide) (fun c5 => ?_) (fun c5 => ?_)
    · rw [if_pos c5] at hf
      refine lv_iconst (v := 0) hx hb d_Ed_isReached_22 (by decide) ?_
      cases hf
      exact z_zret X hI (Or.inl rfl) d_Ed_isReached_23
    · rw [if_neg c5] at hf
      refine lv_iconst (v := 1) hx hb d_Ed_isReached_18 (by decide) ?_
      refine lv_goto (tgt := 23) hx hb d_Ed_isReached_19 (by decide) ?_
      cases hf
      exact z_zret X hI (Or.inr rfl) d_Ed_isReached_23
def f_Ed_isDone_136 (N : Nat)  (v1 : Nat) (v2 : Int32) (h : z_H) : Option (Int32 × z_H) :=
  z_b (gI h v1 1 6) fun x1 =>
  if v2 = x1 then
  (some (0, h))
  else
  (some (1, h))
set_option maxRecDepth 20000 in
set_option maxHeartbeats 2000000 in
theorem s_Ed_isDone_136 (X : z_X p s m args meth c prog_5_method_11_code 3 (some .boolean) Ts "StreamForge$Editor" D dA B) {N : Nat} {r : Int32} {h' : z_H}   : ∀ (v1 : Nat) (v2 : Int32) (h : z_H) (H : Heap) (locs : List Loc) (ls : Array Slot), z_I D dA B h s.heap H locs → lv_has ls 3 [(1, .ref v1), (2, .int v2)] → f_Ed_isDone_136 N  v1 v2 h = some (r, h') → W p l e (z_rm 5 123) s m args below meth c H locs 0 0 (MQ below (z_Q D dA B (some (.int r)) h') args s 0 0 (fun q => B ≤ q)) (F0 m 136 ls []) := by
  have hx := z_hx X
  have hb := z_hb X
  intro v1 v2 h H locs ls hI hl hf
  unfold f_Ed_isDone_136 at hf
  refine lv_iload_n hx hb d_Ed_isDone_136 rfl (lv_at hl 1 rfl) ?_
  refine lv_aload_n hx hb d_Ed_isDone_137 rfl (lv_at hl 0 rfl) ?_
  obtain ⟨x1, ex1, hf⟩ := z_bs hf
  refine z_getF X hI (k := 6) (ci := 1) (gI_s ex1) i_Cmd rfl (by decide) wf_Ed_170 d_Ed_isDone_138 ?_
  refine lv_icmp_eq (tgt := 148) hx hb d_Ed_isDone_141 (by decide) (fun c2 => ?_) (fun c2 => ?_)
  · rw [if_pos c2] at hf
    refine lv_iconst (v := 0) hx hb d_Ed_isDone_148 (by decide) ?_
    cases hf
    exact z_zret X hI (Or.inl rfl) d_Ed_isDone_149
  · rw [if_neg c2] at hf
    refine lv_iconst (v := 1) hx hb d_Ed_isDone_144 (by decide) ?_
    refine lv_goto (tgt := 149) hx hb d_Ed_isDone_145 (by decide) ?_
    cases hf
    exact z_zret X hI (Or.inr rfl) d_Ed_isDone_149
def f_Ed_isDone_65 (N : Nat)  (v0 : Nat) (v1 : Nat) (v2 : Int32) (s0 : Nat) (s1 : Int32) (h : z_H) : Option (Int32 × z_H) :=
  z_b (zB s1) fun x1 =>
  z_b (sF h s0 3 16 (.int x1)) fun h2 =>
  z_b (gI h2 v0 3 16) fun x3 =>
  if x3 = 0 then
  (z_b (sF h2 v1 1 15 (.int 1)) fun h6 =>
  f_Ed_isDone_136 N v1 v2 h6)
  else
  (z_b (sF h2 v1 1 15 (.int 0)) fun h5 =>
  f_Ed_isDone_136 N v1 v2 h5)
set_option maxRecDepth 20000 in
set_option maxHeartbeats 2000000 in
theorem s_Ed_isDone_65 (X : z_X p s m args meth c prog_5_method_11_code 3 (some .boolean) Ts "StreamForge$Editor" D dA B) {N : Nat} {r : Int32} {h' : z_H}   : ∀ (v0 : Nat) (v1 : Nat) (v2 : Int32) (s0 : Nat) (s1 : Int32) (h : z_H) (H : Heap) (locs : List Loc) (ls : Array Slot), z_I D dA B h s.heap H locs → lv_has ls 3 [(0, .ref v0), (1, .ref v1), (2, .int v2)] → f_Ed_isDone_65 N  v0 v1 v2 s0 s1 h = some (r, h') → W p l e (z_rm 5 123) s m args below meth c H locs 0 0 (MQ below (z_Q D dA B (some (.int r)) h') args s 0 0 (fun q => B ≤ q)) (F0 m 65 ls [.int s1, .ref s0]) := by
  have hx := z_hx X
  have hb := z_hb X
  intro v0 v1 v2 s0 s1 h H locs ls hI hl hf
  unfold f_Ed_isDone_65 at hf
  obtain ⟨x1, ex1, hf⟩ := z_bs hf
  refine z_topi (zB_s ex1).1 ?_
  have nx1 : narrow .boolean (.int x1) = .int x1 := z_nb ex1
  obtain ⟨h2, eh2, hf⟩ := z_bs hf
  refine z_putF X hI (k := 16) (ci := 3) (ty0 := t_Ed) eh2 i_Ed t_Ed_ok n_Ed rfl (by decide) wf_Ed_167 rfl nx1 (z_fb ex1) d_Ed_isDone_65 (fun H locs hI => ?_)
  refine lv_aload_n hx hb d_Ed_isDone_68 rfl (lv_at hl 1 rfl) ?_
  refine lv_aload_n hx hb d_Ed_isDone_69 rfl (lv_at hl 0 rfl) ?_
  obtain ⟨x3, ex3, hf⟩ := z_bs hf
  refine z_getF X hI (k := 16) (ci := 3) (gI_s ex3) i_Ed rfl (by decide) wf_Ed_167 d_Ed_isDone_70 ?_
  refine lv_if_ne (tgt := 80) hx hb d_Ed_isDone_73 (by decide) (fun c4 => ?_) (fun c4 => ?_)
  · rw [if_neg c4] at hf
    refine lv_iconst (v := 0) hx hb d_Ed_isDone_80 (by decide) ?_
    obtain ⟨h5, eh5, hf⟩ := z_bs hf
    refine z_putF X hI (k := 15) (ci := 1) (ty0 := t_Cmd) eh5 i_Cmd t_Cmd_ok n_Cmd rfl (by decide) wf_Ed_108 rfl rfl rfl d_Ed_isDone_81 (fun H locs hI => ?_)
    refine lv_goto (tgt := 136) hx hb d_Ed_isDone_84 (by decide) ?_
    exact s_Ed_isDone_136 X  v1 v2 h5 _ _ _ hI (lv_sub hl [1, 2] rfl) hf
  · rw [if_pos c4] at hf
    refine lv_iconst (v := 1) hx hb d_Ed_isDone_76 (by decide) ?_
    refine lv_goto (tgt := 81) hx hb d_Ed_isDone_77 (by decide) ?_
    obtain ⟨h6, eh6, hf⟩ := z_bs hf
    refine z_putF X hI (k := 15) (ci := 1) (ty0 := t_Cmd) eh6 i_Cmd t_Cmd_ok n_Cmd rfl (by decide) wf_Ed_108 rfl rfl rfl d_Ed_isDone_81 (fun H locs hI => ?_)
    refine lv_goto (tgt := 136) hx hb d_Ed_isDone_84 (by decide) ?_
    exact s_Ed_isDone_136 X  v1 v2 h6 _ _ _ hI (lv_sub hl [1, 2] rfl) hf
def f_Ed_isDone_87 (N : Nat)  (v0 : Nat) (v1 : Nat) (v2 : Int32) (h : z_H) : Option (Int32 × z_H) :=
  z_b (gI h v1 1 5) fun x1 =>
  if x1 = 2 then
  (z_b (gR h v1 1 0) fun x3 =>
  z_b (gO h v0 3) fun u4 =>
  z_b (f_Ed_fits N v0 x3 h) fun r5 =>
  z_b (some (r5.1)) fun x6 =>
  z_b (gR r5.2 v1 1 1) fun x7 =>
  z_b (gO r5.2 v0 3) fun u8 =>
  z_b (f_Ed_isReached N v0 x7 r5.2) fun r9 =>
  z_b (zB (r9.1)) fun x10 =>
  z_b (sF r9.2 v0 3 16 (.int x10)) fun h11 =>
  if x6 = 0 then
  (z_b (sF h11 v1 1 15 (.int 0)) fun h13 =>
  f_Ed_isDone_136 N v1 x6 h13)
  else
  (z_b (gI h11 v0 3 16) fun x14 =>
  if x14 = 0 then
  (z_b (sF h11 v1 1 15 (.int 1)) fun h17 =>
  f_Ed_isDone_136 N v1 x6 h17)
  else
  (z_b (sF h11 v1 1 15 (.int 0)) fun h16 =>
  f_Ed_isDone_136 N v1 x6 h16)))
  else
  (f_Ed_isDone_136 N v1 v2 h)
set_option maxRecDepth 20000 in
set_option maxHeartbeats 2000000 in
theorem s_Ed_isDone_87 (X : z_X p s m args meth c prog_5_method_11_code 3 (some .boolean) Ts "StreamForge$Editor" D dA B) {N : Nat} {r : Int32} {h' : z_H}   : ∀ (v0 : Nat) (v1 : Nat) (v2 : Int32) (h : z_H) (H : Heap) (locs : List Loc) (ls : Array Slot), z_I D dA B h s.heap H locs → lv_has ls 3 [(0, .ref v0), (1, .ref v1), (2, .int v2)] → f_Ed_isDone_87 N  v0 v1 v2 h = some (r, h') → W p l e (z_rm 5 123) s m args below meth c H locs 0 0 (MQ below (z_Q D dA B (some (.int r)) h') args s 0 0 (fun q => B ≤ q)) (F0 m 87 ls []) := by
  have hx := z_hx X
  have hb := z_hb X
  intro v0 v1 v2 h H locs ls hI hl hf
  unfold f_Ed_isDone_87 at hf
  refine lv_aload_n hx hb d_Ed_isDone_87 rfl (lv_at hl 1 rfl) ?_
  obtain ⟨x1, ex1, hf⟩ := z_bs hf
  refine z_getF X hI (k := 5) (ci := 1) (gI_s ex1) i_Cmd rfl (by decide) wf_Ed_150 d_Ed_isDone_88 ?_
  refine lv_iconst (v := 2) hx hb d_Ed_isDone_91 (by decide) ?_
  refine lv_icmp_ne (tgt := 136) hx hb d_Ed_isDone_92 (by decide) (fun c2 => ?_) (fun c2 => ?_)
  · rw [if_neg c2] at hf
    exact s_Ed_isDone_136 X  v1 v2 h _ _ _ hI (lv_sub hl [1, 2] rfl) hf
  · rw [if_pos c2] at hf
    refine lv_aload_n hx hb d_Ed_isDone_95 rfl (lv_at hl 0 rfl) ?_
    refine lv_aload_n hx hb d_Ed_isDone_96 rfl (lv_at hl 1 rfl) ?_
    obtain ⟨x3, ex3, hf⟩ := z_bs hf
    refine z_getF X hI (k := 0) (ci := 1) (gR_s ex3) i_Cmd rfl (by decide) wf_Ed_153 d_Ed_isDone_97 ?_
    obtain ⟨u4, eu4, hf⟩ := z_bs hf
    obtain ⟨r5, er5, hf⟩ := z_bs hf
    refine z_callV (As := [.ref x3]) (rest := []) (r := (some (.int r5.1))) (h' := r5.2) X hI eu4 (s_Ed_fits er5) rfl rfl wm_Ed_157 yi_Ed_fits rfl hl.1 rfl (Nat.le_of_ble_eq_true rfl) (by decide) (by decide) d_Ed_isDone_100 (fun H locs hI => ?_)
    refine W.eq (g2 := F0 m 103 ls [.int (r5.1)]) rfl ?_
    obtain ⟨x6, ex6, hf⟩ := z_bs hf
    refine z_topi (Option.some.inj ex6) ?_
    refine lv_istore_n (lv' := [(2, .int x6), (0, .ref v0), (1, .ref v1)]) hx hb d_Ed_isDone_103 rfl hl (by decide) rfl (fun ls hl => ?_)
    refine lv_aload_n hx hb d_Ed_isDone_104 rfl (lv_at hl 1 rfl) ?_
    refine lv_aload_n hx hb d_Ed_isDone_105 rfl (lv_at hl 1 rfl) ?_
    refine lv_aload_n hx hb d_Ed_isDone_106 rfl (lv_at hl 2 rfl) ?_
    obtain ⟨x7, ex7, hf⟩ := z_bs hf
    refine z_getF X hI (k := 1) (ci := 1) (gR_s ex7) i_Cmd rfl (by decide) wf_Ed_161 d_Ed_isDone_107 ?_
    obtain ⟨u8, eu8, hf⟩ := z_bs hf
    obtain ⟨r9, er9, hf⟩ := z_bs hf
    refine z_callV (As := [.ref x7]) (rest := [.ref v0]) (r := (some (.int r9.1))) (h' := r9.2) X hI eu8 (s_Ed_isReached er9) rfl rfl wm_Ed_164 yi_Ed_isReached rfl hl.1 rfl (Nat.le_of_ble_eq_true rfl) (by decide) (by decide) d_Ed_isDone_110 (fun H locs hI => ?_)
    refine W.eq (g2 := F0 m 113 ls [.int (r9.1), .ref v0]) rfl ?_
    obtain ⟨x10, ex10, hf⟩ := z_bs hf
    refine z_topi (zB_s ex10).1 ?_
    have nx10 : narrow .boolean (.int x10) = .int x10 := z_nb ex10
    obtain ⟨h11, eh11, hf⟩ := z_bs hf
    refine z_putF X hI (k := 16) (ci := 3) (ty0 := t_Ed) eh11 i_Ed t_Ed_ok n_Ed rfl (by decide) wf_Ed_167 rfl nx10 (z_fb ex10) d_Ed_isDone_113 (fun H locs hI => ?_)
    refine lv_aload_n hx hb d_Ed_isDone_116 rfl (lv_at hl 2 rfl) ?_
    refine lv_iload_n hx hb d_Ed_isDone_117 rfl (lv_at hl 0 rfl) ?_
    refine lv_if_eq (tgt := 132) hx hb d_Ed_isDone_118 (by decide) (fun c12 => ?_) (fun c12 => ?_)
    · rw [if_pos c12] at hf
      refine lv_iconst (v := 0) hx hb d_Ed_isDone_132 (by decide) ?_
      obtain ⟨h13, eh13, hf⟩ := z_bs hf
      refine z_putF X hI (k := 15) (ci := 1) (ty0 := t_Cmd) eh13 i_Cmd t_Cmd_ok n_Cmd rfl (by decide) wf_Ed_108 rfl rfl rfl d_Ed_isDone_133 (fun H locs hI => ?_)
      exact s_Ed_isDone_136 X  v1 x6 h13 _ _ _ hI (lv_sub hl [2, 0] rfl) hf
    · rw [if_neg c12] at hf
      refine lv_aload_n hx hb d_Ed_isDone_121 rfl (lv_at hl 1 rfl) ?_
      obtain ⟨x14, ex14, hf⟩ := z_bs hf
      refine z_getF X hI (k := 16) (ci := 3) (gI_s ex14) i_Ed rfl (by decide) wf_Ed_167 d_Ed_isDone_122 ?_
      refine lv_if_ne (tgt := 132) hx hb d_Ed_isDone_125 (by decide) (fun c15 => ?_) (fun c15 => ?_)
      · rw [if_neg c15] at hf
        refine lv_iconst (v := 0) hx hb d_Ed_isDone_132 (by decide) ?_
        obtain ⟨h16, eh16, hf⟩ := z_bs hf
        refine z_putF X hI (k := 15) (ci := 1) (ty0 := t_Cmd) eh16 i_Cmd t_Cmd_ok n_Cmd rfl (by decide) wf_Ed_108 rfl rfl rfl d_Ed_isDone_133 (fun H locs hI => ?_)
        exact s_Ed_isDone_136 X  v1 x6 h16 _ _ _ hI (lv_sub hl [2, 0] rfl) hf
      · rw [if_pos c15] at hf
        refine lv_iconst (v := 1) hx hb d_Ed_isDone_128 (by decide) ?_
        refine lv_goto (tgt := 133) hx hb d_Ed_isDone_129 (by decide) ?_
        obtain ⟨h17, eh17, hf⟩ := z_bs hf
        refine z_putF X hI (k := 15) (ci := 1) (ty0 := t_Cmd) eh17 i_Cmd t_Cmd_ok n_Cmd rfl (by decide) wf_Ed_108 rfl rfl rfl d_Ed_isDone_133 (fun H locs hI => ?_)
        exact s_Ed_isDone_136 X  v1 x6 h17 _ _ _ hI (lv_sub hl [2, 0] rfl) hf
def f_Ed_isDone (N : Nat) (v0 : Nat) (v1 : Nat) (h : z_H) : Option (Int32 × z_H) :=
  z_b (gI h v1 1 5) fun x1 =>
  if x1 = 1 then
  (z_b (gR h v1 1 0) fun x15 =>
  z_b (gO h v0 3) fun u16 =>
  z_b (f_Ed_fits N v0 x15 h) fun r17 =>
  z_b (some (r17.1)) fun x18 =>
  f_Ed_isDone_136 N v1 x18 r17.2)
  else
  (z_b (gI h v1 1 5) fun x3 =>
  if x3 = 2 then
  (z_b (gI h v1 1 15) fun x5 =>
  if x5 = 0 then
  (f_Ed_isDone_87 N v0 v1 1 h)
  else
  (z_b (gR h v1 1 1) fun x7 =>
  z_b (gO h v0 3) fun u8 =>
  z_b (f_Ed_isReached N v0 x7 h) fun r9 =>
  if (r9.1) = 0 then
  (z_b (gR r9.2 v1 1 1) fun x11 =>
  z_b (gO r9.2 v0 3) fun u12 =>
  z_b (f_Ed_fits N v0 x11 r9.2) fun r13 =>
  if (r13.1) = 0 then
  (f_Ed_isDone_65 N v0 v1 1 v0 0 r13.2)
  else
  (f_Ed_isDone_65 N v0 v1 1 v0 1 r13.2))
  else
  (f_Ed_isDone_65 N v0 v1 1 v0 1 r9.2)))
  else
  (f_Ed_isDone_87 N v0 v1 1 h))
set_option maxRecDepth 20000 in
set_option maxHeartbeats 2000000 in
theorem s_Ed_isDone {l : Launch} {D : va_G} {dA : Nat → ClassId} {B N : Nat} {v0 : Nat} {v1 : Nat} {h h' : z_H} {r : Int32} (hf : f_Ed_isDone N v0 v1 h = some (r, h')) : z_Met l y_Ed_isDone prog_5_method_11_code 3 (some .boolean) 5 123 D dA B [.ref v0, .ref v1] h (some (.int r)) h' := by
  refine z_of (by decide) (Nat.le_of_ble_eq_true rfl) (fun p e s m below meth c ls X hI hl => ?_)
  have hx := z_hx X
  have hb := z_hb X
  have hl : lv_has ls 3 [(0, .ref v0), (1, .ref v1)] := hl
  unfold f_Ed_isDone at hf
  obtain ⟨locs, hlo⟩ : ∃ z : List Loc, z = [] := ⟨_, rfl⟩
  rw [← hlo] at hI ⊢
  refine lv_iconst (v := 1) hx hb d_Ed_isDone_0 (by decide) ?_
  refine lv_istore_n (lv' := [(2, .int 1), (0, .ref v0), (1, .ref v1)]) hx hb d_Ed_isDone_1 rfl hl (by decide) rfl (fun ls hl => ?_)
  refine lv_aload_n hx hb d_Ed_isDone_2 rfl (lv_at hl 2 rfl) ?_
  obtain ⟨x1, ex1, hf⟩ := z_bs hf
  refine z_getF X hI (k := 5) (ci := 1) (gI_s ex1) i_Cmd rfl (by decide) wf_Ed_150 d_Ed_isDone_3 ?_
  refine lv_iconst (v := 1) hx hb d_Ed_isDone_6 (by decide) ?_
  refine lv_icmp_ne (tgt := 22) hx hb d_Ed_isDone_7 (by decide) (fun c2 => ?_) (fun c2 => ?_)
  · rw [if_neg c2] at hf
    refine lv_aload_n hx hb d_Ed_isDone_22 rfl (lv_at hl 2 rfl) ?_
    obtain ⟨x3, ex3, hf⟩ := z_bs hf
    refine z_getF X hI (k := 5) (ci := 1) (gI_s ex3) i_Cmd rfl (by decide) wf_Ed_150 d_Ed_isDone_23 ?_
    refine lv_iconst (v := 2) hx hb d_Ed_isDone_26 (by decide) ?_
    refine lv_icmp_ne (tgt := 87) hx hb d_Ed_isDone_27 (by decide) (fun c4 => ?_) (fun c4 => ?_)
    · rw [if_neg c4] at hf
      exact s_Ed_isDone_87 X  v0 v1 1 h _ _ _ hI (lv_sub hl [1, 2, 0] rfl) hf
    · rw [if_pos c4] at hf
      refine lv_aload_n hx hb d_Ed_isDone_30 rfl (lv_at hl 2 rfl) ?_
      obtain ⟨x5, ex5, hf⟩ := z_bs hf
      refine z_getF X hI (k := 15) (ci := 1) (gI_s ex5) i_Cmd rfl (by decide) wf_Ed_108 d_Ed_isDone_31 ?_
      refine lv_if_eq (tgt := 87) hx hb d_Ed_isDone_34 (by decide) (fun c6 => ?_) (fun c6 => ?_)
      · rw [if_pos c6] at hf
        exact s_Ed_isDone_87 X  v0 v1 1 h _ _ _ hI (lv_sub hl [1, 2, 0] rfl) hf
      · rw [if_neg c6] at hf
        refine lv_aload_n hx hb d_Ed_isDone_37 rfl (lv_at hl 1 rfl) ?_
        refine lv_aload_n hx hb d_Ed_isDone_38 rfl (lv_at hl 1 rfl) ?_
        refine lv_aload_n hx hb d_Ed_isDone_39 rfl (lv_at hl 2 rfl) ?_
        obtain ⟨x7, ex7, hf⟩ := z_bs hf
        refine z_getF X hI (k := 1) (ci := 1) (gR_s ex7) i_Cmd rfl (by decide) wf_Ed_161 d_Ed_isDone_40 ?_
        obtain ⟨u8, eu8, hf⟩ := z_bs hf
        obtain ⟨r9, er9, hf⟩ := z_bs hf
        refine z_callV (As := [.ref x7]) (rest := [.ref v0]) (r := (some (.int r9.1))) (h' := r9.2) X hI eu8 (s_Ed_isReached er9) rfl rfl wm_Ed_164 yi_Ed_isReached rfl hl.1 rfl (Nat.le_of_ble_eq_true rfl) (by decide) (by decide) d_Ed_isDone_43 (fun H locs hI => ?_)
        refine W.eq (g2 := F0 m 46 ls [.int (r9.1), .ref v0]) rfl ?_
        refine lv_if_ne (tgt := 60) hx hb d_Ed_isDone_46 (by decide) (fun c10 => ?_) (fun c10 => ?_)
        · rw [if_neg c10] at hf
          refine lv_iconst (v := 1) hx hb d_Ed_isDone_60 (by decide) ?_
          refine lv_goto (tgt := 65) hx hb d_Ed_isDone_61 (by decide) ?_
          exact s_Ed_isDone_65 X  v0 v1 1 v0 1 r9.2 _ _ _ hI (lv_sub hl [1, 2, 0] rfl) hf
        · rw [if_pos c10] at hf
          refine lv_aload_n hx hb d_Ed_isDone_49 rfl (lv_at hl 1 rfl) ?_
          refine lv_aload_n hx hb d_Ed_isDone_50 rfl (lv_at hl 2 rfl) ?_
          obtain ⟨x11, ex11, hf⟩ := z_bs hf
          refine z_getF X hI (k := 1) (ci := 1) (gR_s ex11) i_Cmd rfl (by decide) wf_Ed_161 d_Ed_isDone_51 ?_
          obtain ⟨u12, eu12, hf⟩ := z_bs hf
          obtain ⟨r13, er13, hf⟩ := z_bs hf
          refine z_callV (As := [.ref x11]) (rest := [.ref v0]) (r := (some (.int r13.1))) (h' := r13.2) X hI eu12 (s_Ed_fits er13) rfl rfl wm_Ed_157 yi_Ed_fits rfl hl.1 rfl (Nat.le_of_ble_eq_true rfl) (by decide) (by decide) d_Ed_isDone_54 (fun H locs hI => ?_)
          refine W.eq (g2 := F0 m 57 ls [.int (r13.1), .ref v0]) rfl ?_
          refine lv_if_eq (tgt := 64) hx hb d_Ed_isDone_57 (by decide) (fun c14 => ?_) (fun c14 => ?_)
          · rw [if_pos c14] at hf
            refine lv_iconst (v := 0) hx hb d_Ed_isDone_64 (by decide) ?_
            exact s_Ed_isDone_65 X  v0 v1 1 v0 0 r13.2 _ _ _ hI (lv_sub hl [1, 2, 0] rfl) hf
          · rw [if_neg c14] at hf
            refine lv_iconst (v := 1) hx hb d_Ed_isDone_60 (by decide) ?_
            refine lv_goto (tgt := 65) hx hb d_Ed_isDone_61 (by decide) ?_
            exact s_Ed_isDone_65 X  v0 v1 1 v0 1 r13.2 _ _ _ hI (lv_sub hl [1, 2, 0] rfl) hf
  · rw [if_pos c2] at hf
    refine lv_aload_n hx hb d_Ed_isDone_10 rfl (lv_at hl 1 rfl) ?_
    refine lv_aload_n hx hb d_Ed_isDone_11 rfl (lv_at hl 2 rfl) ?_
    obtain ⟨x15, ex15, hf⟩ := z_bs hf
    refine z_getF X hI (k := 0) (ci := 1) (gR_s ex15) i_Cmd rfl (by decide) wf_Ed_153 d_Ed_isDone_12 ?_
    obtain ⟨u16, eu16, hf⟩ := z_bs hf
    obtain ⟨r17, er17, hf⟩ := z_bs hf
    refine z_callV (As := [.ref x15]) (rest := []) (r := (some (.int r17.1))) (h' := r17.2) X hI eu16 (s_Ed_fits er17) rfl rfl wm_Ed_157 yi_Ed_fits rfl hl.1 rfl (Nat.le_of_ble_eq_true rfl) (by decide) (by decide) d_Ed_isDone_15 (fun H locs hI => ?_)
    refine W.eq (g2 := F0 m 18 ls [.int (r17.1)]) rfl ?_
    obtain ⟨x18, ex18, hf⟩ := z_bs hf
    refine z_topi (Option.some.inj ex18) ?_
    refine lv_istore_n (lv' := [(2, .int x18), (0, .ref v0), (1, .ref v1)]) hx hb d_Ed_isDone_18 rfl hl (by decide) rfl (fun ls hl => ?_)
    refine lv_goto (tgt := 136) hx hb d_Ed_isDone_19 (by decide) ?_
    exact s_Ed_isDone_136 X  v1 x18 r17.2 _ _ _ hI (lv_sub hl [2, 0] rfl) hf
def f_Ed_branchIfReplaced (N : Nat) (v0 : Nat) (v1 : Nat) (h : z_H) : Option z_H :=
  z_b (gI h v0 3 15) fun x1 =>
  if x1 = 0 then
  (some h)
  else
  (z_b (sF h v0 3 15 (.int 0)) fun h3 =>
  z_b (gI h3 v1 1 7) fun x4 =>
  z_b (sF h3 v0 3 13 (.int x4)) fun h5 =>
  some h5)
set_option maxRecDepth 20000 in
set_option maxHeartbeats 2000000 in
theorem s_Ed_branchIfReplaced {l : Launch} {D : va_G} {dA : Nat → ClassId} {B N : Nat} {v0 : Nat} {v1 : Nat} {h h' : z_H} (hf : f_Ed_branchIfReplaced N v0 v1 h = some h') : z_Met l y_Ed_branchIfReplaced prog_5_method_15_code 2 none 0 0 D dA B [.ref v0, .ref v1] h none h' := by
  refine z_of (by decide) (Nat.le_of_ble_eq_true rfl) (fun p e s m below meth c ls X hI hl => ?_)
  have hx := z_hx X
  have hb := z_hb X
  have hl : lv_has ls 2 [(0, .ref v0), (1, .ref v1)] := hl
  unfold f_Ed_branchIfReplaced at hf
  obtain ⟨locs, hlo⟩ : ∃ z : List Loc, z = [] := ⟨_, rfl⟩
  rw [← hlo] at hI ⊢
  refine lv_aload_n hx hb d_Ed_branchIfReplaced_0 rfl (lv_at hl 0 rfl) ?_
  obtain ⟨x1, ex1, hf⟩ := z_bs hf
  refine z_getF X hI (k := 15) (ci := 3) (gI_s ex1) i_Ed rfl (by decide) wf_Ed_120 d_Ed_branchIfReplaced_1 ?_
  refine lv_if_eq (tgt := 20) hx hb d_Ed_branchIfReplaced_4 (by decide) (fun c2 => ?_) (fun c2 => ?_)
  · rw [if_pos c2] at hf
    cases hf
    exact z_vret X hI d_Ed_branchIfReplaced_20
  · rw [if_neg c2] at hf
    refine lv_aload_n hx hb d_Ed_branchIfReplaced_7 rfl (lv_at hl 0 rfl) ?_
    refine lv_iconst (v := 0) hx hb d_Ed_branchIfReplaced_8 (by decide) ?_
    obtain ⟨h3, eh3, hf⟩ := z_bs hf
    refine z_putF X hI (k := 15) (ci := 3) (ty0 := t_Ed) eh3 i_Ed t_Ed_ok n_Ed rfl (by decide) wf_Ed_120 rfl rfl rfl d_Ed_branchIfReplaced_9 (fun H locs hI => ?_)
    refine lv_aload_n hx hb d_Ed_branchIfReplaced_12 rfl (lv_at hl 0 rfl) ?_
    refine lv_aload_n hx hb d_Ed_branchIfReplaced_13 rfl (lv_at hl 1 rfl) ?_
    obtain ⟨x4, ex4, hf⟩ := z_bs hf
    refine z_getF X hI (k := 7) (ci := 1) (gI_s ex4) i_Cmd rfl (by decide) wf_Ed_93 d_Ed_branchIfReplaced_14 ?_
    obtain ⟨h5, eh5, hf⟩ := z_bs hf
    refine z_putF X hI (k := 13) (ci := 3) (ty0 := t_Ed) eh5 i_Ed t_Ed_ok n_Ed rfl (by decide) wf_Ed_58 rfl rfl rfl d_Ed_branchIfReplaced_17 (fun H locs hI => ?_)
    cases hf
    exact z_vret X hI d_Ed_branchIfReplaced_20
def f_Ed_exchange_55 (N : Nat) (k2 : Nat → Nat → Int32 → z_H → Option z_H) (v0 : Nat) (v1 : Nat) (v2 : Int32) (v3 : Int32) (h : z_H) : Option z_H :=
  z_b (gI h v1 1 10) fun x1 =>
  if x1 ≤ v3 then
  (z_b (some (v2 + 1)) fun x3 =>
  k2 v0 v1 x3 h)
  else
  (z_b (gR h v0 3 1) fun x4 =>
  z_b (gR h x4 10 0) fun x5 =>
  z_b (gR h v0 3 10) fun x6 =>
  z_b (gR h x6 9 0) fun x7 =>
  z_b (gI h v1 1 11) fun x8 =>
  z_b (gI h v1 1 9) fun x9 =>
  z_b (gO h x7 10) fun u10 =>
  z_b (f_Row_at N x7 ((x8 + v3) - x9) h) fun r11 =>
  z_b (uI r11.2 x5 1 v2 (vp_nar .char ((Int32.toUInt32 (r11.1) % 65536).toInt32))) fun h12 =>
  z_b (some (v2 + 1)) fun x13 =>
  k2 v0 v1 x13 h12)
set_option maxRecDepth 20000 in
set_option maxHeartbeats 2000000 in
theorem s_Ed_exchange_55 (X : z_X p s m args meth c prog_5_method_25_code 4 none Ts "StreamForge$Editor" D dA B) {N : Nat} {h' : z_H} {k2 : Nat → Nat → Int32 → z_H → Option z_H} (hk2 : ∀ (v0 : Nat) (v1 : Nat) (v2 : Int32) (h : z_H) (H : Heap) (locs : List Loc) (ls : Array Slot), z_I D dA B h s.heap H locs → lv_has ls 4 [(0, .ref v0), (1, .ref v1), (2, .int v2)] → k2 v0 v1 v2 h = some h' → W p l e (z_rm 1 21) s m args below meth c H locs 0 0 (MQ below (z_Q D dA B none h') args s 0 0 (fun q => B ≤ q)) (F0 m 2 ls [])) : ∀ (v0 : Nat) (v1 : Nat) (v2 : Int32) (v3 : Int32) (h : z_H) (H : Heap) (locs : List Loc) (ls : Array Slot), z_I D dA B h s.heap H locs → lv_has ls 4 [(0, .ref v0), (1, .ref v1), (2, .int v2), (3, .int v3)] → f_Ed_exchange_55 N k2 v0 v1 v2 v3 h = some h' → W p l e (z_rm 1 21) s m args below meth c H locs 0 0 (MQ below (z_Q D dA B none h') args s 0 0 (fun q => B ≤ q)) (F0 m 55 ls []) := by
  have hx := z_hx X
  have hb := z_hb X
  intro v0 v1 v2 v3 h H locs ls hI hl hf
  unfold f_Ed_exchange_55 at hf
  refine lv_iload_n hx hb d_Ed_exchange_55 rfl (lv_at hl 3 rfl) ?_
  refine lv_aload_n hx hb d_Ed_exchange_56 rfl (lv_at hl 1 rfl) ?_
  obtain ⟨x1, ex1, hf⟩ := z_bs hf
  refine z_getF X hI (k := 10) (ci := 1) (gI_s ex1) i_Cmd rfl (by decide) wf_Ed_209 d_Ed_exchange_57 ?_
  refine lv_icmp_ge (tgt := 94) hx hb d_Ed_exchange_60 (by decide) (fun c2 => ?_) (fun c2 => ?_)
  · rw [if_pos c2] at hf
    obtain ⟨x3, ex3, hf⟩ := z_bs hf
    refine lv_iinc (v := x3) (lv' := [(2, .int x3), (0, .ref v0), (1, .ref v1), (3, .int v3)]) hx hb d_Ed_exchange_94 hl (k := 2) rfl (by rw [← Option.some.inj ex3]; rfl) (by decide) rfl (fun ls hl => ?_)
    refine lv_goto (tgt := 2) hx hb d_Ed_exchange_97 (by decide) ?_
    exact hk2 v0 v1 x3 h _ _ _ hI (lv_sub hl [1, 2, 0] rfl) hf
  · rw [if_neg c2] at hf
    refine lv_aload_n hx hb d_Ed_exchange_63 rfl (lv_at hl 0 rfl) ?_
    obtain ⟨x4, ex4, hf⟩ := z_bs hf
    refine z_getF X hI (k := 1) (ci := 3) (gR_s ex4) i_Ed rfl (by decide) wf_Ed_20 d_Ed_exchange_64 ?_
    obtain ⟨x5, ex5, hf⟩ := z_bs hf
    refine z_getF X hI (k := 0) (ci := 10) (gR_s ex5) i_Row rfl (by decide) wf_Ed_146 d_Ed_exchange_67 ?_
    refine lv_iload_n hx hb d_Ed_exchange_70 rfl (lv_at hl 2 rfl) ?_
    refine lv_aload_n hx hb d_Ed_exchange_71 rfl (lv_at hl 0 rfl) ?_
    obtain ⟨x6, ex6, hf⟩ := z_bs hf
    refine z_getF X hI (k := 10) (ci := 3) (gR_s ex6) i_Ed rfl (by decide) wf_Ed_39 d_Ed_exchange_72 ?_
    obtain ⟨x7, ex7, hf⟩ := z_bs hf
    refine z_getF X hI (k := 0) (ci := 9) (gR_s ex7) i_Prog rfl (by decide) wf_Ed_203 d_Ed_exchange_75 ?_
    refine lv_aload_n hx hb d_Ed_exchange_78 rfl (lv_at hl 1 rfl) ?_
    obtain ⟨x8, ex8, hf⟩ := z_bs hf
    refine z_getF X hI (k := 11) (ci := 1) (gI_s ex8) i_Cmd rfl (by decide) wf_Ed_250 d_Ed_exchange_79 ?_
    refine lv_iload_n hx hb d_Ed_exchange_82 rfl (lv_at hl 3 rfl) ?_
    refine lv_iadd hx hb d_Ed_exchange_83 ?_
    refine lv_aload_n hx hb d_Ed_exchange_84 rfl (lv_at hl 1 rfl) ?_
    obtain ⟨x9, ex9, hf⟩ := z_bs hf
    refine z_getF X hI (k := 9) (ci := 1) (gI_s ex9) i_Cmd rfl (by decide) wf_Ed_206 d_Ed_exchange_85 ?_
    refine lv_isub hx hb d_Ed_exchange_88 ?_
    obtain ⟨u10, eu10, hf⟩ := z_bs hf
    obtain ⟨r11, er11, hf⟩ := z_bs hf
    refine z_callV (As := [.int ((x8 + v3) - x9)]) (rest := [.int v2, .ref x5]) (r := (some (.int r11.1))) (h' := r11.2) X hI eu10 (s_Row_at er11) rfl rfl wm_Ed_247 yi_Row_at rfl hl.1 rfl (Nat.le_of_ble_eq_true rfl) (by decide) (by decide) d_Ed_exchange_89 (fun H locs hI => ?_)
    refine W.eq (g2 := F0 m 92 ls [.int (r11.1), .int v2, .ref x5]) rfl ?_
    refine lv_i2c hx hb d_Ed_exchange_92 rfl ?_
    obtain ⟨h12, eh12, hf⟩ := z_bs hf
    refine z_cast X hI eh12 d_Ed_exchange_93 (fun H locs hI => ?_)
    obtain ⟨x13, ex13, hf⟩ := z_bs hf
    refine lv_iinc (v := x13) (lv' := [(2, .int x13), (0, .ref v0), (1, .ref v1), (3, .int v3)]) hx hb d_Ed_exchange_94 hl (k := 2) rfl (by rw [← Option.some.inj ex13]; rfl) (by decide) rfl (fun ls hl => ?_)
    refine lv_goto (tgt := 2) hx hb d_Ed_exchange_97 (by decide) ?_
    exact hk2 v0 v1 x13 h12 _ _ _ hI (lv_sub hl [1, 2, 0] rfl) hf
def f_Ed_exchange_18 (N : Nat) (k2 : Nat → Nat → Int32 → z_H → Option z_H) : Nat → Nat → Nat → Int32 → Int32 → z_H → Option z_H
  | 0, _, _, _, _, _ => none
  | n + 1, v0, v1, v2, v3, h =>
    z_b (gI h v1 1 10) fun x1 =>
    if x1 ≤ v3 then
    (f_Ed_exchange_55 N k2 v0 v1 v2 v3 h)
    else
    (z_b (gR h v0 3 10) fun x3 =>
    z_b (gR h x3 9 0) fun x4 =>
    z_b (gO h x4 10) fun u5 =>
    z_b (f_Row_at N x4 v3 h) fun r6 =>
    z_b (gR r6.2 v0 3 1) fun x7 =>
    z_b (gR r6.2 x7 10 0) fun x8 =>
    z_b (aI r6.2 x8 1 v2) fun x9 =>
    if (r6.1) = x9 then
    (f_Ed_exchange_55 N k2 v0 v1 v2 v3 r6.2)
    else
    (z_b (some (v3 + 1)) fun x11 =>
    (f_Ed_exchange_18 N k2 n) v0 v1 v2 x11 r6.2))
set_option maxRecDepth 20000 in
set_option maxHeartbeats 2000000 in
theorem s_Ed_exchange_18 (X : z_X p s m args meth c prog_5_method_25_code 4 none Ts "StreamForge$Editor" D dA B) {N : Nat} {h' : z_H} {k2 : Nat → Nat → Int32 → z_H → Option z_H} (hk2 : ∀ (v0 : Nat) (v1 : Nat) (v2 : Int32) (h : z_H) (H : Heap) (locs : List Loc) (ls : Array Slot), z_I D dA B h s.heap H locs → lv_has ls 4 [(0, .ref v0), (1, .ref v1), (2, .int v2)] → k2 v0 v1 v2 h = some h' → W p l e (z_rm 1 21) s m args below meth c H locs 0 0 (MQ below (z_Q D dA B none h') args s 0 0 (fun q => B ≤ q)) (F0 m 2 ls [])) : ∀ n : Nat, ∀ (v0 : Nat) (v1 : Nat) (v2 : Int32) (v3 : Int32) (h : z_H) (H : Heap) (locs : List Loc) (ls : Array Slot), z_I D dA B h s.heap H locs → lv_has ls 4 [(0, .ref v0), (1, .ref v1), (2, .int v2), (3, .int v3)] → f_Ed_exchange_18 N k2 n v0 v1 v2 v3 h = some h' → W p l e (z_rm 1 21) s m args below meth c H locs 0 0 (MQ below (z_Q D dA B none h') args s 0 0 (fun q => B ≤ q)) (F0 m 18 ls []) := by
  have hx := z_hx X
  have hb := z_hb X
  intro n
  induction n with
  | zero => intro v0 v1 v2 v3 h H locs ls hI hl hf; rw [f_Ed_exchange_18] at hf; cases hf
  | succ n ih =>
    intro v0 v1 v2 v3 h H locs ls hI hl hf
    rw [f_Ed_exchange_18] at hf
    refine lv_iload_n hx hb d_Ed_exchange_18 rfl (lv_at hl 3 rfl) ?_
    refine lv_aload_n hx hb d_Ed_exchange_19 rfl (lv_at hl 1 rfl) ?_
    obtain ⟨x1, ex1, hf⟩ := z_bs hf
    refine z_getF X hI (k := 10) (ci := 1) (gI_s ex1) i_Cmd rfl (by decide) wf_Ed_209 d_Ed_exchange_20 ?_
    refine lv_icmp_ge (tgt := 55) hx hb d_Ed_exchange_23 (by decide) (fun c2 => ?_) (fun c2 => ?_)
    · rw [if_pos c2] at hf
      exact s_Ed_exchange_55 X hk2 v0 v1 v2 v3 h _ _ _ hI (lv_sub hl [0, 1, 2, 3] rfl) hf
    · rw [if_neg c2] at hf
      refine lv_aload_n hx hb d_Ed_exchange_26 rfl (lv_at hl 0 rfl) ?_
      obtain ⟨x3, ex3, hf⟩ := z_bs hf
      refine z_getF X hI (k := 10) (ci := 3) (gR_s ex3) i_Ed rfl (by decide) wf_Ed_39 d_Ed_exchange_27 ?_
      obtain ⟨x4, ex4, hf⟩ := z_bs hf
      refine z_getF X hI (k := 0) (ci := 9) (gR_s ex4) i_Prog rfl (by decide) wf_Ed_203 d_Ed_exchange_30 ?_
      refine lv_iload_n hx hb d_Ed_exchange_33 rfl (lv_at hl 3 rfl) ?_
      obtain ⟨u5, eu5, hf⟩ := z_bs hf
      obtain ⟨r6, er6, hf⟩ := z_bs hf
      refine z_callV (As := [.int v3]) (rest := []) (r := (some (.int r6.1))) (h' := r6.2) X hI eu5 (s_Row_at er6) rfl rfl wm_Ed_247 yi_Row_at rfl hl.1 rfl (Nat.le_of_ble_eq_true rfl) (by decide) (by decide) d_Ed_exchange_34 (fun H locs hI => ?_)
      refine W.eq (g2 := F0 m 37 ls [.int (r6.1)]) rfl ?_
      refine lv_aload_n hx hb d_Ed_exchange_37 rfl (lv_at hl 0 rfl) ?_
      obtain ⟨x7, ex7, hf⟩ := z_bs hf
      refine z_getF X hI (k := 1) (ci := 3) (gR_s ex7) i_Ed rfl (by decide) wf_Ed_20 d_Ed_exchange_38 ?_
      obtain ⟨x8, ex8, hf⟩ := z_bs hf
      refine z_getF X hI (k := 0) (ci := 10) (gR_s ex8) i_Row rfl (by decide) wf_Ed_146 d_Ed_exchange_41 ?_
      refine lv_iload_n hx hb d_Ed_exchange_44 rfl (lv_at hl 2 rfl) ?_
      obtain ⟨x9, ex9, hf⟩ := z_bs hf
      refine z_cald X hI ex9 d_Ed_exchange_45 ?_
      refine lv_icmp_eq (tgt := 55) hx hb d_Ed_exchange_46 (by decide) (fun c10 => ?_) (fun c10 => ?_)
      · rw [if_pos c10] at hf
        exact s_Ed_exchange_55 X hk2 v0 v1 v2 v3 r6.2 _ _ _ hI (lv_sub hl [0, 1, 2, 3] rfl) hf
      · rw [if_neg c10] at hf
        obtain ⟨x11, ex11, hf⟩ := z_bs hf
        refine lv_iinc (v := x11) (lv' := [(3, .int x11), (0, .ref v0), (1, .ref v1), (2, .int v2)]) hx hb d_Ed_exchange_49 hl (k := 3) rfl (by rw [← Option.some.inj ex11]; rfl) (by decide) rfl (fun ls hl => ?_)
        refine lv_goto (tgt := 18) hx hb d_Ed_exchange_52 (by decide) ?_
        exact ih v0 v1 v2 x11 r6.2 _ _ _ hI (lv_sub hl [1, 2, 3, 0] rfl) hf
def f_Ed_exchange_2 (N : Nat)  : Nat → Nat → Nat → Int32 → z_H → Option z_H
  | 0, _, _, _, _ => none
  | n + 1, v0, v1, v2, h =>
    z_b (gR h v0 3 1) fun x1 =>
    z_b (gI h x1 10 1) fun x2 =>
    if x2 ≤ v2 then
    (some h)
    else
    (z_b (gI h v1 1 9) fun x4 =>
    f_Ed_exchange_18 N (f_Ed_exchange_2 N  n) N v0 v1 v2 x4 h)
set_option maxRecDepth 20000 in
set_option maxHeartbeats 2000000 in
theorem s_Ed_exchange_2 (X : z_X p s m args meth c prog_5_method_25_code 4 none Ts "StreamForge$Editor" D dA B) {N : Nat} {h' : z_H}   : ∀ n : Nat, ∀ (v0 : Nat) (v1 : Nat) (v2 : Int32) (h : z_H) (H : Heap) (locs : List Loc) (ls : Array Slot), z_I D dA B h s.heap H locs → lv_has ls 4 [(0, .ref v0), (1, .ref v1), (2, .int v2)] → f_Ed_exchange_2 N  n v0 v1 v2 h = some h' → W p l e (z_rm 1 21) s m args below meth c H locs 0 0 (MQ below (z_Q D dA B none h') args s 0 0 (fun q => B ≤ q)) (F0 m 2 ls []) := by
  have hx := z_hx X
  have hb := z_hb X
  intro n
  induction n with
  | zero => intro v0 v1 v2 h H locs ls hI hl hf; rw [f_Ed_exchange_2] at hf; cases hf
  | succ n ih =>
    intro v0 v1 v2 h H locs ls hI hl hf
    rw [f_Ed_exchange_2] at hf
    refine lv_iload_n hx hb d_Ed_exchange_2 rfl (lv_at hl 2 rfl) ?_
    refine lv_aload_n hx hb d_Ed_exchange_3 rfl (lv_at hl 0 rfl) ?_
    obtain ⟨x1, ex1, hf⟩ := z_bs hf
    refine z_getF X hI (k := 1) (ci := 3) (gR_s ex1) i_Ed rfl (by decide) wf_Ed_20 d_Ed_exchange_4 ?_
    obtain ⟨x2, ex2, hf⟩ := z_bs hf
    refine z_getF X hI (k := 1) (ci := 10) (gI_s ex2) i_Row rfl (by decide) wf_Ed_123 d_Ed_exchange_7 ?_
    refine lv_icmp_ge (tgt := 100) hx hb d_Ed_exchange_10 (by decide) (fun c3 => ?_) (fun c3 => ?_)
    · rw [if_pos c3] at hf
      cases hf
      exact z_vret X hI d_Ed_exchange_100
    · rw [if_neg c3] at hf
      refine lv_aload_n hx hb d_Ed_exchange_13 rfl (lv_at hl 1 rfl) ?_
      obtain ⟨x4, ex4, hf⟩ := z_bs hf
      refine z_getF X hI (k := 9) (ci := 1) (gI_s ex4) i_Cmd rfl (by decide) wf_Ed_206 d_Ed_exchange_14 ?_
      refine lv_istore_n (lv' := [(3, .int x4), (0, .ref v0), (1, .ref v1), (2, .int v2)]) hx hb d_Ed_exchange_17 rfl hl (by decide) rfl (fun ls hl => ?_)
      exact s_Ed_exchange_18 X ih N v0 v1 v2 x4 h _ _ _ hI (lv_sub hl [1, 2, 3, 0] rfl) hf
def f_Ed_exchange (N : Nat) (v0 : Nat) (v1 : Nat) (h : z_H) : Option z_H :=
  f_Ed_exchange_2 N N v0 v1 0 h
set_option maxRecDepth 20000 in
set_option maxHeartbeats 2000000 in
theorem s_Ed_exchange {l : Launch} {D : va_G} {dA : Nat → ClassId} {B N : Nat} {v0 : Nat} {v1 : Nat} {h h' : z_H} (hf : f_Ed_exchange N v0 v1 h = some h') : z_Met l y_Ed_exchange prog_5_method_25_code 4 none 1 21 D dA B [.ref v0, .ref v1] h none h' := by
  refine z_of (by decide) (Nat.le_of_ble_eq_true rfl) (fun p e s m below meth c ls X hI hl => ?_)
  have hx := z_hx X
  have hb := z_hb X
  have hl : lv_has ls 4 [(0, .ref v0), (1, .ref v1)] := hl
  unfold f_Ed_exchange at hf
  obtain ⟨locs, hlo⟩ : ∃ z : List Loc, z = [] := ⟨_, rfl⟩
  rw [← hlo] at hI ⊢
  refine lv_iconst (v := 0) hx hb d_Ed_exchange_0 (by decide) ?_
  refine lv_istore_n (lv' := [(2, .int 0), (0, .ref v0), (1, .ref v1)]) hx hb d_Ed_exchange_1 rfl hl (by decide) rfl (fun ls hl => ?_)
  exact s_Ed_exchange_2 X  N v0 v1 0 h _ _ _ hI (lv_sub hl [1, 2, 0] rfl) hf
def f_Ed_copy (N : Nat) (v0 : Nat) (v1 : Nat) (v2 : Nat) (h : z_H) : Option z_H :=
  z_b (gO h v2 10) fun u1 =>
  z_b (f_Row_empty N v2 h) fun r2 =>
  z_b (gI r2 v1 10 1) fun x3 =>
  z_b (gO r2 v2 10) fun u4 =>
  z_b (f_Row_addPart N v2 v1 0 x3 r2) fun r5 =>
  some r5
set_option maxRecDepth 20000 in
set_option maxHeartbeats 2000000 in
theorem s_Ed_copy {l : Launch} {D : va_G} {dA : Nat → ClassId} {B N : Nat} {v0 : Nat} {v1 : Nat} {v2 : Nat} {h h' : z_H} (hf : f_Ed_copy N v0 v1 v2 h = some h') : z_Met l y_Ed_copy prog_5_method_21_code 3 none 1 24 D dA B [.ref v0, .ref v1, .ref v2] h none h' := by
  refine z_of (by decide) (Nat.le_of_ble_eq_true rfl) (fun p e s m below meth c ls X hI hl => ?_)
  have hx := z_hx X
  have hb := z_hb X
  have hl : lv_has ls 3 [(0, .ref v0), (1, .ref v1), (2, .ref v2)] := hl
  unfold f_Ed_copy at hf
  obtain ⟨locs, hlo⟩ : ∃ z : List Loc, z = [] := ⟨_, rfl⟩
  rw [← hlo] at hI ⊢
  refine lv_aload_n hx hb d_Ed_copy_0 rfl (lv_at hl 2 rfl) ?_
  obtain ⟨u1, eu1, hf⟩ := z_bs hf
  obtain ⟨r2, er2, hf⟩ := z_bs hf
  refine z_callV (As := []) (rest := []) (r := none) (h' := r2) X hI eu1 (s_Row_empty er2) rfl rfl wm_Ed_96 yi_Row_empty rfl hl.1 rfl (Nat.le_of_ble_eq_true rfl) (by decide) (by decide) d_Ed_copy_1 (fun H locs hI => ?_)
  refine W.eq (g2 := F0 m 4 ls []) rfl ?_
  refine lv_aload_n hx hb d_Ed_copy_4 rfl (lv_at hl 2 rfl) ?_
  refine lv_aload_n hx hb d_Ed_copy_5 rfl (lv_at hl 1 rfl) ?_
  refine lv_iconst (v := 0) hx hb d_Ed_copy_6 (by decide) ?_
  refine lv_aload_n hx hb d_Ed_copy_7 rfl (lv_at hl 1 rfl) ?_
  obtain ⟨x3, ex3, hf⟩ := z_bs hf
  refine z_getF X hI (k := 1) (ci := 10) (gI_s ex3) i_Row rfl (by decide) wf_Ed_123 d_Ed_copy_8 ?_
  obtain ⟨u4, eu4, hf⟩ := z_bs hf
  obtain ⟨r5, er5, hf⟩ := z_bs hf
  refine z_callV (As := [.ref v1, .int 0, .int x3]) (rest := []) (r := none) (h' := r5) X hI eu4 (s_Row_addPart er5) rfl rfl wm_Ed_126 yi_Row_addPart rfl hl.1 rfl (Nat.le_of_ble_eq_true rfl) (by decide) (by decide) d_Ed_copy_11 (fun H locs hI => ?_)
  refine W.eq (g2 := F0 m 14 ls []) rfl ?_
  cases hf
  exact z_vret X hI d_Ed_copy_14
def f_Ed_swap (N : Nat) (v0 : Nat) (h : z_H) : Option z_H :=
  z_b (gR h v0 3 1) fun x1 =>
  z_b (gR h v0 3 2) fun x2 =>
  z_b (sF h v0 3 1 (.ref x2)) fun h3 =>
  z_b (sF h3 v0 3 2 (.ref x1)) fun h4 =>
  some h4
set_option maxRecDepth 20000 in
set_option maxHeartbeats 2000000 in
theorem s_Ed_swap {l : Launch} {D : va_G} {dA : Nat → ClassId} {B N : Nat} {v0 : Nat} {h h' : z_H} (hf : f_Ed_swap N v0 h = some h') : z_Met l y_Ed_swap prog_5_method_23_code 2 none 0 0 D dA B [.ref v0] h none h' := by
  refine z_of (by decide) (Nat.le_of_ble_eq_true rfl) (fun p e s m below meth c ls X hI hl => ?_)
  have hx := z_hx X
  have hb := z_hb X
  have hl : lv_has ls 2 [(0, .ref v0)] := hl
  unfold f_Ed_swap at hf
  obtain ⟨locs, hlo⟩ : ∃ z : List Loc, z = [] := ⟨_, rfl⟩
  rw [← hlo] at hI ⊢
  refine lv_aload_n hx hb d_Ed_swap_0 rfl (lv_at hl 0 rfl) ?_
  obtain ⟨x1, ex1, hf⟩ := z_bs hf
  refine z_getF X hI (k := 1) (ci := 3) (gR_s ex1) i_Ed rfl (by decide) wf_Ed_20 d_Ed_swap_1 ?_
  refine lv_astore_n (lv' := [(1, .ref x1), (0, .ref v0)]) hx hb d_Ed_swap_4 rfl hl (by decide) rfl (fun ls hl => ?_)
  refine lv_aload_n hx hb d_Ed_swap_5 rfl (lv_at hl 1 rfl) ?_
  refine lv_aload_n hx hb d_Ed_swap_6 rfl (lv_at hl 1 rfl) ?_
  obtain ⟨x2, ex2, hf⟩ := z_bs hf
  refine z_getF X hI (k := 2) (ci := 3) (gR_s ex2) i_Ed rfl (by decide) wf_Ed_23 d_Ed_swap_7 ?_
  obtain ⟨h3, eh3, hf⟩ := z_bs hf
  refine z_putF X hI (k := 1) (ci := 3) (ty0 := t_Ed) eh3 i_Ed t_Ed_ok n_Ed rfl (by decide) wf_Ed_20 rfl rfl rfl d_Ed_swap_10 (fun H locs hI => ?_)
  refine lv_aload_n hx hb d_Ed_swap_13 rfl (lv_at hl 1 rfl) ?_
  refine lv_aload_n hx hb d_Ed_swap_14 rfl (lv_at hl 0 rfl) ?_
  obtain ⟨h4, eh4, hf⟩ := z_bs hf
  refine z_putF X hI (k := 2) (ci := 3) (ty0 := t_Ed) eh4 i_Ed t_Ed_ok n_Ed rfl (by decide) wf_Ed_23 rfl rfl rfl d_Ed_swap_15 (fun H locs hI => ?_)
  cases hf
  exact z_vret X hI d_Ed_swap_18
end
