section
variable {p : Program} {l : Launch} {e : Env} {s : State} {m : MethodId} {args : Array Value} {below : List Frame} {meth : Method} {c : Code} {Ts : List Cond} {own : String} {D : va_G} {dA : Nat → ClassId} {B : Nat}
def f_Pr_begin_88 (N : Nat)  (v0 : Nat) (h : z_H) : Option z_H :=
  z_b (sF h v0 8 3 (.int 0)) fun h1 =>
  z_b (sF h1 v0 8 4 (.int 0)) fun h2 =>
  z_b (sF h2 v0 8 5 (.int 0)) fun h3 =>
  z_b (sF h3 v0 8 6 (.int 0)) fun h4 =>
  some h4
set_option maxRecDepth 20000 in
set_option maxHeartbeats 2000000 in
theorem s_Pr_begin_88 (X : z_X p s m args meth c prog_10_method_3_code 3 none Ts "StreamForge$PatternReader" D dA B) {N : Nat} {h' : z_H}   : ∀ (v0 : Nat) (h : z_H) (H : Heap) (locs : List Loc) (ls : Array Slot), z_I D dA B h s.heap H locs → lv_has ls 3 [(0, .ref v0)] → f_Pr_begin_88 N  v0 h = some h' → W p l e (z_rm 1 22) s m args below meth c H locs 0 0 (MQ below (z_Q D dA B none h') args s 0 0 (fun q => B ≤ q)) (F0 m 88 ls []) := by
  have hx := z_hx X
  have hb := z_hb X
  intro v0 h H locs ls hI hl hf
  unfold f_Pr_begin_88 at hf
  refine lv_aload_n hx hb d_Pr_begin_88 rfl (lv_at hl 0 rfl) ?_
  refine lv_iconst (v := 0) hx hb d_Pr_begin_89 (by decide) ?_
  obtain ⟨h1, eh1, hf⟩ := z_bs hf
  refine z_putF X hI (k := 3) (ci := 8) (ty0 := t_Pr) eh1 i_Pr t_Pr_ok n_Pr rfl (by decide) wf_Pr_89 rfl rfl rfl d_Pr_begin_90 (fun H locs hI => ?_)
  refine lv_aload_n hx hb d_Pr_begin_93 rfl (lv_at hl 0 rfl) ?_
  refine lv_iconst (v := 0) hx hb d_Pr_begin_94 (by decide) ?_
  obtain ⟨h2, eh2, hf⟩ := z_bs hf
  refine z_putF X hI (k := 4) (ci := 8) (ty0 := t_Pr) eh2 i_Pr t_Pr_ok n_Pr rfl (by decide) wf_Pr_92 rfl rfl rfl d_Pr_begin_95 (fun H locs hI => ?_)
  refine lv_aload_n hx hb d_Pr_begin_98 rfl (lv_at hl 0 rfl) ?_
  refine lv_iconst (v := 0) hx hb d_Pr_begin_99 (by decide) ?_
  obtain ⟨h3, eh3, hf⟩ := z_bs hf
  refine z_putF X hI (k := 5) (ci := 8) (ty0 := t_Pr) eh3 i_Pr t_Pr_ok n_Pr rfl (by decide) wf_Pr_47 rfl rfl rfl d_Pr_begin_100 (fun H locs hI => ?_)
  refine lv_aload_n hx hb d_Pr_begin_103 rfl (lv_at hl 0 rfl) ?_
  refine lv_iconst (v := 0) hx hb d_Pr_begin_104 (by decide) ?_
  obtain ⟨h4, eh4, hf⟩ := z_bs hf
  refine z_putF X hI (k := 6) (ci := 8) (ty0 := t_Pr) eh4 i_Pr t_Pr_ok n_Pr rfl (by decide) wf_Pr_95 rfl rfl rfl d_Pr_begin_105 (fun H locs hI => ?_)
  cases hf
  exact z_vret X hI d_Pr_begin_108
def f_Pr_begin_62 (N : Nat)  (v0 : Nat) (s0 : Nat) (s1 : Int32) (h : z_H) : Option z_H :=
  z_b (zB s1) fun x1 =>
  z_b (sF h s0 7 0 (.int x1)) fun h2 =>
  z_b (gR h2 v0 8 2) fun x3 =>
  z_b (gI h2 x3 7 0) fun x4 =>
  if x4 = 0 then
  (f_Pr_begin_88 N v0 h2)
  else
  (z_b (gR h2 v0 8 0) fun x6 =>
  z_b (gI h2 x6 2 1) fun x7 =>
  z_b (sF h2 x6 2 1 (.int (x7 + 1))) fun h8 =>
  f_Pr_begin_88 N v0 h8)
set_option maxRecDepth 20000 in
set_option maxHeartbeats 2000000 in
theorem s_Pr_begin_62 (X : z_X p s m args meth c prog_10_method_3_code 3 none Ts "StreamForge$PatternReader" D dA B) {N : Nat} {h' : z_H}   : ∀ (v0 : Nat) (s0 : Nat) (s1 : Int32) (h : z_H) (H : Heap) (locs : List Loc) (ls : Array Slot), z_I D dA B h s.heap H locs → lv_has ls 3 [(0, .ref v0)] → f_Pr_begin_62 N  v0 s0 s1 h = some h' → W p l e (z_rm 1 22) s m args below meth c H locs 0 0 (MQ below (z_Q D dA B none h') args s 0 0 (fun q => B ≤ q)) (F0 m 62 ls [.int s1, .ref s0]) := by
  have hx := z_hx X
  have hb := z_hb X
  intro v0 s0 s1 h H locs ls hI hl hf
  unfold f_Pr_begin_62 at hf
  obtain ⟨x1, ex1, hf⟩ := z_bs hf
  refine z_topi (zB_s ex1).1 ?_
  have nx1 : narrow .boolean (.int x1) = .int x1 := z_nb ex1
  obtain ⟨h2, eh2, hf⟩ := z_bs hf
  refine z_putF X hI (k := 0) (ci := 7) (ty0 := t_Pt) eh2 i_Pt t_Pt_ok n_Pt rfl (by decide) wf_Pr_83 rfl nx1 (z_fb ex1) d_Pr_begin_62 (fun H locs hI => ?_)
  refine lv_aload_n hx hb d_Pr_begin_65 rfl (lv_at hl 0 rfl) ?_
  obtain ⟨x3, ex3, hf⟩ := z_bs hf
  refine z_getF X hI (k := 2) (ci := 8) (gR_s ex3) i_Pr rfl (by decide) wf_Pr_58 d_Pr_begin_66 ?_
  obtain ⟨x4, ex4, hf⟩ := z_bs hf
  refine z_getF X hI (k := 0) (ci := 7) (gI_s ex4) i_Pt rfl (by decide) wf_Pr_83 d_Pr_begin_69 ?_
  refine lv_if_eq (tgt := 88) hx hb d_Pr_begin_72 (by decide) (fun c5 => ?_) (fun c5 => ?_)
  · rw [if_pos c5] at hf
    exact s_Pr_begin_88 X  v0 h2 _ _ _ hI (lv_sub hl [0] rfl) hf
  · rw [if_neg c5] at hf
    refine lv_aload_n hx hb d_Pr_begin_75 rfl (lv_at hl 0 rfl) ?_
    obtain ⟨x6, ex6, hf⟩ := z_bs hf
    refine z_getF X hI (k := 0) (ci := 8) (gR_s ex6) i_Pr rfl (by decide) wf_Pr_9 d_Pr_begin_76 ?_
    refine lv_dup hx hb d_Pr_begin_79 rfl ?_
    obtain ⟨x7, ex7, hf⟩ := z_bs hf
    refine z_getF X hI (k := 1) (ci := 2) (gI_s ex7) i_Cur rfl (by decide) wf_Pr_86 d_Pr_begin_80 ?_
    refine lv_iconst (v := 1) hx hb d_Pr_begin_83 (by decide) ?_
    refine lv_iadd hx hb d_Pr_begin_84 ?_
    obtain ⟨h8, eh8, hf⟩ := z_bs hf
    refine z_putF X hI (k := 1) (ci := 2) (ty0 := t_Cur) eh8 i_Cur t_Cur_ok n_Cur rfl (by decide) wf_Pr_86 rfl rfl rfl d_Pr_begin_85 (fun H locs hI => ?_)
    exact s_Pr_begin_88 X  v0 h8 _ _ _ hI (lv_sub hl [0] rfl) hf
def f_Pr_begin (N : Nat) (v0 : Nat) (v1 : Nat) (v2 : Nat) (h : z_H) : Option z_H :=
  z_b (sF h v0 8 2 (.ref v1)) fun h1 =>
  z_b (sF h1 v0 8 1 (.ref v2)) fun h2 =>
  z_b (gR h2 v0 8 2) fun x3 =>
  z_b (gR h2 v0 8 1) fun x4 =>
  z_b (gI h2 x4 4 4) fun x5 =>
  z_b (sF h2 x3 7 2 (.int x5)) fun h6 =>
  z_b (gR h6 v0 8 2) fun x7 =>
  z_b (sF h6 x7 7 6 (.int 0)) fun h8 =>
  z_b (gR h8 v0 8 2) fun x9 =>
  z_b (sF h8 x9 7 1 (.int 0)) fun h10 =>
  z_b (gR h10 v0 8 2) fun x11 =>
  z_b (gR h10 v0 8 0) fun x12 =>
  z_b (gO h10 x12 2) fun u13 =>
  z_b (f_Cur_look N x12 0 h10) fun r14 =>
  if (r14.1) = 94 then
  (f_Pr_begin_62 N v0 x11 1 r14.2)
  else
  (f_Pr_begin_62 N v0 x11 0 r14.2)
set_option maxRecDepth 20000 in
set_option maxHeartbeats 2000000 in
theorem s_Pr_begin {l : Launch} {D : va_G} {dA : Nat → ClassId} {B N : Nat} {v0 : Nat} {v1 : Nat} {v2 : Nat} {h h' : z_H} (hf : f_Pr_begin N v0 v1 v2 h = some h') : z_Met l y_Pr_begin prog_10_method_3_code 3 none 1 22 D dA B [.ref v0, .ref v1, .ref v2] h none h' := by
  refine z_of (by decide) (Nat.le_of_ble_eq_true rfl) (fun p e s m below meth c ls X hI hl => ?_)
  have hx := z_hx X
  have hb := z_hb X
  have hl : lv_has ls 3 [(0, .ref v0), (1, .ref v1), (2, .ref v2)] := hl
  unfold f_Pr_begin at hf
  obtain ⟨locs, hlo⟩ : ∃ z : List Loc, z = [] := ⟨_, rfl⟩
  rw [← hlo] at hI ⊢
  refine lv_aload_n hx hb d_Pr_begin_0 rfl (lv_at hl 0 rfl) ?_
  refine lv_aload_n hx hb d_Pr_begin_1 rfl (lv_at hl 1 rfl) ?_
  obtain ⟨h1, eh1, hf⟩ := z_bs hf
  refine z_putF X hI (k := 2) (ci := 8) (ty0 := t_Pr) eh1 i_Pr t_Pr_ok n_Pr rfl (by decide) wf_Pr_58 rfl rfl rfl d_Pr_begin_2 (fun H locs hI => ?_)
  refine lv_aload_n hx hb d_Pr_begin_5 rfl (lv_at hl 0 rfl) ?_
  refine lv_aload_n hx hb d_Pr_begin_6 rfl (lv_at hl 2 rfl) ?_
  obtain ⟨h2, eh2, hf⟩ := z_bs hf
  refine z_putF X hI (k := 1) (ci := 8) (ty0 := t_Pr) eh2 i_Pr t_Pr_ok n_Pr rfl (by decide) wf_Pr_62 rfl rfl rfl d_Pr_begin_7 (fun H locs hI => ?_)
  refine lv_aload_n hx hb d_Pr_begin_10 rfl (lv_at hl 0 rfl) ?_
  obtain ⟨x3, ex3, hf⟩ := z_bs hf
  refine z_getF X hI (k := 2) (ci := 8) (gR_s ex3) i_Pr rfl (by decide) wf_Pr_58 d_Pr_begin_11 ?_
  refine lv_aload_n hx hb d_Pr_begin_14 rfl (lv_at hl 0 rfl) ?_
  obtain ⟨x4, ex4, hf⟩ := z_bs hf
  refine z_getF X hI (k := 1) (ci := 8) (gR_s ex4) i_Pr rfl (by decide) wf_Pr_62 d_Pr_begin_15 ?_
  obtain ⟨x5, ex5, hf⟩ := z_bs hf
  refine z_getF X hI (k := 4) (ci := 4) (gI_s ex5) i_It rfl (by decide) wf_Pr_66 d_Pr_begin_18 ?_
  obtain ⟨h6, eh6, hf⟩ := z_bs hf
  refine z_putF X hI (k := 2) (ci := 7) (ty0 := t_Pt) eh6 i_Pt t_Pt_ok n_Pt rfl (by decide) wf_Pr_72 rfl rfl rfl d_Pr_begin_21 (fun H locs hI => ?_)
  refine lv_aload_n hx hb d_Pr_begin_24 rfl (lv_at hl 0 rfl) ?_
  obtain ⟨x7, ex7, hf⟩ := z_bs hf
  refine z_getF X hI (k := 2) (ci := 8) (gR_s ex7) i_Pr rfl (by decide) wf_Pr_58 d_Pr_begin_25 ?_
  refine lv_iconst (v := 0) hx hb d_Pr_begin_28 (by decide) ?_
  obtain ⟨h8, eh8, hf⟩ := z_bs hf
  refine z_putF X hI (k := 6) (ci := 7) (ty0 := t_Pt) eh8 i_Pt t_Pt_ok n_Pt rfl (by decide) wf_Pr_77 rfl rfl rfl d_Pr_begin_29 (fun H locs hI => ?_)
  refine lv_aload_n hx hb d_Pr_begin_32 rfl (lv_at hl 0 rfl) ?_
  obtain ⟨x9, ex9, hf⟩ := z_bs hf
  refine z_getF X hI (k := 2) (ci := 8) (gR_s ex9) i_Pr rfl (by decide) wf_Pr_58 d_Pr_begin_33 ?_
  refine lv_iconst (v := 0) hx hb d_Pr_begin_36 (by decide) ?_
  obtain ⟨h10, eh10, hf⟩ := z_bs hf
  refine z_putF X hI (k := 1) (ci := 7) (ty0 := t_Pt) eh10 i_Pt t_Pt_ok n_Pt rfl (by decide) wf_Pr_80 rfl rfl rfl d_Pr_begin_37 (fun H locs hI => ?_)
  refine lv_aload_n hx hb d_Pr_begin_40 rfl (lv_at hl 0 rfl) ?_
  obtain ⟨x11, ex11, hf⟩ := z_bs hf
  refine z_getF X hI (k := 2) (ci := 8) (gR_s ex11) i_Pr rfl (by decide) wf_Pr_58 d_Pr_begin_41 ?_
  refine lv_aload_n hx hb d_Pr_begin_44 rfl (lv_at hl 0 rfl) ?_
  obtain ⟨x12, ex12, hf⟩ := z_bs hf
  refine z_getF X hI (k := 0) (ci := 8) (gR_s ex12) i_Pr rfl (by decide) wf_Pr_9 d_Pr_begin_45 ?_
  refine lv_iconst (v := 0) hx hb d_Pr_begin_48 (by decide) ?_
  obtain ⟨u13, eu13, hf⟩ := z_bs hf
  obtain ⟨r14, er14, hf⟩ := z_bs hf
  refine z_callV (As := [.int 0]) (rest := [.ref x11]) (r := (some (.int r14.1))) (h' := r14.2) X hI eu13 (s_Cur_look er14) rfl rfl wm_Pr_19 yi_Cur_look rfl hl.1 rfl (Nat.le_of_ble_eq_true rfl) (by decide) (by decide) d_Pr_begin_49 (fun H locs hI => ?_)
  refine W.eq (g2 := F0 m 52 ls [.int (r14.1), .ref x11]) rfl ?_
  refine lv_bipush (v := 94) hx hb d_Pr_begin_52 (by decide) ?_
  refine lv_icmp_ne (tgt := 61) hx hb d_Pr_begin_54 (by decide) (fun c15 => ?_) (fun c15 => ?_)
  · rw [if_neg c15] at hf
    refine lv_iconst (v := 0) hx hb d_Pr_begin_61 (by decide) ?_
    exact s_Pr_begin_62 X  v0 x11 0 r14.2 _ _ _ hI (lv_sub hl [0] rfl) hf
  · rw [if_pos c15] at hf
    refine lv_iconst (v := 1) hx hb d_Pr_begin_57 (by decide) ?_
    refine lv_goto (tgt := 62) hx hb d_Pr_begin_58 (by decide) ?_
    exact s_Pr_begin_62 X  v0 x11 1 r14.2 _ _ _ hI (lv_sub hl [0] rfl) hf
def f_Pr_readStar_15 (N : Nat)  (v0 : Nat) (h : z_H) : Option (Int32 × z_H) :=
  z_b (gR h v0 8 0) fun x1 =>
  z_b (gO h x1 2) fun u2 =>
  z_b (f_Cur_refuse N x1 0 h) fun r3 =>
  z_b (zB (r3.1)) fun x4 =>
  some (x4, r3.2)
set_option maxRecDepth 20000 in
set_option maxHeartbeats 2000000 in
theorem s_Pr_readStar_15 (X : z_X p s m args meth c prog_10_method_5_code 1 (some .boolean) Ts "StreamForge$PatternReader" D dA B) {N : Nat} {r : Int32} {h' : z_H}   : ∀ (v0 : Nat) (h : z_H) (H : Heap) (locs : List Loc) (ls : Array Slot), z_I D dA B h s.heap H locs → lv_has ls 1 [(0, .ref v0)] → f_Pr_readStar_15 N  v0 h = some (r, h') → W p l e (z_rm 1 21) s m args below meth c H locs 0 0 (MQ below (z_Q D dA B (some (.int r)) h') args s 0 0 (fun q => B ≤ q)) (F0 m 15 ls []) := by
  have hx := z_hx X
  have hb := z_hb X
  intro v0 h H locs ls hI hl hf
  unfold f_Pr_readStar_15 at hf
  refine lv_aload_n hx hb d_Pr_readStar_15 rfl (lv_at hl 0 rfl) ?_
  obtain ⟨x1, ex1, hf⟩ := z_bs hf
  refine z_getF X hI (k := 0) (ci := 8) (gR_s ex1) i_Pr rfl (by decide) wf_Pr_9 d_Pr_readStar_16 ?_
  refine lv_iconst (v := 0) hx hb d_Pr_readStar_19 (by decide) ?_
  obtain ⟨u2, eu2, hf⟩ := z_bs hf
  obtain ⟨r3, er3, hf⟩ := z_bs hf
  refine z_callV (As := [.int 0]) (rest := []) (r := (some (.int r3.1))) (h' := r3.2) X hI eu2 (s_Cur_refuse er3) rfl rfl wm_Pr_51 yi_Cur_refuse rfl hl.1 rfl (Nat.le_of_ble_eq_true rfl) (by decide) (by decide) d_Pr_readStar_20 (fun H locs hI => ?_)
  refine W.eq (g2 := F0 m 23 ls [.int (r3.1)]) rfl ?_
  obtain ⟨x4, ex4, hf⟩ := z_bs hf
  refine z_topi (zB_s ex4).1 ?_
  cases hf
  exact z_zret X hI (zB_s2 ex4) d_Pr_readStar_23
def f_Pr_readStar_66 (N : Nat)  (v0 : Nat) (h : z_H) : Option (Int32 × z_H) :=
  z_b (gI h v0 8 4) fun x1 =>
  z_b (sF h v0 8 4 (.int (x1 + 1))) fun h2 =>
  z_b (sF h2 v0 8 6 (.int 0)) fun h3 =>
  z_b (gR h3 v0 8 0) fun x4 =>
  z_b (gI h3 x4 2 1) fun x5 =>
  z_b (sF h3 x4 2 1 (.int (x5 + 1))) fun h6 =>
  some (1, h6)
set_option maxRecDepth 20000 in
set_option maxHeartbeats 2000000 in
theorem s_Pr_readStar_66 (X : z_X p s m args meth c prog_10_method_5_code 1 (some .boolean) Ts "StreamForge$PatternReader" D dA B) {N : Nat} {r : Int32} {h' : z_H}   : ∀ (v0 : Nat) (h : z_H) (H : Heap) (locs : List Loc) (ls : Array Slot), z_I D dA B h s.heap H locs → lv_has ls 1 [(0, .ref v0)] → f_Pr_readStar_66 N  v0 h = some (r, h') → W p l e (z_rm 1 21) s m args below meth c H locs 0 0 (MQ below (z_Q D dA B (some (.int r)) h') args s 0 0 (fun q => B ≤ q)) (F0 m 66 ls []) := by
  have hx := z_hx X
  have hb := z_hb X
  intro v0 h H locs ls hI hl hf
  unfold f_Pr_readStar_66 at hf
  refine lv_aload_n hx hb d_Pr_readStar_66 rfl (lv_at hl 0 rfl) ?_
  refine lv_dup hx hb d_Pr_readStar_67 rfl ?_
  obtain ⟨x1, ex1, hf⟩ := z_bs hf
  refine z_getF X hI (k := 4) (ci := 8) (gI_s ex1) i_Pr rfl (by decide) wf_Pr_92 d_Pr_readStar_68 ?_
  refine lv_iconst (v := 1) hx hb d_Pr_readStar_71 (by decide) ?_
  refine lv_iadd hx hb d_Pr_readStar_72 ?_
  obtain ⟨h2, eh2, hf⟩ := z_bs hf
  refine z_putF X hI (k := 4) (ci := 8) (ty0 := t_Pr) eh2 i_Pr t_Pr_ok n_Pr rfl (by decide) wf_Pr_92 rfl rfl rfl d_Pr_readStar_73 (fun H locs hI => ?_)
  refine lv_aload_n hx hb d_Pr_readStar_76 rfl (lv_at hl 0 rfl) ?_
  refine lv_iconst (v := 0) hx hb d_Pr_readStar_77 (by decide) ?_
  obtain ⟨h3, eh3, hf⟩ := z_bs hf
  refine z_putF X hI (k := 6) (ci := 8) (ty0 := t_Pr) eh3 i_Pr t_Pr_ok n_Pr rfl (by decide) wf_Pr_95 rfl rfl rfl d_Pr_readStar_78 (fun H locs hI => ?_)
  refine lv_aload_n hx hb d_Pr_readStar_81 rfl (lv_at hl 0 rfl) ?_
  obtain ⟨x4, ex4, hf⟩ := z_bs hf
  refine z_getF X hI (k := 0) (ci := 8) (gR_s ex4) i_Pr rfl (by decide) wf_Pr_9 d_Pr_readStar_82 ?_
  refine lv_dup hx hb d_Pr_readStar_85 rfl ?_
  obtain ⟨x5, ex5, hf⟩ := z_bs hf
  refine z_getF X hI (k := 1) (ci := 2) (gI_s ex5) i_Cur rfl (by decide) wf_Pr_86 d_Pr_readStar_86 ?_
  refine lv_iconst (v := 1) hx hb d_Pr_readStar_89 (by decide) ?_
  refine lv_iadd hx hb d_Pr_readStar_90 ?_
  obtain ⟨h6, eh6, hf⟩ := z_bs hf
  refine z_putF X hI (k := 1) (ci := 2) (ty0 := t_Cur) eh6 i_Cur t_Cur_ok n_Cur rfl (by decide) wf_Pr_86 rfl rfl rfl d_Pr_readStar_91 (fun H locs hI => ?_)
  refine lv_iconst (v := 1) hx hb d_Pr_readStar_94 (by decide) ?_
  cases hf
  exact z_zret X hI (Or.inr rfl) d_Pr_readStar_95
def f_Pr_readStar (N : Nat) (v0 : Nat) (h : z_H) : Option (Int32 × z_H) :=
  z_b (gI h v0 8 6) fun x1 =>
  if x1 = 0 then
  (f_Pr_readStar_15 N v0 h)
  else
  (z_b (gI h v0 8 4) fun x3 =>
  if x3 = 2 then
  (f_Pr_readStar_15 N v0 h)
  else
  (z_b (gI h v0 8 4) fun x5 =>
  if x5 = 0 then
  (z_b (gR h v0 8 2) fun x11 =>
  z_b (gR h v0 8 1) fun x12 =>
  z_b (gI h x12 4 4) fun x13 =>
  z_b (sF h x11 7 4 (.int (x13 - 1))) fun h14 =>
  f_Pr_readStar_66 N v0 h14)
  else
  (z_b (gR h v0 8 2) fun x7 =>
  z_b (gR h v0 8 1) fun x8 =>
  z_b (gI h x8 4 4) fun x9 =>
  z_b (sF h x7 7 5 (.int (x9 - 1))) fun h10 =>
  f_Pr_readStar_66 N v0 h10)))
set_option maxRecDepth 20000 in
set_option maxHeartbeats 2000000 in
theorem s_Pr_readStar {l : Launch} {D : va_G} {dA : Nat → ClassId} {B N : Nat} {v0 : Nat} {h h' : z_H} {r : Int32} (hf : f_Pr_readStar N v0 h = some (r, h')) : z_Met l y_Pr_readStar prog_10_method_5_code 1 (some .boolean) 1 21 D dA B [.ref v0] h (some (.int r)) h' := by
  refine z_of (by decide) (Nat.le_of_ble_eq_true rfl) (fun p e s m below meth c ls X hI hl => ?_)
  have hx := z_hx X
  have hb := z_hb X
  have hl : lv_has ls 1 [(0, .ref v0)] := hl
  unfold f_Pr_readStar at hf
  obtain ⟨locs, hlo⟩ : ∃ z : List Loc, z = [] := ⟨_, rfl⟩
  rw [← hlo] at hI ⊢
  refine lv_aload_n hx hb d_Pr_readStar_0 rfl (lv_at hl 0 rfl) ?_
  obtain ⟨x1, ex1, hf⟩ := z_bs hf
  refine z_getF X hI (k := 6) (ci := 8) (gI_s ex1) i_Pr rfl (by decide) wf_Pr_95 d_Pr_readStar_1 ?_
  refine lv_if_eq (tgt := 15) hx hb d_Pr_readStar_4 (by decide) (fun c2 => ?_) (fun c2 => ?_)
  · rw [if_pos c2] at hf
    exact s_Pr_readStar_15 X  v0 h _ _ _ hI (lv_sub hl [0] rfl) hf
  · rw [if_neg c2] at hf
    refine lv_aload_n hx hb d_Pr_readStar_7 rfl (lv_at hl 0 rfl) ?_
    obtain ⟨x3, ex3, hf⟩ := z_bs hf
    refine z_getF X hI (k := 4) (ci := 8) (gI_s ex3) i_Pr rfl (by decide) wf_Pr_92 d_Pr_readStar_8 ?_
    refine lv_iconst (v := 2) hx hb d_Pr_readStar_11 (by decide) ?_
    refine lv_icmp_ne (tgt := 24) hx hb d_Pr_readStar_12 (by decide) (fun c4 => ?_) (fun c4 => ?_)
    · rw [if_neg c4] at hf
      refine lv_aload_n hx hb d_Pr_readStar_24 rfl (lv_at hl 0 rfl) ?_
      obtain ⟨x5, ex5, hf⟩ := z_bs hf
      refine z_getF X hI (k := 4) (ci := 8) (gI_s ex5) i_Pr rfl (by decide) wf_Pr_92 d_Pr_readStar_25 ?_
      refine lv_if_ne (tgt := 50) hx hb d_Pr_readStar_28 (by decide) (fun c6 => ?_) (fun c6 => ?_)
      · rw [if_neg c6] at hf
        refine lv_aload_n hx hb d_Pr_readStar_50 rfl (lv_at hl 0 rfl) ?_
        obtain ⟨x7, ex7, hf⟩ := z_bs hf
        refine z_getF X hI (k := 2) (ci := 8) (gR_s ex7) i_Pr rfl (by decide) wf_Pr_58 d_Pr_readStar_51 ?_
        refine lv_aload_n hx hb d_Pr_readStar_54 rfl (lv_at hl 0 rfl) ?_
        obtain ⟨x8, ex8, hf⟩ := z_bs hf
        refine z_getF X hI (k := 1) (ci := 8) (gR_s ex8) i_Pr rfl (by decide) wf_Pr_62 d_Pr_readStar_55 ?_
        obtain ⟨x9, ex9, hf⟩ := z_bs hf
        refine z_getF X hI (k := 4) (ci := 4) (gI_s ex9) i_It rfl (by decide) wf_Pr_66 d_Pr_readStar_58 ?_
        refine lv_iconst (v := 1) hx hb d_Pr_readStar_61 (by decide) ?_
        refine lv_isub hx hb d_Pr_readStar_62 ?_
        obtain ⟨h10, eh10, hf⟩ := z_bs hf
        refine z_putF X hI (k := 5) (ci := 7) (ty0 := t_Pt) eh10 i_Pt t_Pt_ok n_Pt rfl (by decide) wf_Pr_104 rfl rfl rfl d_Pr_readStar_63 (fun H locs hI => ?_)
        exact s_Pr_readStar_66 X  v0 h10 _ _ _ hI (lv_sub hl [0] rfl) hf
      · rw [if_pos c6] at hf
        refine lv_aload_n hx hb d_Pr_readStar_31 rfl (lv_at hl 0 rfl) ?_
        obtain ⟨x11, ex11, hf⟩ := z_bs hf
        refine z_getF X hI (k := 2) (ci := 8) (gR_s ex11) i_Pr rfl (by decide) wf_Pr_58 d_Pr_readStar_32 ?_
        refine lv_aload_n hx hb d_Pr_readStar_35 rfl (lv_at hl 0 rfl) ?_
        obtain ⟨x12, ex12, hf⟩ := z_bs hf
        refine z_getF X hI (k := 1) (ci := 8) (gR_s ex12) i_Pr rfl (by decide) wf_Pr_62 d_Pr_readStar_36 ?_
        obtain ⟨x13, ex13, hf⟩ := z_bs hf
        refine z_getF X hI (k := 4) (ci := 4) (gI_s ex13) i_It rfl (by decide) wf_Pr_66 d_Pr_readStar_39 ?_
        refine lv_iconst (v := 1) hx hb d_Pr_readStar_42 (by decide) ?_
        refine lv_isub hx hb d_Pr_readStar_43 ?_
        obtain ⟨h14, eh14, hf⟩ := z_bs hf
        refine z_putF X hI (k := 4) (ci := 7) (ty0 := t_Pt) eh14 i_Pt t_Pt_ok n_Pt rfl (by decide) wf_Pr_101 rfl rfl rfl d_Pr_readStar_44 (fun H locs hI => ?_)
        refine lv_goto (tgt := 66) hx hb d_Pr_readStar_47 (by decide) ?_
        exact s_Pr_readStar_66 X  v0 h14 _ _ _ hI (lv_sub hl [0] rfl) hf
    · rw [if_pos c4] at hf
      exact s_Pr_readStar_15 X  v0 h _ _ _ hI (lv_sub hl [0] rfl) hf
def f_Pr_mayEscape (N : Nat) (v0 : Nat) (h : z_H) : Option (Int32 × z_H) :=
  z_b (gI h v0 8 3) fun x1 =>
  if x1 < 14 then
  (some (1, h))
  else
  (z_b (gI h v0 8 5) fun x3 =>
  if x3 = 0 then
  (z_b (gR h v0 8 2) fun x5 =>
  z_b (gI h x5 7 6) fun x6 =>
  if 3 ≤ x6 then
  (some (0, h))
  else
  (some (1, h)))
  else
  (some (1, h)))
set_option maxRecDepth 20000 in
set_option maxHeartbeats 2000000 in
theorem s_Pr_mayEscape {l : Launch} {D : va_G} {dA : Nat → ClassId} {B N : Nat} {v0 : Nat} {h h' : z_H} {r : Int32} (hf : f_Pr_mayEscape N v0 h = some (r, h')) : z_Met l y_Pr_mayEscape prog_10_method_11_code 1 (some .boolean) 0 0 D dA B [.ref v0] h (some (.int r)) h' := by
  refine z_of (by decide) (Nat.le_of_ble_eq_true rfl) (fun p e s m below meth c ls X hI hl => ?_)
  have hx := z_hx X
  have hb := z_hb X
  have hl : lv_has ls 1 [(0, .ref v0)] := hl
  unfold f_Pr_mayEscape at hf
  obtain ⟨locs, hlo⟩ : ∃ z : List Loc, z = [] := ⟨_, rfl⟩
  rw [← hlo] at hI ⊢
  refine lv_aload_n hx hb d_Pr_mayEscape_0 rfl (lv_at hl 0 rfl) ?_
  obtain ⟨x1, ex1, hf⟩ := z_bs hf
  refine z_getF X hI (k := 3) (ci := 8) (gI_s ex1) i_Pr rfl (by decide) wf_Pr_89 d_Pr_mayEscape_1 ?_
  refine lv_bipush (v := 14) hx hb d_Pr_mayEscape_4 (by decide) ?_
  refine lv_icmp_lt (tgt := 27) hx hb d_Pr_mayEscape_6 (by decide) (fun c2 => ?_) (fun c2 => ?_)
  · rw [if_pos c2] at hf
    refine lv_iconst (v := 1) hx hb d_Pr_mayEscape_27 (by decide) ?_
    refine lv_goto (tgt := 32) hx hb d_Pr_mayEscape_28 (by decide) ?_
    cases hf
    exact z_zret X hI (Or.inr rfl) d_Pr_mayEscape_32
  · rw [if_neg c2] at hf
    refine lv_aload_n hx hb d_Pr_mayEscape_9 rfl (lv_at hl 0 rfl) ?_
    obtain ⟨x3, ex3, hf⟩ := z_bs hf
    refine z_getF X hI (k := 5) (ci := 8) (gI_s ex3) i_Pr rfl (by decide) wf_Pr_47 d_Pr_mayEscape_10 ?_
    refine lv_if_ne (tgt := 27) hx hb d_Pr_mayEscape_13 (by decide) (fun c4 => ?_) (fun c4 => ?_)
    · rw [if_neg c4] at hf
      refine lv_iconst (v := 1) hx hb d_Pr_mayEscape_27 (by decide) ?_
      refine lv_goto (tgt := 32) hx hb d_Pr_mayEscape_28 (by decide) ?_
      cases hf
      exact z_zret X hI (Or.inr rfl) d_Pr_mayEscape_32
    · rw [if_pos c4] at hf
      refine lv_aload_n hx hb d_Pr_mayEscape_16 rfl (lv_at hl 0 rfl) ?_
      obtain ⟨x5, ex5, hf⟩ := z_bs hf
      refine z_getF X hI (k := 2) (ci := 8) (gR_s ex5) i_Pr rfl (by decide) wf_Pr_58 d_Pr_mayEscape_17 ?_
      obtain ⟨x6, ex6, hf⟩ := z_bs hf
      refine z_getF X hI (k := 6) (ci := 7) (gI_s ex6) i_Pt rfl (by decide) wf_Pr_77 d_Pr_mayEscape_20 ?_
      refine lv_iconst (v := 3) hx hb d_Pr_mayEscape_23 (by decide) ?_
      refine lv_icmp_ge (tgt := 31) hx hb d_Pr_mayEscape_24 (by decide) (fun c7 => ?_) (fun c7 => ?_)
      · rw [if_pos c7] at hf
        refine lv_iconst (v := 0) hx hb d_Pr_mayEscape_31 (by decide) ?_
        cases hf
        exact z_zret X hI (Or.inl rfl) d_Pr_mayEscape_32
      · rw [if_neg c7] at hf
        refine lv_iconst (v := 1) hx hb d_Pr_mayEscape_27 (by decide) ?_
        refine lv_goto (tgt := 32) hx hb d_Pr_mayEscape_28 (by decide) ?_
        cases hf
        exact z_zret X hI (Or.inr rfl) d_Pr_mayEscape_32
def f_Pr_openGroup_18 (N : Nat)  (v0 : Nat) (h : z_H) : Option (Int32 × z_H) :=
  z_b (gR h v0 8 0) fun x1 =>
  z_b (gO h x1 2) fun u2 =>
  z_b (f_Cur_refuse N x1 0 h) fun r3 =>
  z_b (zB (r3.1)) fun x4 =>
  some (x4, r3.2)
set_option maxRecDepth 20000 in
set_option maxHeartbeats 2000000 in
theorem s_Pr_openGroup_18 (X : z_X p s m args meth c prog_10_method_12_code 1 (some .boolean) Ts "StreamForge$PatternReader" D dA B) {N : Nat} {r : Int32} {h' : z_H}   : ∀ (v0 : Nat) (h : z_H) (H : Heap) (locs : List Loc) (ls : Array Slot), z_I D dA B h s.heap H locs → lv_has ls 1 [(0, .ref v0)] → f_Pr_openGroup_18 N  v0 h = some (r, h') → W p l e (z_rm 1 22) s m args below meth c H locs 0 0 (MQ below (z_Q D dA B (some (.int r)) h') args s 0 0 (fun q => B ≤ q)) (F0 m 18 ls []) := by
  have hx := z_hx X
  have hb := z_hb X
  intro v0 h H locs ls hI hl hf
  unfold f_Pr_openGroup_18 at hf
  refine lv_aload_n hx hb d_Pr_openGroup_18 rfl (lv_at hl 0 rfl) ?_
  obtain ⟨x1, ex1, hf⟩ := z_bs hf
  refine z_getF X hI (k := 0) (ci := 8) (gR_s ex1) i_Pr rfl (by decide) wf_Pr_9 d_Pr_openGroup_19 ?_
  refine lv_iconst (v := 0) hx hb d_Pr_openGroup_22 (by decide) ?_
  obtain ⟨u2, eu2, hf⟩ := z_bs hf
  obtain ⟨r3, er3, hf⟩ := z_bs hf
  refine z_callV (As := [.int 0]) (rest := []) (r := (some (.int r3.1))) (h' := r3.2) X hI eu2 (s_Cur_refuse er3) rfl rfl wm_Pr_51 yi_Cur_refuse rfl hl.1 rfl (Nat.le_of_ble_eq_true rfl) (by decide) (by decide) d_Pr_openGroup_23 (fun H locs hI => ?_)
  refine W.eq (g2 := F0 m 26 ls [.int (r3.1)]) rfl ?_
  obtain ⟨x4, ex4, hf⟩ := z_bs hf
  refine z_topi (zB_s ex4).1 ?_
  cases hf
  exact z_zret X hI (zB_s2 ex4) d_Pr_openGroup_26
def f_Pr_openGroup (N : Nat) (v0 : Nat) (h : z_H) : Option (Int32 × z_H) :=
  z_b (gI h v0 8 5) fun x1 =>
  if x1 = 0 then
  (z_b (gR h v0 8 2) fun x3 =>
  z_b (gI h x3 7 6) fun x4 =>
  if x4 = 3 then
  (f_Pr_openGroup_18 N v0 h)
  else
  (z_b (gR h v0 8 2) fun x6 =>
  z_b (gI h x6 7 6) fun x7 =>
  z_b (sF h x6 7 6 (.int (x7 + 1))) fun h8 =>
  z_b (sF h8 v0 8 5 (.int 1)) fun h9 =>
  z_b (sF h9 v0 8 6 (.int 0)) fun h10 =>
  z_b (gR h10 v0 8 1) fun x11 =>
  z_b (gR h10 v0 8 2) fun x12 =>
  z_b (gI h10 x12 7 6) fun x13 =>
  z_b (gO h10 x11 4) fun u14 =>
  z_b (f_It_add N x11 1 x13 h10) fun r15 =>
  z_b (gR r15 v0 8 0) fun x16 =>
  z_b (gI r15 x16 2 1) fun x17 =>
  z_b (sF r15 x16 2 1 (.int (x17 + 2))) fun h18 =>
  some (1, h18)))
  else
  (f_Pr_openGroup_18 N v0 h)
set_option maxRecDepth 20000 in
set_option maxHeartbeats 2000000 in
theorem s_Pr_openGroup {l : Launch} {D : va_G} {dA : Nat → ClassId} {B N : Nat} {v0 : Nat} {h h' : z_H} {r : Int32} (hf : f_Pr_openGroup N v0 h = some (r, h')) : z_Met l y_Pr_openGroup prog_10_method_12_code 1 (some .boolean) 1 22 D dA B [.ref v0] h (some (.int r)) h' := by
  refine z_of (by decide) (Nat.le_of_ble_eq_true rfl) (fun p e s m below meth c ls X hI hl => ?_)
  have hx := z_hx X
  have hb := z_hb X
  have hl : lv_has ls 1 [(0, .ref v0)] := hl
  unfold f_Pr_openGroup at hf
  obtain ⟨locs, hlo⟩ : ∃ z : List Loc, z = [] := ⟨_, rfl⟩
  rw [← hlo] at hI ⊢
  refine lv_aload_n hx hb d_Pr_openGroup_0 rfl (lv_at hl 0 rfl) ?_
  obtain ⟨x1, ex1, hf⟩ := z_bs hf
  refine z_getF X hI (k := 5) (ci := 8) (gI_s ex1) i_Pr rfl (by decide) wf_Pr_47 d_Pr_openGroup_1 ?_
  refine lv_if_ne (tgt := 18) hx hb d_Pr_openGroup_4 (by decide) (fun c2 => ?_) (fun c2 => ?_)
  · rw [if_neg c2] at hf
    exact s_Pr_openGroup_18 X  v0 h _ _ _ hI (lv_sub hl [0] rfl) hf
  · rw [if_pos c2] at hf
    refine lv_aload_n hx hb d_Pr_openGroup_7 rfl (lv_at hl 0 rfl) ?_
    obtain ⟨x3, ex3, hf⟩ := z_bs hf
    refine z_getF X hI (k := 2) (ci := 8) (gR_s ex3) i_Pr rfl (by decide) wf_Pr_58 d_Pr_openGroup_8 ?_
    obtain ⟨x4, ex4, hf⟩ := z_bs hf
    refine z_getF X hI (k := 6) (ci := 7) (gI_s ex4) i_Pt rfl (by decide) wf_Pr_77 d_Pr_openGroup_11 ?_
    refine lv_iconst (v := 3) hx hb d_Pr_openGroup_14 (by decide) ?_
    refine lv_icmp_ne (tgt := 27) hx hb d_Pr_openGroup_15 (by decide) (fun c5 => ?_) (fun c5 => ?_)
    · rw [if_neg c5] at hf
      refine lv_aload_n hx hb d_Pr_openGroup_27 rfl (lv_at hl 0 rfl) ?_
      obtain ⟨x6, ex6, hf⟩ := z_bs hf
      refine z_getF X hI (k := 2) (ci := 8) (gR_s ex6) i_Pr rfl (by decide) wf_Pr_58 d_Pr_openGroup_28 ?_
      refine lv_dup hx hb d_Pr_openGroup_31 rfl ?_
      obtain ⟨x7, ex7, hf⟩ := z_bs hf
      refine z_getF X hI (k := 6) (ci := 7) (gI_s ex7) i_Pt rfl (by decide) wf_Pr_77 d_Pr_openGroup_32 ?_
      refine lv_iconst (v := 1) hx hb d_Pr_openGroup_35 (by decide) ?_
      refine lv_iadd hx hb d_Pr_openGroup_36 ?_
      obtain ⟨h8, eh8, hf⟩ := z_bs hf
      refine z_putF X hI (k := 6) (ci := 7) (ty0 := t_Pt) eh8 i_Pt t_Pt_ok n_Pt rfl (by decide) wf_Pr_77 rfl rfl rfl d_Pr_openGroup_37 (fun H locs hI => ?_)
      refine lv_aload_n hx hb d_Pr_openGroup_40 rfl (lv_at hl 0 rfl) ?_
      refine lv_iconst (v := 1) hx hb d_Pr_openGroup_41 (by decide) ?_
      obtain ⟨h9, eh9, hf⟩ := z_bs hf
      refine z_putF X hI (k := 5) (ci := 8) (ty0 := t_Pr) eh9 i_Pr t_Pr_ok n_Pr rfl (by decide) wf_Pr_47 rfl rfl rfl d_Pr_openGroup_42 (fun H locs hI => ?_)
      refine lv_aload_n hx hb d_Pr_openGroup_45 rfl (lv_at hl 0 rfl) ?_
      refine lv_iconst (v := 0) hx hb d_Pr_openGroup_46 (by decide) ?_
      obtain ⟨h10, eh10, hf⟩ := z_bs hf
      refine z_putF X hI (k := 6) (ci := 8) (ty0 := t_Pr) eh10 i_Pr t_Pr_ok n_Pr rfl (by decide) wf_Pr_95 rfl rfl rfl d_Pr_openGroup_47 (fun H locs hI => ?_)
      refine lv_aload_n hx hb d_Pr_openGroup_50 rfl (lv_at hl 0 rfl) ?_
      obtain ⟨x11, ex11, hf⟩ := z_bs hf
      refine z_getF X hI (k := 1) (ci := 8) (gR_s ex11) i_Pr rfl (by decide) wf_Pr_62 d_Pr_openGroup_51 ?_
      refine lv_iconst (v := 1) hx hb d_Pr_openGroup_54 (by decide) ?_
      refine lv_aload_n hx hb d_Pr_openGroup_55 rfl (lv_at hl 0 rfl) ?_
      obtain ⟨x12, ex12, hf⟩ := z_bs hf
      refine z_getF X hI (k := 2) (ci := 8) (gR_s ex12) i_Pr rfl (by decide) wf_Pr_58 d_Pr_openGroup_56 ?_
      obtain ⟨x13, ex13, hf⟩ := z_bs hf
      refine z_getF X hI (k := 6) (ci := 7) (gI_s ex13) i_Pt rfl (by decide) wf_Pr_77 d_Pr_openGroup_59 ?_
      obtain ⟨u14, eu14, hf⟩ := z_bs hf
      obtain ⟨r15, er15, hf⟩ := z_bs hf
      refine z_callV (As := [.int 1, .int x13]) (rest := []) (r := none) (h' := r15) X hI eu14 (s_It_add er15) rfl rfl wm_Pr_117 yi_It_add rfl hl.1 rfl (Nat.le_of_ble_eq_true rfl) (by decide) (by decide) d_Pr_openGroup_62 (fun H locs hI => ?_)
      refine W.eq (g2 := F0 m 65 ls []) rfl ?_
      refine lv_aload_n hx hb d_Pr_openGroup_65 rfl (lv_at hl 0 rfl) ?_
      obtain ⟨x16, ex16, hf⟩ := z_bs hf
      refine z_getF X hI (k := 0) (ci := 8) (gR_s ex16) i_Pr rfl (by decide) wf_Pr_9 d_Pr_openGroup_66 ?_
      refine lv_dup hx hb d_Pr_openGroup_69 rfl ?_
      obtain ⟨x17, ex17, hf⟩ := z_bs hf
      refine z_getF X hI (k := 1) (ci := 2) (gI_s ex17) i_Cur rfl (by decide) wf_Pr_86 d_Pr_openGroup_70 ?_
      refine lv_iconst (v := 2) hx hb d_Pr_openGroup_73 (by decide) ?_
      refine lv_iadd hx hb d_Pr_openGroup_74 ?_
      obtain ⟨h18, eh18, hf⟩ := z_bs hf
      refine z_putF X hI (k := 1) (ci := 2) (ty0 := t_Cur) eh18 i_Cur t_Cur_ok n_Cur rfl (by decide) wf_Pr_86 rfl rfl rfl d_Pr_openGroup_75 (fun H locs hI => ?_)
      refine lv_iconst (v := 1) hx hb d_Pr_openGroup_78 (by decide) ?_
      cases hf
      exact z_zret X hI (Or.inr rfl) d_Pr_openGroup_79
    · rw [if_pos c5] at hf
      exact s_Pr_openGroup_18 X  v0 h _ _ _ hI (lv_sub hl [0] rfl) hf
def f_Pr_closeGroup (N : Nat) (v0 : Nat) (h : z_H) : Option (Int32 × z_H) :=
  z_b (gI h v0 8 5) fun x1 =>
  if x1 = 0 then
  (z_b (gR h v0 8 0) fun x13 =>
  z_b (gO h x13 2) fun u14 =>
  z_b (f_Cur_refuse N x13 0 h) fun r15 =>
  z_b (zB (r15.1)) fun x16 =>
  some (x16, r15.2))
  else
  (z_b (sF h v0 8 5 (.int 0)) fun h3 =>
  z_b (sF h3 v0 8 6 (.int 0)) fun h4 =>
  z_b (gR h4 v0 8 1) fun x5 =>
  z_b (gR h4 v0 8 2) fun x6 =>
  z_b (gI h4 x6 7 6) fun x7 =>
  z_b (gO h4 x5 4) fun u8 =>
  z_b (f_It_add N x5 2 x7 h4) fun r9 =>
  z_b (gR r9 v0 8 0) fun x10 =>
  z_b (gI r9 x10 2 1) fun x11 =>
  z_b (sF r9 x10 2 1 (.int (x11 + 2))) fun h12 =>
  some (1, h12))
set_option maxRecDepth 20000 in
set_option maxHeartbeats 2000000 in
theorem s_Pr_closeGroup {l : Launch} {D : va_G} {dA : Nat → ClassId} {B N : Nat} {v0 : Nat} {h h' : z_H} {r : Int32} (hf : f_Pr_closeGroup N v0 h = some (r, h')) : z_Met l y_Pr_closeGroup prog_10_method_13_code 1 (some .boolean) 1 22 D dA B [.ref v0] h (some (.int r)) h' := by
  refine z_of (by decide) (Nat.le_of_ble_eq_true rfl) (fun p e s m below meth c ls X hI hl => ?_)
  have hx := z_hx X
  have hb := z_hb X
  have hl : lv_has ls 1 [(0, .ref v0)] := hl
  unfold f_Pr_closeGroup at hf
  obtain ⟨locs, hlo⟩ : ∃ z : List Loc, z = [] := ⟨_, rfl⟩
  rw [← hlo] at hI ⊢
  refine lv_aload_n hx hb d_Pr_closeGroup_0 rfl (lv_at hl 0 rfl) ?_
  obtain ⟨x1, ex1, hf⟩ := z_bs hf
  refine z_getF X hI (k := 5) (ci := 8) (gI_s ex1) i_Pr rfl (by decide) wf_Pr_47 d_Pr_closeGroup_1 ?_
  refine lv_if_ne (tgt := 16) hx hb d_Pr_closeGroup_4 (by decide) (fun c2 => ?_) (fun c2 => ?_)
  · rw [if_neg c2] at hf
    refine lv_aload_n hx hb d_Pr_closeGroup_16 rfl (lv_at hl 0 rfl) ?_
    refine lv_iconst (v := 0) hx hb d_Pr_closeGroup_17 (by decide) ?_
    obtain ⟨h3, eh3, hf⟩ := z_bs hf
    refine z_putF X hI (k := 5) (ci := 8) (ty0 := t_Pr) eh3 i_Pr t_Pr_ok n_Pr rfl (by decide) wf_Pr_47 rfl rfl rfl d_Pr_closeGroup_18 (fun H locs hI => ?_)
    refine lv_aload_n hx hb d_Pr_closeGroup_21 rfl (lv_at hl 0 rfl) ?_
    refine lv_iconst (v := 0) hx hb d_Pr_closeGroup_22 (by decide) ?_
    obtain ⟨h4, eh4, hf⟩ := z_bs hf
    refine z_putF X hI (k := 6) (ci := 8) (ty0 := t_Pr) eh4 i_Pr t_Pr_ok n_Pr rfl (by decide) wf_Pr_95 rfl rfl rfl d_Pr_closeGroup_23 (fun H locs hI => ?_)
    refine lv_aload_n hx hb d_Pr_closeGroup_26 rfl (lv_at hl 0 rfl) ?_
    obtain ⟨x5, ex5, hf⟩ := z_bs hf
    refine z_getF X hI (k := 1) (ci := 8) (gR_s ex5) i_Pr rfl (by decide) wf_Pr_62 d_Pr_closeGroup_27 ?_
    refine lv_iconst (v := 2) hx hb d_Pr_closeGroup_30 (by decide) ?_
    refine lv_aload_n hx hb d_Pr_closeGroup_31 rfl (lv_at hl 0 rfl) ?_
    obtain ⟨x6, ex6, hf⟩ := z_bs hf
    refine z_getF X hI (k := 2) (ci := 8) (gR_s ex6) i_Pr rfl (by decide) wf_Pr_58 d_Pr_closeGroup_32 ?_
    obtain ⟨x7, ex7, hf⟩ := z_bs hf
    refine z_getF X hI (k := 6) (ci := 7) (gI_s ex7) i_Pt rfl (by decide) wf_Pr_77 d_Pr_closeGroup_35 ?_
    obtain ⟨u8, eu8, hf⟩ := z_bs hf
    obtain ⟨r9, er9, hf⟩ := z_bs hf
    refine z_callV (As := [.int 2, .int x7]) (rest := []) (r := none) (h' := r9) X hI eu8 (s_It_add er9) rfl rfl wm_Pr_117 yi_It_add rfl hl.1 rfl (Nat.le_of_ble_eq_true rfl) (by decide) (by decide) d_Pr_closeGroup_38 (fun H locs hI => ?_)
    refine W.eq (g2 := F0 m 41 ls []) rfl ?_
    refine lv_aload_n hx hb d_Pr_closeGroup_41 rfl (lv_at hl 0 rfl) ?_
    obtain ⟨x10, ex10, hf⟩ := z_bs hf
    refine z_getF X hI (k := 0) (ci := 8) (gR_s ex10) i_Pr rfl (by decide) wf_Pr_9 d_Pr_closeGroup_42 ?_
    refine lv_dup hx hb d_Pr_closeGroup_45 rfl ?_
    obtain ⟨x11, ex11, hf⟩ := z_bs hf
    refine z_getF X hI (k := 1) (ci := 2) (gI_s ex11) i_Cur rfl (by decide) wf_Pr_86 d_Pr_closeGroup_46 ?_
    refine lv_iconst (v := 2) hx hb d_Pr_closeGroup_49 (by decide) ?_
    refine lv_iadd hx hb d_Pr_closeGroup_50 ?_
    obtain ⟨h12, eh12, hf⟩ := z_bs hf
    refine z_putF X hI (k := 1) (ci := 2) (ty0 := t_Cur) eh12 i_Cur t_Cur_ok n_Cur rfl (by decide) wf_Pr_86 rfl rfl rfl d_Pr_closeGroup_51 (fun H locs hI => ?_)
    refine lv_iconst (v := 1) hx hb d_Pr_closeGroup_54 (by decide) ?_
    cases hf
    exact z_zret X hI (Or.inr rfl) d_Pr_closeGroup_55
  · rw [if_pos c2] at hf
    refine lv_aload_n hx hb d_Pr_closeGroup_7 rfl (lv_at hl 0 rfl) ?_
    obtain ⟨x13, ex13, hf⟩ := z_bs hf
    refine z_getF X hI (k := 0) (ci := 8) (gR_s ex13) i_Pr rfl (by decide) wf_Pr_9 d_Pr_closeGroup_8 ?_
    refine lv_iconst (v := 0) hx hb d_Pr_closeGroup_11 (by decide) ?_
    obtain ⟨u14, eu14, hf⟩ := z_bs hf
    obtain ⟨r15, er15, hf⟩ := z_bs hf
    refine z_callV (As := [.int 0]) (rest := []) (r := (some (.int r15.1))) (h' := r15.2) X hI eu14 (s_Cur_refuse er15) rfl rfl wm_Pr_51 yi_Cur_refuse rfl hl.1 rfl (Nat.le_of_ble_eq_true rfl) (by decide) (by decide) d_Pr_closeGroup_12 (fun H locs hI => ?_)
    refine W.eq (g2 := F0 m 15 ls [.int (r15.1)]) rfl ?_
    obtain ⟨x16, ex16, hf⟩ := z_bs hf
    refine z_topi (zB_s ex16).1 ?_
    cases hf
    exact z_zret X hI (zB_s2 ex16) d_Pr_closeGroup_15
def f_Pr_readSame_41 (N : Nat)  (v0 : Nat) (h : z_H) : Option (Int32 × z_H) :=
  z_b (gR h v0 8 0) fun x1 =>
  z_b (gO h x1 2) fun u2 =>
  z_b (f_Cur_refuse N x1 0 h) fun r3 =>
  z_b (zB (r3.1)) fun x4 =>
  some (x4, r3.2)
set_option maxRecDepth 20000 in
set_option maxHeartbeats 2000000 in
theorem s_Pr_readSame_41 (X : z_X p s m args meth c prog_10_method_14_code 3 (some .boolean) Ts "StreamForge$PatternReader" D dA B) {N : Nat} {r : Int32} {h' : z_H}   : ∀ (v0 : Nat) (h : z_H) (H : Heap) (locs : List Loc) (ls : Array Slot), z_I D dA B h s.heap H locs → lv_has ls 3 [(0, .ref v0)] → f_Pr_readSame_41 N  v0 h = some (r, h') → W p l e (z_rm 1 22) s m args below meth c H locs 0 0 (MQ below (z_Q D dA B (some (.int r)) h') args s 0 0 (fun q => B ≤ q)) (F0 m 41 ls []) := by
  have hx := z_hx X
  have hb := z_hb X
  intro v0 h H locs ls hI hl hf
  unfold f_Pr_readSame_41 at hf
  refine lv_aload_n hx hb d_Pr_readSame_41 rfl (lv_at hl 0 rfl) ?_
  obtain ⟨x1, ex1, hf⟩ := z_bs hf
  refine z_getF X hI (k := 0) (ci := 8) (gR_s ex1) i_Pr rfl (by decide) wf_Pr_9 d_Pr_readSame_42 ?_
  refine lv_iconst (v := 0) hx hb d_Pr_readSame_45 (by decide) ?_
  obtain ⟨u2, eu2, hf⟩ := z_bs hf
  obtain ⟨r3, er3, hf⟩ := z_bs hf
  refine z_callV (As := [.int 0]) (rest := []) (r := (some (.int r3.1))) (h' := r3.2) X hI eu2 (s_Cur_refuse er3) rfl rfl wm_Pr_51 yi_Cur_refuse rfl hl.1 rfl (Nat.le_of_ble_eq_true rfl) (by decide) (by decide) d_Pr_readSame_46 (fun H locs hI => ?_)
  refine W.eq (g2 := F0 m 49 ls [.int (r3.1)]) rfl ?_
  obtain ⟨x4, ex4, hf⟩ := z_bs hf
  refine z_topi (zB_s ex4).1 ?_
  cases hf
  exact z_zret X hI (zB_s2 ex4) d_Pr_readSame_49
def f_Pr_readSame_26 (N : Nat)  (v0 : Nat) (v1 : Int32) (s0 : Int32) (h : z_H) : Option (Int32 × z_H) :=
  if s0 < v1 then
  (f_Pr_readSame_41 N v0 h)
  else
  (z_b (gI h v0 8 3) fun x2 =>
  if x2 = 14 then
  (f_Pr_readSame_41 N v0 h)
  else
  (z_b (gI h v0 8 3) fun x4 =>
  z_b (sF h v0 8 3 (.int (x4 + 1))) fun h5 =>
  z_b (sF h5 v0 8 6 (.int 0)) fun h6 =>
  z_b (gR h6 v0 8 1) fun x7 =>
  z_b (gO h6 x7 4) fun u8 =>
  z_b (f_It_add N x7 3 v1 h6) fun r9 =>
  z_b (gR r9 v0 8 0) fun x10 =>
  z_b (gI r9 x10 2 1) fun x11 =>
  z_b (sF r9 x10 2 1 (.int (x11 + 2))) fun h12 =>
  some (1, h12)))
set_option maxRecDepth 20000 in
set_option maxHeartbeats 2000000 in
theorem s_Pr_readSame_26 (X : z_X p s m args meth c prog_10_method_14_code 3 (some .boolean) Ts "StreamForge$PatternReader" D dA B) {N : Nat} {r : Int32} {h' : z_H}   : ∀ (v0 : Nat) (v1 : Int32) (s0 : Int32) (h : z_H) (H : Heap) (locs : List Loc) (ls : Array Slot), z_I D dA B h s.heap H locs → lv_has ls 3 [(0, .ref v0), (1, .int v1)] → f_Pr_readSame_26 N  v0 v1 s0 h = some (r, h') → W p l e (z_rm 1 22) s m args below meth c H locs 0 0 (MQ below (z_Q D dA B (some (.int r)) h') args s 0 0 (fun q => B ≤ q)) (F0 m 26 ls [.int s0]) := by
  have hx := z_hx X
  have hb := z_hb X
  intro v0 v1 s0 h H locs ls hI hl hf
  unfold f_Pr_readSame_26 at hf
  refine lv_istore_n (lv' := [(2, .int s0), (0, .ref v0), (1, .int v1)]) hx hb d_Pr_readSame_26 rfl hl (by decide) rfl (fun ls hl => ?_)
  refine lv_iload_n hx hb d_Pr_readSame_27 rfl (lv_at hl 2 rfl) ?_
  refine lv_iload_n hx hb d_Pr_readSame_28 rfl (lv_at hl 0 rfl) ?_
  refine lv_icmp_gt (tgt := 41) hx hb d_Pr_readSame_29 (by decide) (fun c1 => ?_) (fun c1 => ?_)
  · rw [if_pos c1] at hf
    exact s_Pr_readSame_41 X  v0 h _ _ _ hI (lv_sub hl [1] rfl) hf
  · rw [if_neg c1] at hf
    refine lv_aload_n hx hb d_Pr_readSame_32 rfl (lv_at hl 1 rfl) ?_
    obtain ⟨x2, ex2, hf⟩ := z_bs hf
    refine z_getF X hI (k := 3) (ci := 8) (gI_s ex2) i_Pr rfl (by decide) wf_Pr_89 d_Pr_readSame_33 ?_
    refine lv_bipush (v := 14) hx hb d_Pr_readSame_36 (by decide) ?_
    refine lv_icmp_ne (tgt := 50) hx hb d_Pr_readSame_38 (by decide) (fun c3 => ?_) (fun c3 => ?_)
    · rw [if_neg c3] at hf
      refine lv_aload_n hx hb d_Pr_readSame_50 rfl (lv_at hl 1 rfl) ?_
      refine lv_dup hx hb d_Pr_readSame_51 rfl ?_
      obtain ⟨x4, ex4, hf⟩ := z_bs hf
      refine z_getF X hI (k := 3) (ci := 8) (gI_s ex4) i_Pr rfl (by decide) wf_Pr_89 d_Pr_readSame_52 ?_
      refine lv_iconst (v := 1) hx hb d_Pr_readSame_55 (by decide) ?_
      refine lv_iadd hx hb d_Pr_readSame_56 ?_
      obtain ⟨h5, eh5, hf⟩ := z_bs hf
      refine z_putF X hI (k := 3) (ci := 8) (ty0 := t_Pr) eh5 i_Pr t_Pr_ok n_Pr rfl (by decide) wf_Pr_89 rfl rfl rfl d_Pr_readSame_57 (fun H locs hI => ?_)
      refine lv_aload_n hx hb d_Pr_readSame_60 rfl (lv_at hl 1 rfl) ?_
      refine lv_iconst (v := 0) hx hb d_Pr_readSame_61 (by decide) ?_
      obtain ⟨h6, eh6, hf⟩ := z_bs hf
      refine z_putF X hI (k := 6) (ci := 8) (ty0 := t_Pr) eh6 i_Pr t_Pr_ok n_Pr rfl (by decide) wf_Pr_95 rfl rfl rfl d_Pr_readSame_62 (fun H locs hI => ?_)
      refine lv_aload_n hx hb d_Pr_readSame_65 rfl (lv_at hl 1 rfl) ?_
      obtain ⟨x7, ex7, hf⟩ := z_bs hf
      refine z_getF X hI (k := 1) (ci := 8) (gR_s ex7) i_Pr rfl (by decide) wf_Pr_62 d_Pr_readSame_66 ?_
      refine lv_iconst (v := 3) hx hb d_Pr_readSame_69 (by decide) ?_
      refine lv_iload_n hx hb d_Pr_readSame_70 rfl (lv_at hl 2 rfl) ?_
      obtain ⟨u8, eu8, hf⟩ := z_bs hf
      obtain ⟨r9, er9, hf⟩ := z_bs hf
      refine z_callV (As := [.int 3, .int v1]) (rest := []) (r := none) (h' := r9) X hI eu8 (s_It_add er9) rfl rfl wm_Pr_117 yi_It_add rfl hl.1 rfl (Nat.le_of_ble_eq_true rfl) (by decide) (by decide) d_Pr_readSame_71 (fun H locs hI => ?_)
      refine W.eq (g2 := F0 m 74 ls []) rfl ?_
      refine lv_aload_n hx hb d_Pr_readSame_74 rfl (lv_at hl 1 rfl) ?_
      obtain ⟨x10, ex10, hf⟩ := z_bs hf
      refine z_getF X hI (k := 0) (ci := 8) (gR_s ex10) i_Pr rfl (by decide) wf_Pr_9 d_Pr_readSame_75 ?_
      refine lv_dup hx hb d_Pr_readSame_78 rfl ?_
      obtain ⟨x11, ex11, hf⟩ := z_bs hf
      refine z_getF X hI (k := 1) (ci := 2) (gI_s ex11) i_Cur rfl (by decide) wf_Pr_86 d_Pr_readSame_79 ?_
      refine lv_iconst (v := 2) hx hb d_Pr_readSame_82 (by decide) ?_
      refine lv_iadd hx hb d_Pr_readSame_83 ?_
      obtain ⟨h12, eh12, hf⟩ := z_bs hf
      refine z_putF X hI (k := 1) (ci := 2) (ty0 := t_Cur) eh12 i_Cur t_Cur_ok n_Cur rfl (by decide) wf_Pr_86 rfl rfl rfl d_Pr_readSame_84 (fun H locs hI => ?_)
      refine lv_iconst (v := 1) hx hb d_Pr_readSame_87 (by decide) ?_
      cases hf
      exact z_zret X hI (Or.inr rfl) d_Pr_readSame_88
    · rw [if_pos c3] at hf
      exact s_Pr_readSame_41 X  v0 h _ _ _ hI (lv_sub hl [1] rfl) hf
def f_Pr_readSame (N : Nat) (v0 : Nat) (v1 : Int32) (h : z_H) : Option (Int32 × z_H) :=
  z_b (gI h v0 8 5) fun x1 =>
  if x1 = 0 then
  (z_b (gR h v0 8 2) fun x3 =>
  z_b (gI h x3 7 6) fun x4 =>
  f_Pr_readSame_26 N v0 v1 x4 h)
  else
  (z_b (gR h v0 8 2) fun x5 =>
  z_b (gI h x5 7 6) fun x6 =>
  f_Pr_readSame_26 N v0 v1 (x6 - 1) h)
set_option maxRecDepth 20000 in
set_option maxHeartbeats 2000000 in
theorem s_Pr_readSame {l : Launch} {D : va_G} {dA : Nat → ClassId} {B N : Nat} {v0 : Nat} {v1 : Int32} {h h' : z_H} {r : Int32} (hf : f_Pr_readSame N v0 v1 h = some (r, h')) : z_Met l y_Pr_readSame prog_10_method_14_code 3 (some .boolean) 1 22 D dA B [.ref v0, .int v1] h (some (.int r)) h' := by
  refine z_of (by decide) (Nat.le_of_ble_eq_true rfl) (fun p e s m below meth c ls X hI hl => ?_)
  have hx := z_hx X
  have hb := z_hb X
  have hl : lv_has ls 3 [(0, .ref v0), (1, .int v1)] := hl
  unfold f_Pr_readSame at hf
  obtain ⟨locs, hlo⟩ : ∃ z : List Loc, z = [] := ⟨_, rfl⟩
  rw [← hlo] at hI ⊢
  refine lv_aload_n hx hb d_Pr_readSame_0 rfl (lv_at hl 0 rfl) ?_
  obtain ⟨x1, ex1, hf⟩ := z_bs hf
  refine z_getF X hI (k := 5) (ci := 8) (gI_s ex1) i_Pr rfl (by decide) wf_Pr_47 d_Pr_readSame_1 ?_
  refine lv_if_eq (tgt := 19) hx hb d_Pr_readSame_4 (by decide) (fun c2 => ?_) (fun c2 => ?_)
  · rw [if_pos c2] at hf
    refine lv_aload_n hx hb d_Pr_readSame_19 rfl (lv_at hl 0 rfl) ?_
    obtain ⟨x3, ex3, hf⟩ := z_bs hf
    refine z_getF X hI (k := 2) (ci := 8) (gR_s ex3) i_Pr rfl (by decide) wf_Pr_58 d_Pr_readSame_20 ?_
    obtain ⟨x4, ex4, hf⟩ := z_bs hf
    refine z_getF X hI (k := 6) (ci := 7) (gI_s ex4) i_Pt rfl (by decide) wf_Pr_77 d_Pr_readSame_23 ?_
    exact s_Pr_readSame_26 X  v0 v1 x4 h _ _ _ hI (lv_sub hl [0, 1] rfl) hf
  · rw [if_neg c2] at hf
    refine lv_aload_n hx hb d_Pr_readSame_7 rfl (lv_at hl 0 rfl) ?_
    obtain ⟨x5, ex5, hf⟩ := z_bs hf
    refine z_getF X hI (k := 2) (ci := 8) (gR_s ex5) i_Pr rfl (by decide) wf_Pr_58 d_Pr_readSame_8 ?_
    obtain ⟨x6, ex6, hf⟩ := z_bs hf
    refine z_getF X hI (k := 6) (ci := 7) (gI_s ex6) i_Pt rfl (by decide) wf_Pr_77 d_Pr_readSame_11 ?_
    refine lv_iconst (v := 1) hx hb d_Pr_readSame_14 (by decide) ?_
    refine lv_isub hx hb d_Pr_readSame_15 ?_
    refine lv_goto (tgt := 26) hx hb d_Pr_readSame_16 (by decide) ?_
    exact s_Pr_readSame_26 X  v0 v1 (x6 - 1) h _ _ _ hI (lv_sub hl [0, 1] rfl) hf
def f_Pr_addOne (N : Nat) (v0 : Nat) (h : z_H) : Option (Int32 × z_H) :=
  z_b (gI h v0 8 3) fun x1 =>
  if x1 = 14 then
  (z_b (gR h v0 8 0) fun x9 =>
  z_b (gO h x9 2) fun u10 =>
  z_b (f_Cur_refuse N x9 0 h) fun r11 =>
  z_b (zB (r11.1)) fun x12 =>
  some (x12, r11.2))
  else
  (z_b (gR h v0 8 1) fun x3 =>
  z_b (gO h x3 4) fun u4 =>
  z_b (f_It_add N x3 0 0 h) fun r5 =>
  z_b (gI r5 v0 8 3) fun x6 =>
  z_b (sF r5 v0 8 3 (.int (x6 + 1))) fun h7 =>
  z_b (sF h7 v0 8 6 (.int 1)) fun h8 =>
  some (1, h8))
set_option maxRecDepth 20000 in
set_option maxHeartbeats 2000000 in
theorem s_Pr_addOne {l : Launch} {D : va_G} {dA : Nat → ClassId} {B N : Nat} {v0 : Nat} {h h' : z_H} {r : Int32} (hf : f_Pr_addOne N v0 h = some (r, h')) : z_Met l y_Pr_addOne prog_10_method_9_code 1 (some .boolean) 1 22 D dA B [.ref v0] h (some (.int r)) h' := by
  refine z_of (by decide) (Nat.le_of_ble_eq_true rfl) (fun p e s m below meth c ls X hI hl => ?_)
  have hx := z_hx X
  have hb := z_hb X
  have hl : lv_has ls 1 [(0, .ref v0)] := hl
  unfold f_Pr_addOne at hf
  obtain ⟨locs, hlo⟩ : ∃ z : List Loc, z = [] := ⟨_, rfl⟩
  rw [← hlo] at hI ⊢
  refine lv_aload_n hx hb d_Pr_addOne_0 rfl (lv_at hl 0 rfl) ?_
  obtain ⟨x1, ex1, hf⟩ := z_bs hf
  refine z_getF X hI (k := 3) (ci := 8) (gI_s ex1) i_Pr rfl (by decide) wf_Pr_89 d_Pr_addOne_1 ?_
  refine lv_bipush (v := 14) hx hb d_Pr_addOne_4 (by decide) ?_
  refine lv_icmp_ne (tgt := 18) hx hb d_Pr_addOne_6 (by decide) (fun c2 => ?_) (fun c2 => ?_)
  · rw [if_neg c2] at hf
    refine lv_aload_n hx hb d_Pr_addOne_18 rfl (lv_at hl 0 rfl) ?_
    obtain ⟨x3, ex3, hf⟩ := z_bs hf
    refine z_getF X hI (k := 1) (ci := 8) (gR_s ex3) i_Pr rfl (by decide) wf_Pr_62 d_Pr_addOne_19 ?_
    refine lv_iconst (v := 0) hx hb d_Pr_addOne_22 (by decide) ?_
    refine lv_iconst (v := 0) hx hb d_Pr_addOne_23 (by decide) ?_
    obtain ⟨u4, eu4, hf⟩ := z_bs hf
    obtain ⟨r5, er5, hf⟩ := z_bs hf
    refine z_callV (As := [.int 0, .int 0]) (rest := []) (r := none) (h' := r5) X hI eu4 (s_It_add er5) rfl rfl wm_Pr_117 yi_It_add rfl hl.1 rfl (Nat.le_of_ble_eq_true rfl) (by decide) (by decide) d_Pr_addOne_24 (fun H locs hI => ?_)
    refine W.eq (g2 := F0 m 27 ls []) rfl ?_
    refine lv_aload_n hx hb d_Pr_addOne_27 rfl (lv_at hl 0 rfl) ?_
    refine lv_dup hx hb d_Pr_addOne_28 rfl ?_
    obtain ⟨x6, ex6, hf⟩ := z_bs hf
    refine z_getF X hI (k := 3) (ci := 8) (gI_s ex6) i_Pr rfl (by decide) wf_Pr_89 d_Pr_addOne_29 ?_
    refine lv_iconst (v := 1) hx hb d_Pr_addOne_32 (by decide) ?_
    refine lv_iadd hx hb d_Pr_addOne_33 ?_
    obtain ⟨h7, eh7, hf⟩ := z_bs hf
    refine z_putF X hI (k := 3) (ci := 8) (ty0 := t_Pr) eh7 i_Pr t_Pr_ok n_Pr rfl (by decide) wf_Pr_89 rfl rfl rfl d_Pr_addOne_34 (fun H locs hI => ?_)
    refine lv_aload_n hx hb d_Pr_addOne_37 rfl (lv_at hl 0 rfl) ?_
    refine lv_iconst (v := 1) hx hb d_Pr_addOne_38 (by decide) ?_
    obtain ⟨h8, eh8, hf⟩ := z_bs hf
    refine z_putF X hI (k := 6) (ci := 8) (ty0 := t_Pr) eh8 i_Pr t_Pr_ok n_Pr rfl (by decide) wf_Pr_95 rfl rfl rfl d_Pr_addOne_39 (fun H locs hI => ?_)
    refine lv_iconst (v := 1) hx hb d_Pr_addOne_42 (by decide) ?_
    cases hf
    exact z_zret X hI (Or.inr rfl) d_Pr_addOne_43
  · rw [if_pos c2] at hf
    refine lv_aload_n hx hb d_Pr_addOne_9 rfl (lv_at hl 0 rfl) ?_
    obtain ⟨x9, ex9, hf⟩ := z_bs hf
    refine z_getF X hI (k := 0) (ci := 8) (gR_s ex9) i_Pr rfl (by decide) wf_Pr_9 d_Pr_addOne_10 ?_
    refine lv_iconst (v := 0) hx hb d_Pr_addOne_13 (by decide) ?_
    obtain ⟨u10, eu10, hf⟩ := z_bs hf
    obtain ⟨r11, er11, hf⟩ := z_bs hf
    refine z_callV (As := [.int 0]) (rest := []) (r := (some (.int r11.1))) (h' := r11.2) X hI eu10 (s_Cur_refuse er11) rfl rfl wm_Pr_51 yi_Cur_refuse rfl hl.1 rfl (Nat.le_of_ble_eq_true rfl) (by decide) (by decide) d_Pr_addOne_14 (fun H locs hI => ?_)
    refine W.eq (g2 := F0 m 17 ls [.int (r11.1)]) rfl ?_
    obtain ⟨x12, ex12, hf⟩ := z_bs hf
    refine z_topi (zB_s ex12).1 ?_
    cases hf
    exact z_zret X hI (zB_s2 ex12) d_Pr_addOne_17
def f_Pr_readEscape_140 (N : Nat)  (s0 : Nat) (s1 : Int32) (h : z_H) : Option (Int32 × z_H) :=
  z_b (gO h s0 2) fun u1 =>
  z_b (f_Cur_refuse N s0 s1 h) fun r2 =>
  z_b (zB (r2.1)) fun x3 =>
  some (x3, r2.2)
set_option maxRecDepth 20000 in
set_option maxHeartbeats 2000000 in
theorem s_Pr_readEscape_140 (X : z_X p s m args meth c prog_10_method_10_code 2 (some .boolean) Ts "StreamForge$PatternReader" D dA B) {N : Nat} {r : Int32} {h' : z_H}   : ∀ (s0 : Nat) (s1 : Int32) (h : z_H) (H : Heap) (locs : List Loc) (ls : Array Slot), z_I D dA B h s.heap H locs → lv_has ls 2 [] → f_Pr_readEscape_140 N  s0 s1 h = some (r, h') → W p l e (z_rm 2 44) s m args below meth c H locs 0 0 (MQ below (z_Q D dA B (some (.int r)) h') args s 0 0 (fun q => B ≤ q)) (F0 m 140 ls [.int s1, .ref s0]) := by
  have hx := z_hx X
  have hb := z_hb X
  intro s0 s1 h H locs ls hI hl hf
  unfold f_Pr_readEscape_140 at hf
  obtain ⟨u1, eu1, hf⟩ := z_bs hf
  obtain ⟨r2, er2, hf⟩ := z_bs hf
  refine z_callV (As := [.int s1]) (rest := []) (r := (some (.int r2.1))) (h' := r2.2) X hI eu1 (s_Cur_refuse er2) rfl rfl wm_Pr_51 yi_Cur_refuse rfl hl.1 rfl (Nat.le_of_ble_eq_true rfl) (by decide) (by decide) d_Pr_readEscape_140 (fun H locs hI => ?_)
  refine W.eq (g2 := F0 m 143 ls [.int (r2.1)]) rfl ?_
  obtain ⟨x3, ex3, hf⟩ := z_bs hf
  refine z_topi (zB_s ex3).1 ?_
  cases hf
  exact z_zret X hI (zB_s2 ex3) d_Pr_readEscape_143
def f_Pr_readEscape (N : Nat) (v0 : Nat) (h : z_H) : Option (Int32 × z_H) :=
  z_b (gR h v0 8 0) fun x1 =>
  z_b (gO h x1 2) fun u2 =>
  z_b (f_Cur_look N x1 1 h) fun r3 =>
  z_b (some (r3.1)) fun x4 =>
  if x4 = (-1) then
  (z_b (gR r3.2 v0 8 0) fun x6 =>
  z_b (gO r3.2 v0 8) fun u7 =>
  z_b (f_Pr_mayEscape N v0 r3.2) fun r8 =>
  if (r8.1) = 0 then
  (f_Pr_readEscape_140 N x6 0 r8.2)
  else
  (f_Pr_readEscape_140 N x6 1 r8.2))
  else
  (
  if x4 = 36 then
  (z_b (gO r3.2 v0 8) fun u11 =>
  z_b (f_Pr_addOne N v0 r3.2) fun r12 =>
  if (r12.1) = 0 then
  (some (0, r12.2))
  else
  (z_b (gR r12.2 v0 8 1) fun x14 =>
  z_b (gO r12.2 x14 4) fun u15 =>
  z_b (f_It_allow N x14 x4 x4 r12.2) fun r16 =>
  z_b (gR r16 v0 8 0) fun x17 =>
  z_b (gI r16 x17 2 1) fun x18 =>
  z_b (sF r16 x17 2 1 (.int (x18 + 2))) fun h19 =>
  some (1, h19)))
  else
  (
  if x4 = 40 then
  (z_b (gO r3.2 v0 8) fun u21 =>
  z_b (f_Pr_openGroup N v0 r3.2) fun r22 =>
  z_b (zB (r22.1)) fun x23 =>
  some (x23, r22.2))
  else
  (
  if x4 = 41 then
  (z_b (gO r3.2 v0 8) fun u25 =>
  z_b (f_Pr_closeGroup N v0 r3.2) fun r26 =>
  z_b (zB (r26.1)) fun x27 =>
  some (x27, r26.2))
  else
  (
  if x4 = 42 then
  (z_b (gO r3.2 v0 8) fun u29 =>
  z_b (f_Pr_addOne N v0 r3.2) fun r30 =>
  if (r30.1) = 0 then
  (some (0, r30.2))
  else
  (z_b (gR r30.2 v0 8 1) fun x32 =>
  z_b (gO r30.2 x32 4) fun u33 =>
  z_b (f_It_allow N x32 x4 x4 r30.2) fun r34 =>
  z_b (gR r34 v0 8 0) fun x35 =>
  z_b (gI r34 x35 2 1) fun x36 =>
  z_b (sF r34 x35 2 1 (.int (x36 + 2))) fun h37 =>
  some (1, h37)))
  else
  (
  if x4 = 46 then
  (z_b (gO r3.2 v0 8) fun u39 =>
  z_b (f_Pr_addOne N v0 r3.2) fun r40 =>
  if (r40.1) = 0 then
  (some (0, r40.2))
  else
  (z_b (gR r40.2 v0 8 1) fun x42 =>
  z_b (gO r40.2 x42 4) fun u43 =>
  z_b (f_It_allow N x42 x4 x4 r40.2) fun r44 =>
  z_b (gR r44 v0 8 0) fun x45 =>
  z_b (gI r44 x45 2 1) fun x46 =>
  z_b (sF r44 x45 2 1 (.int (x46 + 2))) fun h47 =>
  some (1, h47)))
  else
  (
  if x4 = 47 then
  (z_b (gO r3.2 v0 8) fun u49 =>
  z_b (f_Pr_addOne N v0 r3.2) fun r50 =>
  if (r50.1) = 0 then
  (some (0, r50.2))
  else
  (z_b (gR r50.2 v0 8 1) fun x52 =>
  z_b (gO r50.2 x52 4) fun u53 =>
  z_b (f_It_allow N x52 x4 x4 r50.2) fun r54 =>
  z_b (gR r54 v0 8 0) fun x55 =>
  z_b (gI r54 x55 2 1) fun x56 =>
  z_b (sF r54 x55 2 1 (.int (x56 + 2))) fun h57 =>
  some (1, h57)))
  else
  (
  if x4 = 49 then
  (z_b (gO r3.2 v0 8) fun u59 =>
  z_b (f_Pr_readSame N v0 (x4 - 48) r3.2) fun r60 =>
  z_b (zB (r60.1)) fun x61 =>
  some (x61, r60.2))
  else
  (
  if x4 = 50 then
  (z_b (gO r3.2 v0 8) fun u63 =>
  z_b (f_Pr_readSame N v0 (x4 - 48) r3.2) fun r64 =>
  z_b (zB (r64.1)) fun x65 =>
  some (x65, r64.2))
  else
  (
  if x4 = 51 then
  (z_b (gO r3.2 v0 8) fun u67 =>
  z_b (f_Pr_readSame N v0 (x4 - 48) r3.2) fun r68 =>
  z_b (zB (r68.1)) fun x69 =>
  some (x69, r68.2))
  else
  (
  if x4 = 91 then
  (z_b (gO r3.2 v0 8) fun u71 =>
  z_b (f_Pr_addOne N v0 r3.2) fun r72 =>
  if (r72.1) = 0 then
  (some (0, r72.2))
  else
  (z_b (gR r72.2 v0 8 1) fun x74 =>
  z_b (gO r72.2 x74 4) fun u75 =>
  z_b (f_It_allow N x74 x4 x4 r72.2) fun r76 =>
  z_b (gR r76 v0 8 0) fun x77 =>
  z_b (gI r76 x77 2 1) fun x78 =>
  z_b (sF r76 x77 2 1 (.int (x78 + 2))) fun h79 =>
  some (1, h79)))
  else
  (
  if x4 = 92 then
  (z_b (gO r3.2 v0 8) fun u81 =>
  z_b (f_Pr_addOne N v0 r3.2) fun r82 =>
  if (r82.1) = 0 then
  (some (0, r82.2))
  else
  (z_b (gR r82.2 v0 8 1) fun x84 =>
  z_b (gO r82.2 x84 4) fun u85 =>
  z_b (f_It_allow N x84 x4 x4 r82.2) fun r86 =>
  z_b (gR r86 v0 8 0) fun x87 =>
  z_b (gI r86 x87 2 1) fun x88 =>
  z_b (sF r86 x87 2 1 (.int (x88 + 2))) fun h89 =>
  some (1, h89)))
  else
  (
  if x4 = 94 then
  (z_b (gO r3.2 v0 8) fun u91 =>
  z_b (f_Pr_addOne N v0 r3.2) fun r92 =>
  if (r92.1) = 0 then
  (some (0, r92.2))
  else
  (z_b (gR r92.2 v0 8 1) fun x94 =>
  z_b (gO r92.2 x94 4) fun u95 =>
  z_b (f_It_allow N x94 x4 x4 r92.2) fun r96 =>
  z_b (gR r96 v0 8 0) fun x97 =>
  z_b (gI r96 x97 2 1) fun x98 =>
  z_b (sF r96 x97 2 1 (.int (x98 + 2))) fun h99 =>
  some (1, h99)))
  else
  (
  z_b (gR r3.2 v0 8 0) fun x100 =>
  z_b (gO r3.2 x100 2) fun u101 =>
  z_b (f_Cur_refuse N x100 0 r3.2) fun r102 =>
  z_b (zB (r102.1)) fun x103 =>
  some (x103, r102.2))))))))))))))
set_option maxRecDepth 20000 in
set_option maxHeartbeats 2000000 in
theorem s_Pr_readEscape {l : Launch} {D : va_G} {dA : Nat → ClassId} {B N : Nat} {v0 : Nat} {h h' : z_H} {r : Int32} (hf : f_Pr_readEscape N v0 h = some (r, h')) : z_Met l y_Pr_readEscape prog_10_method_10_code 2 (some .boolean) 2 44 D dA B [.ref v0] h (some (.int r)) h' := by
  refine z_of (by decide) (Nat.le_of_ble_eq_true rfl) (fun p e s m below meth c ls X hI hl => ?_)
  have hx := z_hx X
  have hb := z_hb X
  have hl : lv_has ls 2 [(0, .ref v0)] := hl
  unfold f_Pr_readEscape at hf
  obtain ⟨locs, hlo⟩ : ∃ z : List Loc, z = [] := ⟨_, rfl⟩
  rw [← hlo] at hI ⊢
  refine lv_aload_n hx hb d_Pr_readEscape_0 rfl (lv_at hl 0 rfl) ?_
  obtain ⟨x1, ex1, hf⟩ := z_bs hf
  refine z_getF X hI (k := 0) (ci := 8) (gR_s ex1) i_Pr rfl (by decide) wf_Pr_9 d_Pr_readEscape_1 ?_
  refine lv_iconst (v := 1) hx hb d_Pr_readEscape_4 (by decide) ?_
  obtain ⟨u2, eu2, hf⟩ := z_bs hf
  obtain ⟨r3, er3, hf⟩ := z_bs hf
  refine z_callV (As := [.int 1]) (rest := []) (r := (some (.int r3.1))) (h' := r3.2) X hI eu2 (s_Cur_look er3) rfl rfl wm_Pr_19 yi_Cur_look rfl hl.1 rfl (Nat.le_of_ble_eq_true rfl) (by decide) (by decide) d_Pr_readEscape_5 (fun H locs hI => ?_)
  refine W.eq (g2 := F0 m 8 ls [.int (r3.1)]) rfl ?_
  obtain ⟨x4, ex4, hf⟩ := z_bs hf
  refine z_topi (Option.some.inj ex4) ?_
  refine lv_istore_n (lv' := [(1, .int x4), (0, .ref v0)]) hx hb d_Pr_readEscape_8 rfl hl (by decide) rfl (fun ls hl => ?_)
  refine lv_iload_n hx hb d_Pr_readEscape_9 rfl (lv_at hl 0 rfl) ?_
  by_cases c5 : x4 = (-1)
  · rw [if_pos c5] at hf
    refine lv_lookup (off := 114) (tgt := 124) hx hb d_Pr_readEscape_10 (by decide) (by rw [c5]; rfl) (by decide) ?_
    refine lv_aload_n hx hb d_Pr_readEscape_124 rfl (lv_at hl 1 rfl) ?_
    obtain ⟨x6, ex6, hf⟩ := z_bs hf
    refine z_getF X hI (k := 0) (ci := 8) (gR_s ex6) i_Pr rfl (by decide) wf_Pr_9 d_Pr_readEscape_125 ?_
    refine lv_aload_n hx hb d_Pr_readEscape_128 rfl (lv_at hl 1 rfl) ?_
    obtain ⟨u7, eu7, hf⟩ := z_bs hf
    obtain ⟨r8, er8, hf⟩ := z_bs hf
    refine z_callV (As := []) (rest := [.ref x6]) (r := (some (.int r8.1))) (h' := r8.2) X hI eu7 (s_Pr_mayEscape er8) rfl rfl wm_Pr_120 yi_Pr_mayEscape rfl hl.1 rfl (Nat.le_of_ble_eq_true rfl) (by decide) (by decide) d_Pr_readEscape_129 (fun H locs hI => ?_)
    refine W.eq (g2 := F0 m 132 ls [.int (r8.1), .ref x6]) rfl ?_
    refine lv_if_eq (tgt := 139) hx hb d_Pr_readEscape_132 (by decide) (fun c9 => ?_) (fun c9 => ?_)
    · rw [if_pos c9] at hf
      refine lv_iconst (v := 0) hx hb d_Pr_readEscape_139 (by decide) ?_
      exact s_Pr_readEscape_140 X  x6 0 r8.2 _ _ _ hI (lv_sub hl [] rfl) hf
    · rw [if_neg c9] at hf
      refine lv_iconst (v := 1) hx hb d_Pr_readEscape_135 (by decide) ?_
      refine lv_goto (tgt := 140) hx hb d_Pr_readEscape_136 (by decide) ?_
      exact s_Pr_readEscape_140 X  x6 1 r8.2 _ _ _ hI (lv_sub hl [] rfl) hf
  · rw [if_neg c5] at hf
    by_cases c10 : x4 = 36
    · rw [if_pos c10] at hf
      refine lv_lookup (off := 153) (tgt := 163) hx hb d_Pr_readEscape_10 (by decide) (by rw [c10]; rfl) (by decide) ?_
      refine lv_aload_n hx hb d_Pr_readEscape_163 rfl (lv_at hl 1 rfl) ?_
      obtain ⟨u11, eu11, hf⟩ := z_bs hf
      obtain ⟨r12, er12, hf⟩ := z_bs hf
      refine z_callV (As := []) (rest := []) (r := (some (.int r12.1))) (h' := r12.2) X hI eu11 (s_Pr_addOne er12) rfl rfl wm_Pr_107 yi_Pr_addOne rfl hl.1 rfl (Nat.le_of_ble_eq_true rfl) (by decide) (by decide) d_Pr_readEscape_164 (fun H locs hI => ?_)
      refine W.eq (g2 := F0 m 167 ls [.int (r12.1)]) rfl ?_
      refine lv_if_ne (tgt := 172) hx hb d_Pr_readEscape_167 (by decide) (fun c13 => ?_) (fun c13 => ?_)
      · rw [if_neg c13] at hf
        refine lv_aload_n hx hb d_Pr_readEscape_172 rfl (lv_at hl 1 rfl) ?_
        obtain ⟨x14, ex14, hf⟩ := z_bs hf
        refine z_getF X hI (k := 1) (ci := 8) (gR_s ex14) i_Pr rfl (by decide) wf_Pr_62 d_Pr_readEscape_173 ?_
        refine lv_iload_n hx hb d_Pr_readEscape_176 rfl (lv_at hl 0 rfl) ?_
        refine lv_iload_n hx hb d_Pr_readEscape_177 rfl (lv_at hl 0 rfl) ?_
        obtain ⟨u15, eu15, hf⟩ := z_bs hf
        obtain ⟨r16, er16, hf⟩ := z_bs hf
        refine z_callV (As := [.int x4, .int x4]) (rest := []) (r := none) (h' := r16) X hI eu15 (s_It_allow er16) rfl rfl wm_Pr_113 yi_It_allow rfl hl.1 rfl (Nat.le_of_ble_eq_true rfl) (by decide) (by decide) d_Pr_readEscape_178 (fun H locs hI => ?_)
        refine W.eq (g2 := F0 m 181 ls []) rfl ?_
        refine lv_aload_n hx hb d_Pr_readEscape_181 rfl (lv_at hl 1 rfl) ?_
        obtain ⟨x17, ex17, hf⟩ := z_bs hf
        refine z_getF X hI (k := 0) (ci := 8) (gR_s ex17) i_Pr rfl (by decide) wf_Pr_9 d_Pr_readEscape_182 ?_
        refine lv_dup hx hb d_Pr_readEscape_185 rfl ?_
        obtain ⟨x18, ex18, hf⟩ := z_bs hf
        refine z_getF X hI (k := 1) (ci := 2) (gI_s ex18) i_Cur rfl (by decide) wf_Pr_86 d_Pr_readEscape_186 ?_
        refine lv_iconst (v := 2) hx hb d_Pr_readEscape_189 (by decide) ?_
        refine lv_iadd hx hb d_Pr_readEscape_190 ?_
        obtain ⟨h19, eh19, hf⟩ := z_bs hf
        refine z_putF X hI (k := 1) (ci := 2) (ty0 := t_Cur) eh19 i_Cur t_Cur_ok n_Cur rfl (by decide) wf_Pr_86 rfl rfl rfl d_Pr_readEscape_191 (fun H locs hI => ?_)
        refine lv_iconst (v := 1) hx hb d_Pr_readEscape_194 (by decide) ?_
        cases hf
        exact z_zret X hI (Or.inr rfl) d_Pr_readEscape_195
      · rw [if_pos c13] at hf
        refine lv_iconst (v := 0) hx hb d_Pr_readEscape_170 (by decide) ?_
        cases hf
        exact z_zret X hI (Or.inl rfl) d_Pr_readEscape_171
    · rw [if_neg c10] at hf
      by_cases c20 : x4 = 40
      · rw [if_pos c20] at hf
        refine lv_lookup (off := 134) (tgt := 144) hx hb d_Pr_readEscape_10 (by decide) (by rw [c20]; rfl) (by decide) ?_
        refine lv_aload_n hx hb d_Pr_readEscape_144 rfl (lv_at hl 1 rfl) ?_
        obtain ⟨u21, eu21, hf⟩ := z_bs hf
        obtain ⟨r22, er22, hf⟩ := z_bs hf
        refine z_callV (As := []) (rest := []) (r := (some (.int r22.1))) (h' := r22.2) X hI eu21 (s_Pr_openGroup er22) rfl rfl wm_Pr_123 yi_Pr_openGroup rfl hl.1 rfl (Nat.le_of_ble_eq_true rfl) (by decide) (by decide) d_Pr_readEscape_145 (fun H locs hI => ?_)
        refine W.eq (g2 := F0 m 148 ls [.int (r22.1)]) rfl ?_
        obtain ⟨x23, ex23, hf⟩ := z_bs hf
        refine z_topi (zB_s ex23).1 ?_
        cases hf
        exact z_zret X hI (zB_s2 ex23) d_Pr_readEscape_148
      · rw [if_neg c20] at hf
        by_cases c24 : x4 = 41
        · rw [if_pos c24] at hf
          refine lv_lookup (off := 139) (tgt := 149) hx hb d_Pr_readEscape_10 (by decide) (by rw [c24]; rfl) (by decide) ?_
          refine lv_aload_n hx hb d_Pr_readEscape_149 rfl (lv_at hl 1 rfl) ?_
          obtain ⟨u25, eu25, hf⟩ := z_bs hf
          obtain ⟨r26, er26, hf⟩ := z_bs hf
          refine z_callV (As := []) (rest := []) (r := (some (.int r26.1))) (h' := r26.2) X hI eu25 (s_Pr_closeGroup er26) rfl rfl wm_Pr_126 yi_Pr_closeGroup rfl hl.1 rfl (Nat.le_of_ble_eq_true rfl) (by decide) (by decide) d_Pr_readEscape_150 (fun H locs hI => ?_)
          refine W.eq (g2 := F0 m 153 ls [.int (r26.1)]) rfl ?_
          obtain ⟨x27, ex27, hf⟩ := z_bs hf
          refine z_topi (zB_s ex27).1 ?_
          cases hf
          exact z_zret X hI (zB_s2 ex27) d_Pr_readEscape_153
        · rw [if_neg c24] at hf
          by_cases c28 : x4 = 42
          · rw [if_pos c28] at hf
            refine lv_lookup (off := 153) (tgt := 163) hx hb d_Pr_readEscape_10 (by decide) (by rw [c28]; rfl) (by decide) ?_
            refine lv_aload_n hx hb d_Pr_readEscape_163 rfl (lv_at hl 1 rfl) ?_
            obtain ⟨u29, eu29, hf⟩ := z_bs hf
            obtain ⟨r30, er30, hf⟩ := z_bs hf
            refine z_callV (As := []) (rest := []) (r := (some (.int r30.1))) (h' := r30.2) X hI eu29 (s_Pr_addOne er30) rfl rfl wm_Pr_107 yi_Pr_addOne rfl hl.1 rfl (Nat.le_of_ble_eq_true rfl) (by decide) (by decide) d_Pr_readEscape_164 (fun H locs hI => ?_)
            refine W.eq (g2 := F0 m 167 ls [.int (r30.1)]) rfl ?_
            refine lv_if_ne (tgt := 172) hx hb d_Pr_readEscape_167 (by decide) (fun c31 => ?_) (fun c31 => ?_)
            · rw [if_neg c31] at hf
              refine lv_aload_n hx hb d_Pr_readEscape_172 rfl (lv_at hl 1 rfl) ?_
              obtain ⟨x32, ex32, hf⟩ := z_bs hf
              refine z_getF X hI (k := 1) (ci := 8) (gR_s ex32) i_Pr rfl (by decide) wf_Pr_62 d_Pr_readEscape_173 ?_
              refine lv_iload_n hx hb d_Pr_readEscape_176 rfl (lv_at hl 0 rfl) ?_
              refine lv_iload_n hx hb d_Pr_readEscape_177 rfl (lv_at hl 0 rfl) ?_
              obtain ⟨u33, eu33, hf⟩ := z_bs hf
              obtain ⟨r34, er34, hf⟩ := z_bs hf
              refine z_callV (As := [.int x4, .int x4]) (rest := []) (r := none) (h' := r34) X hI eu33 (s_It_allow er34) rfl rfl wm_Pr_113 yi_It_allow rfl hl.1 rfl (Nat.le_of_ble_eq_true rfl) (by decide) (by decide) d_Pr_readEscape_178 (fun H locs hI => ?_)
              refine W.eq (g2 := F0 m 181 ls []) rfl ?_
              refine lv_aload_n hx hb d_Pr_readEscape_181 rfl (lv_at hl 1 rfl) ?_
              obtain ⟨x35, ex35, hf⟩ := z_bs hf
              refine z_getF X hI (k := 0) (ci := 8) (gR_s ex35) i_Pr rfl (by decide) wf_Pr_9 d_Pr_readEscape_182 ?_
              refine lv_dup hx hb d_Pr_readEscape_185 rfl ?_
              obtain ⟨x36, ex36, hf⟩ := z_bs hf
              refine z_getF X hI (k := 1) (ci := 2) (gI_s ex36) i_Cur rfl (by decide) wf_Pr_86 d_Pr_readEscape_186 ?_
              refine lv_iconst (v := 2) hx hb d_Pr_readEscape_189 (by decide) ?_
              refine lv_iadd hx hb d_Pr_readEscape_190 ?_
              obtain ⟨h37, eh37, hf⟩ := z_bs hf
              refine z_putF X hI (k := 1) (ci := 2) (ty0 := t_Cur) eh37 i_Cur t_Cur_ok n_Cur rfl (by decide) wf_Pr_86 rfl rfl rfl d_Pr_readEscape_191 (fun H locs hI => ?_)
              refine lv_iconst (v := 1) hx hb d_Pr_readEscape_194 (by decide) ?_
              cases hf
              exact z_zret X hI (Or.inr rfl) d_Pr_readEscape_195
            · rw [if_pos c31] at hf
              refine lv_iconst (v := 0) hx hb d_Pr_readEscape_170 (by decide) ?_
              cases hf
              exact z_zret X hI (Or.inl rfl) d_Pr_readEscape_171
          · rw [if_neg c28] at hf
            by_cases c38 : x4 = 46
            · rw [if_pos c38] at hf
              refine lv_lookup (off := 153) (tgt := 163) hx hb d_Pr_readEscape_10 (by decide) (by rw [c38]; rfl) (by decide) ?_
              refine lv_aload_n hx hb d_Pr_readEscape_163 rfl (lv_at hl 1 rfl) ?_
              obtain ⟨u39, eu39, hf⟩ := z_bs hf
              obtain ⟨r40, er40, hf⟩ := z_bs hf
              refine z_callV (As := []) (rest := []) (r := (some (.int r40.1))) (h' := r40.2) X hI eu39 (s_Pr_addOne er40) rfl rfl wm_Pr_107 yi_Pr_addOne rfl hl.1 rfl (Nat.le_of_ble_eq_true rfl) (by decide) (by decide) d_Pr_readEscape_164 (fun H locs hI => ?_)
              refine W.eq (g2 := F0 m 167 ls [.int (r40.1)]) rfl ?_
              refine lv_if_ne (tgt := 172) hx hb d_Pr_readEscape_167 (by decide) (fun c41 => ?_) (fun c41 => ?_)
              · rw [if_neg c41] at hf
                refine lv_aload_n hx hb d_Pr_readEscape_172 rfl (lv_at hl 1 rfl) ?_
                obtain ⟨x42, ex42, hf⟩ := z_bs hf
                refine z_getF X hI (k := 1) (ci := 8) (gR_s ex42) i_Pr rfl (by decide) wf_Pr_62 d_Pr_readEscape_173 ?_
                refine lv_iload_n hx hb d_Pr_readEscape_176 rfl (lv_at hl 0 rfl) ?_
                refine lv_iload_n hx hb d_Pr_readEscape_177 rfl (lv_at hl 0 rfl) ?_
                obtain ⟨u43, eu43, hf⟩ := z_bs hf
                obtain ⟨r44, er44, hf⟩ := z_bs hf
                refine z_callV (As := [.int x4, .int x4]) (rest := []) (r := none) (h' := r44) X hI eu43 (s_It_allow er44) rfl rfl wm_Pr_113 yi_It_allow rfl hl.1 rfl (Nat.le_of_ble_eq_true rfl) (by decide) (by decide) d_Pr_readEscape_178 (fun H locs hI => ?_)
                refine W.eq (g2 := F0 m 181 ls []) rfl ?_
                refine lv_aload_n hx hb d_Pr_readEscape_181 rfl (lv_at hl 1 rfl) ?_
                obtain ⟨x45, ex45, hf⟩ := z_bs hf
                refine z_getF X hI (k := 0) (ci := 8) (gR_s ex45) i_Pr rfl (by decide) wf_Pr_9 d_Pr_readEscape_182 ?_
                refine lv_dup hx hb d_Pr_readEscape_185 rfl ?_
                obtain ⟨x46, ex46, hf⟩ := z_bs hf
                refine z_getF X hI (k := 1) (ci := 2) (gI_s ex46) i_Cur rfl (by decide) wf_Pr_86 d_Pr_readEscape_186 ?_
                refine lv_iconst (v := 2) hx hb d_Pr_readEscape_189 (by decide) ?_
                refine lv_iadd hx hb d_Pr_readEscape_190 ?_
                obtain ⟨h47, eh47, hf⟩ := z_bs hf
                refine z_putF X hI (k := 1) (ci := 2) (ty0 := t_Cur) eh47 i_Cur t_Cur_ok n_Cur rfl (by decide) wf_Pr_86 rfl rfl rfl d_Pr_readEscape_191 (fun H locs hI => ?_)
                refine lv_iconst (v := 1) hx hb d_Pr_readEscape_194 (by decide) ?_
                cases hf
                exact z_zret X hI (Or.inr rfl) d_Pr_readEscape_195
              · rw [if_pos c41] at hf
                refine lv_iconst (v := 0) hx hb d_Pr_readEscape_170 (by decide) ?_
                cases hf
                exact z_zret X hI (Or.inl rfl) d_Pr_readEscape_171
            · rw [if_neg c38] at hf
              by_cases c48 : x4 = 47
              · rw [if_pos c48] at hf
                refine lv_lookup (off := 153) (tgt := 163) hx hb d_Pr_readEscape_10 (by decide) (by rw [c48]; rfl) (by decide) ?_
                refine lv_aload_n hx hb d_Pr_readEscape_163 rfl (lv_at hl 1 rfl) ?_
                obtain ⟨u49, eu49, hf⟩ := z_bs hf
                obtain ⟨r50, er50, hf⟩ := z_bs hf
                refine z_callV (As := []) (rest := []) (r := (some (.int r50.1))) (h' := r50.2) X hI eu49 (s_Pr_addOne er50) rfl rfl wm_Pr_107 yi_Pr_addOne rfl hl.1 rfl (Nat.le_of_ble_eq_true rfl) (by decide) (by decide) d_Pr_readEscape_164 (fun H locs hI => ?_)
                refine W.eq (g2 := F0 m 167 ls [.int (r50.1)]) rfl ?_
                refine lv_if_ne (tgt := 172) hx hb d_Pr_readEscape_167 (by decide) (fun c51 => ?_) (fun c51 => ?_)
                · rw [if_neg c51] at hf
                  refine lv_aload_n hx hb d_Pr_readEscape_172 rfl (lv_at hl 1 rfl) ?_
                  obtain ⟨x52, ex52, hf⟩ := z_bs hf
                  refine z_getF X hI (k := 1) (ci := 8) (gR_s ex52) i_Pr rfl (by decide) wf_Pr_62 d_Pr_readEscape_173 ?_
                  refine lv_iload_n hx hb d_Pr_readEscape_176 rfl (lv_at hl 0 rfl) ?_
                  refine lv_iload_n hx hb d_Pr_readEscape_177 rfl (lv_at hl 0 rfl) ?_
                  obtain ⟨u53, eu53, hf⟩ := z_bs hf
                  obtain ⟨r54, er54, hf⟩ := z_bs hf
                  refine z_callV (As := [.int x4, .int x4]) (rest := []) (r := none) (h' := r54) X hI eu53 (s_It_allow er54) rfl rfl wm_Pr_113 yi_It_allow rfl hl.1 rfl (Nat.le_of_ble_eq_true rfl) (by decide) (by decide) d_Pr_readEscape_178 (fun H locs hI => ?_)
                  refine W.eq (g2 := F0 m 181 ls []) rfl ?_
                  refine lv_aload_n hx hb d_Pr_readEscape_181 rfl (lv_at hl 1 rfl) ?_
                  obtain ⟨x55, ex55, hf⟩ := z_bs hf
                  refine z_getF X hI (k := 0) (ci := 8) (gR_s ex55) i_Pr rfl (by decide) wf_Pr_9 d_Pr_readEscape_182 ?_
                  refine lv_dup hx hb d_Pr_readEscape_185 rfl ?_
                  obtain ⟨x56, ex56, hf⟩ := z_bs hf
                  refine z_getF X hI (k := 1) (ci := 2) (gI_s ex56) i_Cur rfl (by decide) wf_Pr_86 d_Pr_readEscape_186 ?_
                  refine lv_iconst (v := 2) hx hb d_Pr_readEscape_189 (by decide) ?_
                  refine lv_iadd hx hb d_Pr_readEscape_190 ?_
                  obtain ⟨h57, eh57, hf⟩ := z_bs hf
                  refine z_putF X hI (k := 1) (ci := 2) (ty0 := t_Cur) eh57 i_Cur t_Cur_ok n_Cur rfl (by decide) wf_Pr_86 rfl rfl rfl d_Pr_readEscape_191 (fun H locs hI => ?_)
                  refine lv_iconst (v := 1) hx hb d_Pr_readEscape_194 (by decide) ?_
                  cases hf
                  exact z_zret X hI (Or.inr rfl) d_Pr_readEscape_195
                · rw [if_pos c51] at hf
                  refine lv_iconst (v := 0) hx hb d_Pr_readEscape_170 (by decide) ?_
                  cases hf
                  exact z_zret X hI (Or.inl rfl) d_Pr_readEscape_171
              · rw [if_neg c48] at hf
                by_cases c58 : x4 = 49
                · rw [if_pos c58] at hf
                  refine lv_lookup (off := 144) (tgt := 154) hx hb d_Pr_readEscape_10 (by decide) (by rw [c58]; rfl) (by decide) ?_
                  refine lv_aload_n hx hb d_Pr_readEscape_154 rfl (lv_at hl 1 rfl) ?_
                  refine lv_iload_n hx hb d_Pr_readEscape_155 rfl (lv_at hl 0 rfl) ?_
                  refine lv_bipush (v := 48) hx hb d_Pr_readEscape_156 (by decide) ?_
                  refine lv_isub hx hb d_Pr_readEscape_158 ?_
                  obtain ⟨u59, eu59, hf⟩ := z_bs hf
                  obtain ⟨r60, er60, hf⟩ := z_bs hf
                  refine z_callV (As := [.int (x4 - 48)]) (rest := []) (r := (some (.int r60.1))) (h' := r60.2) X hI eu59 (s_Pr_readSame er60) rfl rfl wm_Pr_129 yi_Pr_readSame rfl hl.1 rfl (Nat.le_of_ble_eq_true rfl) (by decide) (by decide) d_Pr_readEscape_159 (fun H locs hI => ?_)
                  refine W.eq (g2 := F0 m 162 ls [.int (r60.1)]) rfl ?_
                  obtain ⟨x61, ex61, hf⟩ := z_bs hf
                  refine z_topi (zB_s ex61).1 ?_
                  cases hf
                  exact z_zret X hI (zB_s2 ex61) d_Pr_readEscape_162
                · rw [if_neg c58] at hf
                  by_cases c62 : x4 = 50
                  · rw [if_pos c62] at hf
                    refine lv_lookup (off := 144) (tgt := 154) hx hb d_Pr_readEscape_10 (by decide) (by rw [c62]; rfl) (by decide) ?_
                    refine lv_aload_n hx hb d_Pr_readEscape_154 rfl (lv_at hl 1 rfl) ?_
                    refine lv_iload_n hx hb d_Pr_readEscape_155 rfl (lv_at hl 0 rfl) ?_
                    refine lv_bipush (v := 48) hx hb d_Pr_readEscape_156 (by decide) ?_
                    refine lv_isub hx hb d_Pr_readEscape_158 ?_
                    obtain ⟨u63, eu63, hf⟩ := z_bs hf
                    obtain ⟨r64, er64, hf⟩ := z_bs hf
                    refine z_callV (As := [.int (x4 - 48)]) (rest := []) (r := (some (.int r64.1))) (h' := r64.2) X hI eu63 (s_Pr_readSame er64) rfl rfl wm_Pr_129 yi_Pr_readSame rfl hl.1 rfl (Nat.le_of_ble_eq_true rfl) (by decide) (by decide) d_Pr_readEscape_159 (fun H locs hI => ?_)
                    refine W.eq (g2 := F0 m 162 ls [.int (r64.1)]) rfl ?_
                    obtain ⟨x65, ex65, hf⟩ := z_bs hf
                    refine z_topi (zB_s ex65).1 ?_
                    cases hf
                    exact z_zret X hI (zB_s2 ex65) d_Pr_readEscape_162
                  · rw [if_neg c62] at hf
                    by_cases c66 : x4 = 51
                    · rw [if_pos c66] at hf
                      refine lv_lookup (off := 144) (tgt := 154) hx hb d_Pr_readEscape_10 (by decide) (by rw [c66]; rfl) (by decide) ?_
                      refine lv_aload_n hx hb d_Pr_readEscape_154 rfl (lv_at hl 1 rfl) ?_
                      refine lv_iload_n hx hb d_Pr_readEscape_155 rfl (lv_at hl 0 rfl) ?_
                      refine lv_bipush (v := 48) hx hb d_Pr_readEscape_156 (by decide) ?_
                      refine lv_isub hx hb d_Pr_readEscape_158 ?_
                      obtain ⟨u67, eu67, hf⟩ := z_bs hf
                      obtain ⟨r68, er68, hf⟩ := z_bs hf
                      refine z_callV (As := [.int (x4 - 48)]) (rest := []) (r := (some (.int r68.1))) (h' := r68.2) X hI eu67 (s_Pr_readSame er68) rfl rfl wm_Pr_129 yi_Pr_readSame rfl hl.1 rfl (Nat.le_of_ble_eq_true rfl) (by decide) (by decide) d_Pr_readEscape_159 (fun H locs hI => ?_)
                      refine W.eq (g2 := F0 m 162 ls [.int (r68.1)]) rfl ?_
                      obtain ⟨x69, ex69, hf⟩ := z_bs hf
                      refine z_topi (zB_s ex69).1 ?_
                      cases hf
                      exact z_zret X hI (zB_s2 ex69) d_Pr_readEscape_162
                    · rw [if_neg c66] at hf
                      by_cases c70 : x4 = 91
                      · rw [if_pos c70] at hf
                        refine lv_lookup (off := 153) (tgt := 163) hx hb d_Pr_readEscape_10 (by decide) (by rw [c70]; rfl) (by decide) ?_
                        refine lv_aload_n hx hb d_Pr_readEscape_163 rfl (lv_at hl 1 rfl) ?_
                        obtain ⟨u71, eu71, hf⟩ := z_bs hf
                        obtain ⟨r72, er72, hf⟩ := z_bs hf
                        refine z_callV (As := []) (rest := []) (r := (some (.int r72.1))) (h' := r72.2) X hI eu71 (s_Pr_addOne er72) rfl rfl wm_Pr_107 yi_Pr_addOne rfl hl.1 rfl (Nat.le_of_ble_eq_true rfl) (by decide) (by decide) d_Pr_readEscape_164 (fun H locs hI => ?_)
                        refine W.eq (g2 := F0 m 167 ls [.int (r72.1)]) rfl ?_
                        refine lv_if_ne (tgt := 172) hx hb d_Pr_readEscape_167 (by decide) (fun c73 => ?_) (fun c73 => ?_)
                        · rw [if_neg c73] at hf
                          refine lv_aload_n hx hb d_Pr_readEscape_172 rfl (lv_at hl 1 rfl) ?_
                          obtain ⟨x74, ex74, hf⟩ := z_bs hf
                          refine z_getF X hI (k := 1) (ci := 8) (gR_s ex74) i_Pr rfl (by decide) wf_Pr_62 d_Pr_readEscape_173 ?_
                          refine lv_iload_n hx hb d_Pr_readEscape_176 rfl (lv_at hl 0 rfl) ?_
                          refine lv_iload_n hx hb d_Pr_readEscape_177 rfl (lv_at hl 0 rfl) ?_
                          obtain ⟨u75, eu75, hf⟩ := z_bs hf
                          obtain ⟨r76, er76, hf⟩ := z_bs hf
                          refine z_callV (As := [.int x4, .int x4]) (rest := []) (r := none) (h' := r76) X hI eu75 (s_It_allow er76) rfl rfl wm_Pr_113 yi_It_allow rfl hl.1 rfl (Nat.le_of_ble_eq_true rfl) (by decide) (by decide) d_Pr_readEscape_178 (fun H locs hI => ?_)
                          refine W.eq (g2 := F0 m 181 ls []) rfl ?_
                          refine lv_aload_n hx hb d_Pr_readEscape_181 rfl (lv_at hl 1 rfl) ?_
                          obtain ⟨x77, ex77, hf⟩ := z_bs hf
                          refine z_getF X hI (k := 0) (ci := 8) (gR_s ex77) i_Pr rfl (by decide) wf_Pr_9 d_Pr_readEscape_182 ?_
                          refine lv_dup hx hb d_Pr_readEscape_185 rfl ?_
                          obtain ⟨x78, ex78, hf⟩ := z_bs hf
                          refine z_getF X hI (k := 1) (ci := 2) (gI_s ex78) i_Cur rfl (by decide) wf_Pr_86 d_Pr_readEscape_186 ?_
                          refine lv_iconst (v := 2) hx hb d_Pr_readEscape_189 (by decide) ?_
                          refine lv_iadd hx hb d_Pr_readEscape_190 ?_
                          obtain ⟨h79, eh79, hf⟩ := z_bs hf
                          refine z_putF X hI (k := 1) (ci := 2) (ty0 := t_Cur) eh79 i_Cur t_Cur_ok n_Cur rfl (by decide) wf_Pr_86 rfl rfl rfl d_Pr_readEscape_191 (fun H locs hI => ?_)
                          refine lv_iconst (v := 1) hx hb d_Pr_readEscape_194 (by decide) ?_
                          cases hf
                          exact z_zret X hI (Or.inr rfl) d_Pr_readEscape_195
                        · rw [if_pos c73] at hf
                          refine lv_iconst (v := 0) hx hb d_Pr_readEscape_170 (by decide) ?_
                          cases hf
                          exact z_zret X hI (Or.inl rfl) d_Pr_readEscape_171
                      · rw [if_neg c70] at hf
                        by_cases c80 : x4 = 92
                        · rw [if_pos c80] at hf
                          refine lv_lookup (off := 153) (tgt := 163) hx hb d_Pr_readEscape_10 (by decide) (by rw [c80]; rfl) (by decide) ?_
                          refine lv_aload_n hx hb d_Pr_readEscape_163 rfl (lv_at hl 1 rfl) ?_
                          obtain ⟨u81, eu81, hf⟩ := z_bs hf
                          obtain ⟨r82, er82, hf⟩ := z_bs hf
                          refine z_callV (As := []) (rest := []) (r := (some (.int r82.1))) (h' := r82.2) X hI eu81 (s_Pr_addOne er82) rfl rfl wm_Pr_107 yi_Pr_addOne rfl hl.1 rfl (Nat.le_of_ble_eq_true rfl) (by decide) (by decide) d_Pr_readEscape_164 (fun H locs hI => ?_)
                          refine W.eq (g2 := F0 m 167 ls [.int (r82.1)]) rfl ?_
                          refine lv_if_ne (tgt := 172) hx hb d_Pr_readEscape_167 (by decide) (fun c83 => ?_) (fun c83 => ?_)
                          · rw [if_neg c83] at hf
                            refine lv_aload_n hx hb d_Pr_readEscape_172 rfl (lv_at hl 1 rfl) ?_
                            obtain ⟨x84, ex84, hf⟩ := z_bs hf
                            refine z_getF X hI (k := 1) (ci := 8) (gR_s ex84) i_Pr rfl (by decide) wf_Pr_62 d_Pr_readEscape_173 ?_
                            refine lv_iload_n hx hb d_Pr_readEscape_176 rfl (lv_at hl 0 rfl) ?_
                            refine lv_iload_n hx hb d_Pr_readEscape_177 rfl (lv_at hl 0 rfl) ?_
                            obtain ⟨u85, eu85, hf⟩ := z_bs hf
                            obtain ⟨r86, er86, hf⟩ := z_bs hf
                            refine z_callV (As := [.int x4, .int x4]) (rest := []) (r := none) (h' := r86) X hI eu85 (s_It_allow er86) rfl rfl wm_Pr_113 yi_It_allow rfl hl.1 rfl (Nat.le_of_ble_eq_true rfl) (by decide) (by decide) d_Pr_readEscape_178 (fun H locs hI => ?_)
                            refine W.eq (g2 := F0 m 181 ls []) rfl ?_
                            refine lv_aload_n hx hb d_Pr_readEscape_181 rfl (lv_at hl 1 rfl) ?_
                            obtain ⟨x87, ex87, hf⟩ := z_bs hf
                            refine z_getF X hI (k := 0) (ci := 8) (gR_s ex87) i_Pr rfl (by decide) wf_Pr_9 d_Pr_readEscape_182 ?_
                            refine lv_dup hx hb d_Pr_readEscape_185 rfl ?_
                            obtain ⟨x88, ex88, hf⟩ := z_bs hf
                            refine z_getF X hI (k := 1) (ci := 2) (gI_s ex88) i_Cur rfl (by decide) wf_Pr_86 d_Pr_readEscape_186 ?_
                            refine lv_iconst (v := 2) hx hb d_Pr_readEscape_189 (by decide) ?_
                            refine lv_iadd hx hb d_Pr_readEscape_190 ?_
                            obtain ⟨h89, eh89, hf⟩ := z_bs hf
                            refine z_putF X hI (k := 1) (ci := 2) (ty0 := t_Cur) eh89 i_Cur t_Cur_ok n_Cur rfl (by decide) wf_Pr_86 rfl rfl rfl d_Pr_readEscape_191 (fun H locs hI => ?_)
                            refine lv_iconst (v := 1) hx hb d_Pr_readEscape_194 (by decide) ?_
                            cases hf
                            exact z_zret X hI (Or.inr rfl) d_Pr_readEscape_195
                          · rw [if_pos c83] at hf
                            refine lv_iconst (v := 0) hx hb d_Pr_readEscape_170 (by decide) ?_
                            cases hf
                            exact z_zret X hI (Or.inl rfl) d_Pr_readEscape_171
                        · rw [if_neg c80] at hf
                          by_cases c90 : x4 = 94
                          · rw [if_pos c90] at hf
                            refine lv_lookup (off := 153) (tgt := 163) hx hb d_Pr_readEscape_10 (by decide) (by rw [c90]; rfl) (by decide) ?_
                            refine lv_aload_n hx hb d_Pr_readEscape_163 rfl (lv_at hl 1 rfl) ?_
                            obtain ⟨u91, eu91, hf⟩ := z_bs hf
                            obtain ⟨r92, er92, hf⟩ := z_bs hf
                            refine z_callV (As := []) (rest := []) (r := (some (.int r92.1))) (h' := r92.2) X hI eu91 (s_Pr_addOne er92) rfl rfl wm_Pr_107 yi_Pr_addOne rfl hl.1 rfl (Nat.le_of_ble_eq_true rfl) (by decide) (by decide) d_Pr_readEscape_164 (fun H locs hI => ?_)
                            refine W.eq (g2 := F0 m 167 ls [.int (r92.1)]) rfl ?_
                            refine lv_if_ne (tgt := 172) hx hb d_Pr_readEscape_167 (by decide) (fun c93 => ?_) (fun c93 => ?_)
                            · rw [if_neg c93] at hf
                              refine lv_aload_n hx hb d_Pr_readEscape_172 rfl (lv_at hl 1 rfl) ?_
                              obtain ⟨x94, ex94, hf⟩ := z_bs hf
                              refine z_getF X hI (k := 1) (ci := 8) (gR_s ex94) i_Pr rfl (by decide) wf_Pr_62 d_Pr_readEscape_173 ?_
                              refine lv_iload_n hx hb d_Pr_readEscape_176 rfl (lv_at hl 0 rfl) ?_
                              refine lv_iload_n hx hb d_Pr_readEscape_177 rfl (lv_at hl 0 rfl) ?_
                              obtain ⟨u95, eu95, hf⟩ := z_bs hf
                              obtain ⟨r96, er96, hf⟩ := z_bs hf
                              refine z_callV (As := [.int x4, .int x4]) (rest := []) (r := none) (h' := r96) X hI eu95 (s_It_allow er96) rfl rfl wm_Pr_113 yi_It_allow rfl hl.1 rfl (Nat.le_of_ble_eq_true rfl) (by decide) (by decide) d_Pr_readEscape_178 (fun H locs hI => ?_)
                              refine W.eq (g2 := F0 m 181 ls []) rfl ?_
                              refine lv_aload_n hx hb d_Pr_readEscape_181 rfl (lv_at hl 1 rfl) ?_
                              obtain ⟨x97, ex97, hf⟩ := z_bs hf
                              refine z_getF X hI (k := 0) (ci := 8) (gR_s ex97) i_Pr rfl (by decide) wf_Pr_9 d_Pr_readEscape_182 ?_
                              refine lv_dup hx hb d_Pr_readEscape_185 rfl ?_
                              obtain ⟨x98, ex98, hf⟩ := z_bs hf
                              refine z_getF X hI (k := 1) (ci := 2) (gI_s ex98) i_Cur rfl (by decide) wf_Pr_86 d_Pr_readEscape_186 ?_
                              refine lv_iconst (v := 2) hx hb d_Pr_readEscape_189 (by decide) ?_
                              refine lv_iadd hx hb d_Pr_readEscape_190 ?_
                              obtain ⟨h99, eh99, hf⟩ := z_bs hf
                              refine z_putF X hI (k := 1) (ci := 2) (ty0 := t_Cur) eh99 i_Cur t_Cur_ok n_Cur rfl (by decide) wf_Pr_86 rfl rfl rfl d_Pr_readEscape_191 (fun H locs hI => ?_)
                              refine lv_iconst (v := 1) hx hb d_Pr_readEscape_194 (by decide) ?_
                              cases hf
                              exact z_zret X hI (Or.inr rfl) d_Pr_readEscape_195
                            · rw [if_pos c93] at hf
                              refine lv_iconst (v := 0) hx hb d_Pr_readEscape_170 (by decide) ?_
                              cases hf
                              exact z_zret X hI (Or.inl rfl) d_Pr_readEscape_171
                          · rw [if_neg c90] at hf
                            refine z_lokD (ks := [-1, 36, 40, 41, 42, 46, 47, 49, 50, 51, 91, 92, 94]) (tgt := 196) hx hb d_Pr_readEscape_10 (by decide) (by decide) (by simp only [List.forall_mem_cons, List.not_mem_nil, false_implies, implies_true, and_true]; exact ⟨z_ne c5 (by decide), z_ne c10 (by decide), z_ne c20 (by decide), z_ne c24 (by decide), z_ne c28 (by decide), z_ne c38 (by decide), z_ne c48 (by decide), z_ne c58 (by decide), z_ne c62 (by decide), z_ne c66 (by decide), z_ne c70 (by decide), z_ne c80 (by decide), z_ne c90 (by decide)⟩) (by decide) ?_
                            refine lv_aload_n hx hb d_Pr_readEscape_196 rfl (lv_at hl 1 rfl) ?_
                            obtain ⟨x100, ex100, hf⟩ := z_bs hf
                            refine z_getF X hI (k := 0) (ci := 8) (gR_s ex100) i_Pr rfl (by decide) wf_Pr_9 d_Pr_readEscape_197 ?_
                            refine lv_iconst (v := 0) hx hb d_Pr_readEscape_200 (by decide) ?_
                            obtain ⟨u101, eu101, hf⟩ := z_bs hf
                            obtain ⟨r102, er102, hf⟩ := z_bs hf
                            refine z_callV (As := [.int 0]) (rest := []) (r := (some (.int r102.1))) (h' := r102.2) X hI eu101 (s_Cur_refuse er102) rfl rfl wm_Pr_51 yi_Cur_refuse rfl hl.1 rfl (Nat.le_of_ble_eq_true rfl) (by decide) (by decide) d_Pr_readEscape_201 (fun H locs hI => ?_)
                            refine W.eq (g2 := F0 m 204 ls [.int (r102.1)]) rfl ?_
                            obtain ⟨x103, ex103, hf⟩ := z_bs hf
                            refine z_topi (zB_s ex103).1 ?_
                            cases hf
                            exact z_zret X hI (zB_s2 ex103) d_Pr_readEscape_204
def f_Pr_isOutsideSets (N : Nat) (v0 : Int32) (h : z_H) : Option (Int32 × z_H) :=
  if v0 = (-1) then
  (some (1, h))
  else
  (if v0 = 10 then
  (some (1, h))
  else
  (if v0 = 47 then
  (some (1, h))
  else
  (if v0 = 93 then
  (some (1, h))
  else
  (some (0, h)))))
set_option maxRecDepth 20000 in
set_option maxHeartbeats 2000000 in
theorem s_Pr_isOutsideSets {l : Launch} {D : va_G} {dA : Nat → ClassId} {B N : Nat} {v0 : Int32} {h h' : z_H} {r : Int32} (hf : f_Pr_isOutsideSets N v0 h = some (r, h')) : z_Met l y_Pr_isOutsideSets prog_10_method_17_code 1 (some .boolean) 0 0 D dA B [.int v0] h (some (.int r)) h' := by
  refine z_of (by decide) (Nat.le_of_ble_eq_true rfl) (fun p e s m below meth c ls X hI hl => ?_)
  have hx := z_hx X
  have hb := z_hb X
  have hl : lv_has ls 1 [(0, .int v0)] := hl
  unfold f_Pr_isOutsideSets at hf
  obtain ⟨locs, hlo⟩ : ∃ z : List Loc, z = [] := ⟨_, rfl⟩
  rw [← hlo] at hI ⊢
  refine lv_iload_n hx hb d_Pr_isOutsideSets_0 rfl (lv_at hl 0 rfl) ?_
  refine lv_iconst (v := (-1)) hx hb d_Pr_isOutsideSets_1 (by decide) ?_
  refine lv_icmp_eq (tgt := 23) hx hb d_Pr_isOutsideSets_2 (by decide) (fun c1 => ?_) (fun c1 => ?_)
  · rw [if_pos c1] at hf
    refine lv_iconst (v := 1) hx hb d_Pr_isOutsideSets_23 (by decide) ?_
    refine lv_goto (tgt := 28) hx hb d_Pr_isOutsideSets_24 (by decide) ?_
    cases hf
    exact z_zret X hI (Or.inr rfl) d_Pr_isOutsideSets_28
  · rw [if_neg c1] at hf
    refine lv_iload_n hx hb d_Pr_isOutsideSets_5 rfl (lv_at hl 0 rfl) ?_
    refine lv_bipush (v := 10) hx hb d_Pr_isOutsideSets_6 (by decide) ?_
    refine lv_icmp_eq (tgt := 23) hx hb d_Pr_isOutsideSets_8 (by decide) (fun c2 => ?_) (fun c2 => ?_)
    · rw [if_pos c2] at hf
      refine lv_iconst (v := 1) hx hb d_Pr_isOutsideSets_23 (by decide) ?_
      refine lv_goto (tgt := 28) hx hb d_Pr_isOutsideSets_24 (by decide) ?_
      cases hf
      exact z_zret X hI (Or.inr rfl) d_Pr_isOutsideSets_28
    · rw [if_neg c2] at hf
      refine lv_iload_n hx hb d_Pr_isOutsideSets_11 rfl (lv_at hl 0 rfl) ?_
      refine lv_bipush (v := 47) hx hb d_Pr_isOutsideSets_12 (by decide) ?_
      refine lv_icmp_eq (tgt := 23) hx hb d_Pr_isOutsideSets_14 (by decide) (fun c3 => ?_) (fun c3 => ?_)
      · rw [if_pos c3] at hf
        refine lv_iconst (v := 1) hx hb d_Pr_isOutsideSets_23 (by decide) ?_
        refine lv_goto (tgt := 28) hx hb d_Pr_isOutsideSets_24 (by decide) ?_
        cases hf
        exact z_zret X hI (Or.inr rfl) d_Pr_isOutsideSets_28
      · rw [if_neg c3] at hf
        refine lv_iload_n hx hb d_Pr_isOutsideSets_17 rfl (lv_at hl 0 rfl) ?_
        refine lv_bipush (v := 93) hx hb d_Pr_isOutsideSets_18 (by decide) ?_
        refine lv_icmp_ne (tgt := 27) hx hb d_Pr_isOutsideSets_20 (by decide) (fun c4 => ?_) (fun c4 => ?_)
        · rw [if_neg c4] at hf
          refine lv_iconst (v := 0) hx hb d_Pr_isOutsideSets_27 (by decide) ?_
          cases hf
          exact z_zret X hI (Or.inl rfl) d_Pr_isOutsideSets_28
        · rw [if_pos c4] at hf
          refine lv_iconst (v := 1) hx hb d_Pr_isOutsideSets_23 (by decide) ?_
          refine lv_goto (tgt := 28) hx hb d_Pr_isOutsideSets_24 (by decide) ?_
          cases hf
          exact z_zret X hI (Or.inr rfl) d_Pr_isOutsideSets_28
def f_Pr_readRange_87 (N : Nat)  (v0 : Nat) (h : z_H) : Option (Int32 × z_H) :=
  z_b (gR h v0 8 0) fun x1 =>
  z_b (gO h x1 2) fun u2 =>
  z_b (f_Cur_refuse N x1 0 h) fun r3 =>
  z_b (zB (r3.1)) fun x4 =>
  some (x4, r3.2)
set_option maxRecDepth 20000 in
set_option maxHeartbeats 2000000 in
theorem s_Pr_readRange_87 (X : z_X p s m args meth c prog_10_method_16_code 3 (some .boolean) Ts "StreamForge$PatternReader" D dA B) {N : Nat} {r : Int32} {h' : z_H}   : ∀ (v0 : Nat) (h : z_H) (H : Heap) (locs : List Loc) (ls : Array Slot), z_I D dA B h s.heap H locs → lv_has ls 3 [(0, .ref v0)] → f_Pr_readRange_87 N  v0 h = some (r, h') → W p l e (z_rm 1 25) s m args below meth c H locs 0 0 (MQ below (z_Q D dA B (some (.int r)) h') args s 0 0 (fun q => B ≤ q)) (F0 m 87 ls []) := by
  have hx := z_hx X
  have hb := z_hb X
  intro v0 h H locs ls hI hl hf
  unfold f_Pr_readRange_87 at hf
  refine lv_aload_n hx hb d_Pr_readRange_87 rfl (lv_at hl 0 rfl) ?_
  obtain ⟨x1, ex1, hf⟩ := z_bs hf
  refine z_getF X hI (k := 0) (ci := 8) (gR_s ex1) i_Pr rfl (by decide) wf_Pr_9 d_Pr_readRange_88 ?_
  refine lv_iconst (v := 0) hx hb d_Pr_readRange_91 (by decide) ?_
  obtain ⟨u2, eu2, hf⟩ := z_bs hf
  obtain ⟨r3, er3, hf⟩ := z_bs hf
  refine z_callV (As := [.int 0]) (rest := []) (r := (some (.int r3.1))) (h' := r3.2) X hI eu2 (s_Cur_refuse er3) rfl rfl wm_Pr_51 yi_Cur_refuse rfl hl.1 rfl (Nat.le_of_ble_eq_true rfl) (by decide) (by decide) d_Pr_readRange_92 (fun H locs hI => ?_)
  refine W.eq (g2 := F0 m 95 ls [.int (r3.1)]) rfl ?_
  obtain ⟨x4, ex4, hf⟩ := z_bs hf
  refine z_topi (zB_s ex4).1 ?_
  cases hf
  exact z_zret X hI (zB_s2 ex4) d_Pr_readRange_95
def f_Pr_readRange_75 (N : Nat)  (v0 : Nat) (v1 : Int32) (v2 : Int32) (h : z_H) : Option (Int32 × z_H) :=
  z_b (f_Pr_isOutsideSets N v2 h) fun r1 =>
  if (r1.1) = 0 then
  (if v1 ≤ v2 then
  (z_b (gR r1.2 v0 8 1) fun x4 =>
  z_b (gO r1.2 x4 4) fun u5 =>
  z_b (f_It_allow N x4 v1 v2 r1.2) fun r6 =>
  z_b (gR r6 v0 8 0) fun x7 =>
  z_b (gI r6 x7 2 1) fun x8 =>
  z_b (sF r6 x7 2 1 (.int (x8 + 1))) fun h9 =>
  some (1, h9))
  else
  (f_Pr_readRange_87 N v0 r1.2))
  else
  (f_Pr_readRange_87 N v0 r1.2)
set_option maxRecDepth 20000 in
set_option maxHeartbeats 2000000 in
theorem s_Pr_readRange_75 (X : z_X p s m args meth c prog_10_method_16_code 3 (some .boolean) Ts "StreamForge$PatternReader" D dA B) {N : Nat} {r : Int32} {h' : z_H}   : ∀ (v0 : Nat) (v1 : Int32) (v2 : Int32) (h : z_H) (H : Heap) (locs : List Loc) (ls : Array Slot), z_I D dA B h s.heap H locs → lv_has ls 3 [(0, .ref v0), (1, .int v1), (2, .int v2)] → f_Pr_readRange_75 N  v0 v1 v2 h = some (r, h') → W p l e (z_rm 1 25) s m args below meth c H locs 0 0 (MQ below (z_Q D dA B (some (.int r)) h') args s 0 0 (fun q => B ≤ q)) (F0 m 75 ls []) := by
  have hx := z_hx X
  have hb := z_hb X
  intro v0 v1 v2 h H locs ls hI hl hf
  unfold f_Pr_readRange_75 at hf
  refine lv_iload_n hx hb d_Pr_readRange_75 rfl (lv_at hl 2 rfl) ?_
  obtain ⟨r1, er1, hf⟩ := z_bs hf
  refine z_callS (As := [.int v2]) (rest := []) (r := (some (.int r1.1))) (h' := r1.2) X hI (s_Pr_isOutsideSets er1) rfl wm_Pr_135 yi_Pr_isOutsideSets rfl hl.1 rfl (Nat.le_of_ble_eq_true rfl) (by decide) (by decide) d_Pr_readRange_76 (fun H locs hI => ?_)
  refine W.eq (g2 := F0 m 79 ls [.int (r1.1)]) rfl ?_
  refine lv_if_ne (tgt := 87) hx hb d_Pr_readRange_79 (by decide) (fun c2 => ?_) (fun c2 => ?_)
  · rw [if_neg c2] at hf
    exact s_Pr_readRange_87 X  v0 r1.2 _ _ _ hI (lv_sub hl [0] rfl) hf
  · rw [if_pos c2] at hf
    refine lv_iload_n hx hb d_Pr_readRange_82 rfl (lv_at hl 2 rfl) ?_
    refine lv_iload_n hx hb d_Pr_readRange_83 rfl (lv_at hl 1 rfl) ?_
    refine lv_icmp_ge (tgt := 96) hx hb d_Pr_readRange_84 (by decide) (fun c3 => ?_) (fun c3 => ?_)
    · rw [if_pos c3] at hf
      refine lv_aload_n hx hb d_Pr_readRange_96 rfl (lv_at hl 0 rfl) ?_
      obtain ⟨x4, ex4, hf⟩ := z_bs hf
      refine z_getF X hI (k := 1) (ci := 8) (gR_s ex4) i_Pr rfl (by decide) wf_Pr_62 d_Pr_readRange_97 ?_
      refine lv_iload_n hx hb d_Pr_readRange_100 rfl (lv_at hl 1 rfl) ?_
      refine lv_iload_n hx hb d_Pr_readRange_101 rfl (lv_at hl 2 rfl) ?_
      obtain ⟨u5, eu5, hf⟩ := z_bs hf
      obtain ⟨r6, er6, hf⟩ := z_bs hf
      refine z_callV (As := [.int v1, .int v2]) (rest := []) (r := none) (h' := r6) X hI eu5 (s_It_allow er6) rfl rfl wm_Pr_113 yi_It_allow rfl hl.1 rfl (Nat.le_of_ble_eq_true rfl) (by decide) (by decide) d_Pr_readRange_102 (fun H locs hI => ?_)
      refine W.eq (g2 := F0 m 105 ls []) rfl ?_
      refine lv_aload_n hx hb d_Pr_readRange_105 rfl (lv_at hl 0 rfl) ?_
      obtain ⟨x7, ex7, hf⟩ := z_bs hf
      refine z_getF X hI (k := 0) (ci := 8) (gR_s ex7) i_Pr rfl (by decide) wf_Pr_9 d_Pr_readRange_106 ?_
      refine lv_dup hx hb d_Pr_readRange_109 rfl ?_
      obtain ⟨x8, ex8, hf⟩ := z_bs hf
      refine z_getF X hI (k := 1) (ci := 2) (gI_s ex8) i_Cur rfl (by decide) wf_Pr_86 d_Pr_readRange_110 ?_
      refine lv_iconst (v := 1) hx hb d_Pr_readRange_113 (by decide) ?_
      refine lv_iadd hx hb d_Pr_readRange_114 ?_
      obtain ⟨h9, eh9, hf⟩ := z_bs hf
      refine z_putF X hI (k := 1) (ci := 2) (ty0 := t_Cur) eh9 i_Cur t_Cur_ok n_Cur rfl (by decide) wf_Pr_86 rfl rfl rfl d_Pr_readRange_115 (fun H locs hI => ?_)
      refine lv_iconst (v := 1) hx hb d_Pr_readRange_118 (by decide) ?_
      cases hf
      exact z_zret X hI (Or.inr rfl) d_Pr_readRange_119
    · rw [if_neg c3] at hf
      exact s_Pr_readRange_87 X  v0 r1.2 _ _ _ hI (lv_sub hl [0] rfl) hf
def f_Pr_readRange (N : Nat) (v0 : Nat) (h : z_H) : Option (Int32 × z_H) :=
  z_b (gR h v0 8 0) fun x1 =>
  z_b (gO h x1 2) fun u2 =>
  z_b (f_Cur_look N x1 0 h) fun r3 =>
  z_b (some (r3.1)) fun x4 =>
  z_b (f_Pr_isOutsideSets N x4 r3.2) fun r5 =>
  if (r5.1) = 0 then
  (z_b (gR r5.2 v0 8 0) fun x7 =>
  z_b (gO r5.2 x7 2) fun u8 =>
  z_b (f_Cur_look N x7 1 r5.2) fun r9 =>
  if (r9.1) = 45 then
  (z_b (gR r9.2 v0 8 0) fun x11 =>
  z_b (gO r9.2 x11 2) fun u12 =>
  z_b (f_Cur_look N x11 2 r9.2) fun r13 =>
  if (r13.1) = 93 then
  (f_Pr_readRange_75 N v0 x4 x4 r13.2)
  else
  (z_b (gR r13.2 v0 8 0) fun x15 =>
  z_b (gI r13.2 x15 2 1) fun x16 =>
  z_b (sF r13.2 x15 2 1 (.int (x16 + 2))) fun h17 =>
  z_b (gR h17 v0 8 0) fun x18 =>
  z_b (gO h17 x18 2) fun u19 =>
  z_b (f_Cur_look N x18 0 h17) fun r20 =>
  z_b (some (r20.1)) fun x21 =>
  f_Pr_readRange_75 N v0 x4 x21 r20.2))
  else
  (f_Pr_readRange_75 N v0 x4 x4 r9.2))
  else
  (z_b (gR r5.2 v0 8 0) fun x22 =>
  z_b (gO r5.2 x22 2) fun u23 =>
  z_b (f_Cur_refuse N x22 0 r5.2) fun r24 =>
  z_b (zB (r24.1)) fun x25 =>
  some (x25, r24.2))
set_option maxRecDepth 20000 in
set_option maxHeartbeats 2000000 in
theorem s_Pr_readRange {l : Launch} {D : va_G} {dA : Nat → ClassId} {B N : Nat} {v0 : Nat} {h h' : z_H} {r : Int32} (hf : f_Pr_readRange N v0 h = some (r, h')) : z_Met l y_Pr_readRange prog_10_method_16_code 3 (some .boolean) 1 25 D dA B [.ref v0] h (some (.int r)) h' := by
  refine z_of (by decide) (Nat.le_of_ble_eq_true rfl) (fun p e s m below meth c ls X hI hl => ?_)
  have hx := z_hx X
  have hb := z_hb X
  have hl : lv_has ls 3 [(0, .ref v0)] := hl
  unfold f_Pr_readRange at hf
  obtain ⟨locs, hlo⟩ : ∃ z : List Loc, z = [] := ⟨_, rfl⟩
  rw [← hlo] at hI ⊢
  refine lv_aload_n hx hb d_Pr_readRange_0 rfl (lv_at hl 0 rfl) ?_
  obtain ⟨x1, ex1, hf⟩ := z_bs hf
  refine z_getF X hI (k := 0) (ci := 8) (gR_s ex1) i_Pr rfl (by decide) wf_Pr_9 d_Pr_readRange_1 ?_
  refine lv_iconst (v := 0) hx hb d_Pr_readRange_4 (by decide) ?_
  obtain ⟨u2, eu2, hf⟩ := z_bs hf
  obtain ⟨r3, er3, hf⟩ := z_bs hf
  refine z_callV (As := [.int 0]) (rest := []) (r := (some (.int r3.1))) (h' := r3.2) X hI eu2 (s_Cur_look er3) rfl rfl wm_Pr_19 yi_Cur_look rfl hl.1 rfl (Nat.le_of_ble_eq_true rfl) (by decide) (by decide) d_Pr_readRange_5 (fun H locs hI => ?_)
  refine W.eq (g2 := F0 m 8 ls [.int (r3.1)]) rfl ?_
  obtain ⟨x4, ex4, hf⟩ := z_bs hf
  refine z_topi (Option.some.inj ex4) ?_
  refine lv_istore_n (lv' := [(1, .int x4), (0, .ref v0)]) hx hb d_Pr_readRange_8 rfl hl (by decide) rfl (fun ls hl => ?_)
  refine lv_iload_n hx hb d_Pr_readRange_9 rfl (lv_at hl 0 rfl) ?_
  obtain ⟨r5, er5, hf⟩ := z_bs hf
  refine z_callS (As := [.int x4]) (rest := []) (r := (some (.int r5.1))) (h' := r5.2) X hI (s_Pr_isOutsideSets er5) rfl wm_Pr_135 yi_Pr_isOutsideSets rfl hl.1 rfl (Nat.le_of_ble_eq_true rfl) (by decide) (by decide) d_Pr_readRange_10 (fun H locs hI => ?_)
  refine W.eq (g2 := F0 m 13 ls [.int (r5.1)]) rfl ?_
  refine lv_if_eq (tgt := 25) hx hb d_Pr_readRange_13 (by decide) (fun c6 => ?_) (fun c6 => ?_)
  · rw [if_pos c6] at hf
    refine lv_iload_n hx hb d_Pr_readRange_25 rfl (lv_at hl 0 rfl) ?_
    refine lv_istore_n (lv' := [(2, .int x4), (1, .int x4), (0, .ref v0)]) hx hb d_Pr_readRange_26 rfl hl (by decide) rfl (fun ls hl => ?_)
    refine lv_aload_n hx hb d_Pr_readRange_27 rfl (lv_at hl 2 rfl) ?_
    obtain ⟨x7, ex7, hf⟩ := z_bs hf
    refine z_getF X hI (k := 0) (ci := 8) (gR_s ex7) i_Pr rfl (by decide) wf_Pr_9 d_Pr_readRange_28 ?_
    refine lv_iconst (v := 1) hx hb d_Pr_readRange_31 (by decide) ?_
    obtain ⟨u8, eu8, hf⟩ := z_bs hf
    obtain ⟨r9, er9, hf⟩ := z_bs hf
    refine z_callV (As := [.int 1]) (rest := []) (r := (some (.int r9.1))) (h' := r9.2) X hI eu8 (s_Cur_look er9) rfl rfl wm_Pr_19 yi_Cur_look rfl hl.1 rfl (Nat.le_of_ble_eq_true rfl) (by decide) (by decide) d_Pr_readRange_32 (fun H locs hI => ?_)
    refine W.eq (g2 := F0 m 35 ls [.int (r9.1)]) rfl ?_
    refine lv_bipush (v := 45) hx hb d_Pr_readRange_35 (by decide) ?_
    refine lv_icmp_ne (tgt := 75) hx hb d_Pr_readRange_37 (by decide) (fun c10 => ?_) (fun c10 => ?_)
    · rw [if_neg c10] at hf
      exact s_Pr_readRange_75 X  v0 x4 x4 r9.2 _ _ _ hI (lv_sub hl [2, 1, 0] rfl) hf
    · rw [if_pos c10] at hf
      refine lv_aload_n hx hb d_Pr_readRange_40 rfl (lv_at hl 2 rfl) ?_
      obtain ⟨x11, ex11, hf⟩ := z_bs hf
      refine z_getF X hI (k := 0) (ci := 8) (gR_s ex11) i_Pr rfl (by decide) wf_Pr_9 d_Pr_readRange_41 ?_
      refine lv_iconst (v := 2) hx hb d_Pr_readRange_44 (by decide) ?_
      obtain ⟨u12, eu12, hf⟩ := z_bs hf
      obtain ⟨r13, er13, hf⟩ := z_bs hf
      refine z_callV (As := [.int 2]) (rest := []) (r := (some (.int r13.1))) (h' := r13.2) X hI eu12 (s_Cur_look er13) rfl rfl wm_Pr_19 yi_Cur_look rfl hl.1 rfl (Nat.le_of_ble_eq_true rfl) (by decide) (by decide) d_Pr_readRange_45 (fun H locs hI => ?_)
      refine W.eq (g2 := F0 m 48 ls [.int (r13.1)]) rfl ?_
      refine lv_bipush (v := 93) hx hb d_Pr_readRange_48 (by decide) ?_
      refine lv_icmp_eq (tgt := 75) hx hb d_Pr_readRange_50 (by decide) (fun c14 => ?_) (fun c14 => ?_)
      · rw [if_pos c14] at hf
        exact s_Pr_readRange_75 X  v0 x4 x4 r13.2 _ _ _ hI (lv_sub hl [2, 1, 0] rfl) hf
      · rw [if_neg c14] at hf
        refine lv_aload_n hx hb d_Pr_readRange_53 rfl (lv_at hl 2 rfl) ?_
        obtain ⟨x15, ex15, hf⟩ := z_bs hf
        refine z_getF X hI (k := 0) (ci := 8) (gR_s ex15) i_Pr rfl (by decide) wf_Pr_9 d_Pr_readRange_54 ?_
        refine lv_dup hx hb d_Pr_readRange_57 rfl ?_
        obtain ⟨x16, ex16, hf⟩ := z_bs hf
        refine z_getF X hI (k := 1) (ci := 2) (gI_s ex16) i_Cur rfl (by decide) wf_Pr_86 d_Pr_readRange_58 ?_
        refine lv_iconst (v := 2) hx hb d_Pr_readRange_61 (by decide) ?_
        refine lv_iadd hx hb d_Pr_readRange_62 ?_
        obtain ⟨h17, eh17, hf⟩ := z_bs hf
        refine z_putF X hI (k := 1) (ci := 2) (ty0 := t_Cur) eh17 i_Cur t_Cur_ok n_Cur rfl (by decide) wf_Pr_86 rfl rfl rfl d_Pr_readRange_63 (fun H locs hI => ?_)
        refine lv_aload_n hx hb d_Pr_readRange_66 rfl (lv_at hl 2 rfl) ?_
        obtain ⟨x18, ex18, hf⟩ := z_bs hf
        refine z_getF X hI (k := 0) (ci := 8) (gR_s ex18) i_Pr rfl (by decide) wf_Pr_9 d_Pr_readRange_67 ?_
        refine lv_iconst (v := 0) hx hb d_Pr_readRange_70 (by decide) ?_
        obtain ⟨u19, eu19, hf⟩ := z_bs hf
        obtain ⟨r20, er20, hf⟩ := z_bs hf
        refine z_callV (As := [.int 0]) (rest := []) (r := (some (.int r20.1))) (h' := r20.2) X hI eu19 (s_Cur_look er20) rfl rfl wm_Pr_19 yi_Cur_look rfl hl.1 rfl (Nat.le_of_ble_eq_true rfl) (by decide) (by decide) d_Pr_readRange_71 (fun H locs hI => ?_)
        refine W.eq (g2 := F0 m 74 ls [.int (r20.1)]) rfl ?_
        obtain ⟨x21, ex21, hf⟩ := z_bs hf
        refine z_topi (Option.some.inj ex21) ?_
        refine lv_istore_n (lv' := [(2, .int x21), (1, .int x4), (0, .ref v0)]) hx hb d_Pr_readRange_74 rfl hl (by decide) rfl (fun ls hl => ?_)
        exact s_Pr_readRange_75 X  v0 x4 x21 r20.2 _ _ _ hI (lv_sub hl [2, 1, 0] rfl) hf
  · rw [if_neg c6] at hf
    refine lv_aload_n hx hb d_Pr_readRange_16 rfl (lv_at hl 1 rfl) ?_
    obtain ⟨x22, ex22, hf⟩ := z_bs hf
    refine z_getF X hI (k := 0) (ci := 8) (gR_s ex22) i_Pr rfl (by decide) wf_Pr_9 d_Pr_readRange_17 ?_
    refine lv_iconst (v := 0) hx hb d_Pr_readRange_20 (by decide) ?_
    obtain ⟨u23, eu23, hf⟩ := z_bs hf
    obtain ⟨r24, er24, hf⟩ := z_bs hf
    refine z_callV (As := [.int 0]) (rest := []) (r := (some (.int r24.1))) (h' := r24.2) X hI eu23 (s_Cur_refuse er24) rfl rfl wm_Pr_51 yi_Cur_refuse rfl hl.1 rfl (Nat.le_of_ble_eq_true rfl) (by decide) (by decide) d_Pr_readRange_21 (fun H locs hI => ?_)
    refine W.eq (g2 := F0 m 24 ls [.int (r24.1)]) rfl ?_
    obtain ⟨x25, ex25, hf⟩ := z_bs hf
    refine z_topi (zB_s ex25).1 ?_
    cases hf
    exact z_zret X hI (zB_s2 ex25) d_Pr_readRange_24
def f_Pr_readSet_118 (N : Nat)  (v0 : Nat) (h : z_H) : Option (Int32 × z_H) :=
  z_b (gR h v0 8 0) fun x1 =>
  z_b (gO h x1 2) fun u2 =>
  z_b (f_Cur_pass N x1 93 h) fun r3 =>
  z_b (zB (r3.1)) fun x4 =>
  some (x4, r3.2)
set_option maxRecDepth 20000 in
set_option maxHeartbeats 2000000 in
theorem s_Pr_readSet_118 (X : z_X p s m args meth c prog_10_method_15_code 4 (some .boolean) Ts "StreamForge$PatternReader" D dA B) {N : Nat} {r : Int32} {h' : z_H}   : ∀ (v0 : Nat) (h : z_H) (H : Heap) (locs : List Loc) (ls : Array Slot), z_I D dA B h s.heap H locs → lv_has ls 4 [(0, .ref v0)] → f_Pr_readSet_118 N  v0 h = some (r, h') → W p l e (z_rm 2 47) s m args below meth c H locs 0 0 (MQ below (z_Q D dA B (some (.int r)) h') args s 0 0 (fun q => B ≤ q)) (F0 m 118 ls []) := by
  have hx := z_hx X
  have hb := z_hb X
  intro v0 h H locs ls hI hl hf
  unfold f_Pr_readSet_118 at hf
  refine lv_aload_n hx hb d_Pr_readSet_118 rfl (lv_at hl 0 rfl) ?_
  obtain ⟨x1, ex1, hf⟩ := z_bs hf
  refine z_getF X hI (k := 0) (ci := 8) (gR_s ex1) i_Pr rfl (by decide) wf_Pr_9 d_Pr_readSet_119 ?_
  refine lv_bipush (v := 93) hx hb d_Pr_readSet_122 (by decide) ?_
  obtain ⟨u2, eu2, hf⟩ := z_bs hf
  obtain ⟨r3, er3, hf⟩ := z_bs hf
  refine z_callV (As := [.int 93]) (rest := []) (r := (some (.int r3.1))) (h' := r3.2) X hI eu2 (s_Cur_pass er3) rfl rfl wm_Pr_55 yi_Cur_pass rfl hl.1 rfl (Nat.le_of_ble_eq_true rfl) (by decide) (by decide) d_Pr_readSet_124 (fun H locs hI => ?_)
  refine W.eq (g2 := F0 m 127 ls [.int (r3.1)]) rfl ?_
  obtain ⟨x4, ex4, hf⟩ := z_bs hf
  refine z_topi (zB_s ex4).1 ?_
  cases hf
  exact z_zret X hI (zB_s2 ex4) d_Pr_readSet_127
def f_Pr_readSet_107 (N : Nat)  (v0 : Nat) (v1 : Int32) (h : z_H) : Option (Int32 × z_H) :=
  if v1 = 0 then
  (f_Pr_readSet_118 N v0 h)
  else
  (z_b (gR h v0 8 1) fun x2 =>
  z_b (gO h x2 4) fun u3 =>
  z_b (f_It_turn N x2 h) fun r4 =>
  f_Pr_readSet_118 N v0 r4)
set_option maxRecDepth 20000 in
set_option maxHeartbeats 2000000 in
theorem s_Pr_readSet_107 (X : z_X p s m args meth c prog_10_method_15_code 4 (some .boolean) Ts "StreamForge$PatternReader" D dA B) {N : Nat} {r : Int32} {h' : z_H}   : ∀ (v0 : Nat) (v1 : Int32) (h : z_H) (H : Heap) (locs : List Loc) (ls : Array Slot), z_I D dA B h s.heap H locs → lv_has ls 4 [(0, .ref v0), (1, .int v1)] → f_Pr_readSet_107 N  v0 v1 h = some (r, h') → W p l e (z_rm 2 47) s m args below meth c H locs 0 0 (MQ below (z_Q D dA B (some (.int r)) h') args s 0 0 (fun q => B ≤ q)) (F0 m 107 ls []) := by
  have hx := z_hx X
  have hb := z_hb X
  intro v0 v1 h H locs ls hI hl hf
  unfold f_Pr_readSet_107 at hf
  refine lv_iload_n hx hb d_Pr_readSet_107 rfl (lv_at hl 1 rfl) ?_
  refine lv_if_eq (tgt := 118) hx hb d_Pr_readSet_108 (by decide) (fun c1 => ?_) (fun c1 => ?_)
  · rw [if_pos c1] at hf
    exact s_Pr_readSet_118 X  v0 h _ _ _ hI (lv_sub hl [0] rfl) hf
  · rw [if_neg c1] at hf
    refine lv_aload_n hx hb d_Pr_readSet_111 rfl (lv_at hl 0 rfl) ?_
    obtain ⟨x2, ex2, hf⟩ := z_bs hf
    refine z_getF X hI (k := 1) (ci := 8) (gR_s ex2) i_Pr rfl (by decide) wf_Pr_62 d_Pr_readSet_112 ?_
    obtain ⟨u3, eu3, hf⟩ := z_bs hf
    obtain ⟨r4, er4, hf⟩ := z_bs hf
    refine z_callV (As := []) (rest := []) (r := none) (h' := r4) X hI eu3 (s_It_turn er4) rfl rfl wm_Pr_110 yi_It_turn rfl hl.1 rfl (Nat.le_of_ble_eq_true rfl) (by decide) (by decide) d_Pr_readSet_115 (fun H locs hI => ?_)
    refine W.eq (g2 := F0 m 118 ls []) rfl ?_
    exact s_Pr_readSet_118 X  v0 r4 _ _ _ hI (lv_sub hl [0] rfl) hf
def f_Pr_readSet_62 (N : Nat)  : Nat → Nat → Int32 → Int32 → Int32 → z_H → Option (Int32 × z_H)
  | 0, _, _, _, _, _ => none
  | n + 1, v0, v1, v2, v3, h =>
    if 240 < v3 then
    (f_Pr_readSet_107 N v0 v1 h)
    else
    (if v2 = 0 then
    (z_b (gO h v0 8) fun u3 =>
    z_b (f_Pr_readRange N v0 h) fun r4 =>
    if (r4.1) = 0 then
    (some (0, r4.2))
    else
    (z_b (gR r4.2 v0 8 0) fun x6 =>
    z_b (gO r4.2 x6 2) fun u7 =>
    z_b (f_Cur_look N x6 0 r4.2) fun r8 =>
    if (r8.1) = 93 then
    (z_b (some (v3 + 1)) fun x11 =>
    (f_Pr_readSet_62 N  n) v0 v1 1 x11 r8.2)
    else
    (z_b (some (v3 + 1)) fun x10 =>
    (f_Pr_readSet_62 N  n) v0 v1 0 x10 r8.2)))
    else
    (f_Pr_readSet_107 N v0 v1 h))
set_option maxRecDepth 20000 in
set_option maxHeartbeats 2000000 in
theorem s_Pr_readSet_62 (X : z_X p s m args meth c prog_10_method_15_code 4 (some .boolean) Ts "StreamForge$PatternReader" D dA B) {N : Nat} {r : Int32} {h' : z_H}   : ∀ n : Nat, ∀ (v0 : Nat) (v1 : Int32) (v2 : Int32) (v3 : Int32) (h : z_H) (H : Heap) (locs : List Loc) (ls : Array Slot), z_I D dA B h s.heap H locs → lv_has ls 4 [(0, .ref v0), (1, .int v1), (2, .int v2), (3, .int v3)] → f_Pr_readSet_62 N  n v0 v1 v2 v3 h = some (r, h') → W p l e (z_rm 2 47) s m args below meth c H locs 0 0 (MQ below (z_Q D dA B (some (.int r)) h') args s 0 0 (fun q => B ≤ q)) (F0 m 62 ls []) := by
  have hx := z_hx X
  have hb := z_hb X
  intro n
  induction n with
  | zero => intro v0 v1 v2 v3 h H locs ls hI hl hf; rw [f_Pr_readSet_62] at hf; cases hf
  | succ n ih =>
    intro v0 v1 v2 v3 h H locs ls hI hl hf
    rw [f_Pr_readSet_62] at hf
    refine lv_iload_n hx hb d_Pr_readSet_62 rfl (lv_at hl 3 rfl) ?_
    refine lv_sipush (v := 240) hx hb d_Pr_readSet_63 (by decide) ?_
    refine lv_icmp_gt (tgt := 107) hx hb d_Pr_readSet_66 (by decide) (fun c1 => ?_) (fun c1 => ?_)
    · rw [if_pos c1] at hf
      exact s_Pr_readSet_107 X  v0 v1 h _ _ _ hI (lv_sub hl [0, 1] rfl) hf
    · rw [if_neg c1] at hf
      refine lv_iload_n hx hb d_Pr_readSet_69 rfl (lv_at hl 2 rfl) ?_
      refine lv_if_ne (tgt := 107) hx hb d_Pr_readSet_70 (by decide) (fun c2 => ?_) (fun c2 => ?_)
      · rw [if_neg c2] at hf
        exact s_Pr_readSet_107 X  v0 v1 h _ _ _ hI (lv_sub hl [0, 1] rfl) hf
      · rw [if_pos c2] at hf
        refine lv_aload_n hx hb d_Pr_readSet_73 rfl (lv_at hl 0 rfl) ?_
        obtain ⟨u3, eu3, hf⟩ := z_bs hf
        obtain ⟨r4, er4, hf⟩ := z_bs hf
        refine z_callV (As := []) (rest := []) (r := (some (.int r4.1))) (h' := r4.2) X hI eu3 (s_Pr_readRange er4) rfl rfl wm_Pr_132 yi_Pr_readRange rfl hl.1 rfl (Nat.le_of_ble_eq_true rfl) (by decide) (by decide) d_Pr_readSet_74 (fun H locs hI => ?_)
        refine W.eq (g2 := F0 m 77 ls [.int (r4.1)]) rfl ?_
        refine lv_if_ne (tgt := 82) hx hb d_Pr_readSet_77 (by decide) (fun c5 => ?_) (fun c5 => ?_)
        · rw [if_neg c5] at hf
          refine lv_aload_n hx hb d_Pr_readSet_82 rfl (lv_at hl 0 rfl) ?_
          obtain ⟨x6, ex6, hf⟩ := z_bs hf
          refine z_getF X hI (k := 0) (ci := 8) (gR_s ex6) i_Pr rfl (by decide) wf_Pr_9 d_Pr_readSet_83 ?_
          refine lv_iconst (v := 0) hx hb d_Pr_readSet_86 (by decide) ?_
          obtain ⟨u7, eu7, hf⟩ := z_bs hf
          obtain ⟨r8, er8, hf⟩ := z_bs hf
          refine z_callV (As := [.int 0]) (rest := []) (r := (some (.int r8.1))) (h' := r8.2) X hI eu7 (s_Cur_look er8) rfl rfl wm_Pr_19 yi_Cur_look rfl hl.1 rfl (Nat.le_of_ble_eq_true rfl) (by decide) (by decide) d_Pr_readSet_87 (fun H locs hI => ?_)
          refine W.eq (g2 := F0 m 90 ls [.int (r8.1)]) rfl ?_
          refine lv_bipush (v := 93) hx hb d_Pr_readSet_90 (by decide) ?_
          refine lv_icmp_ne (tgt := 99) hx hb d_Pr_readSet_92 (by decide) (fun c9 => ?_) (fun c9 => ?_)
          · rw [if_neg c9] at hf
            refine lv_iconst (v := 0) hx hb d_Pr_readSet_99 (by decide) ?_
            refine lv_istore_n (lv' := [(2, .int 0), (0, .ref v0), (1, .int v1), (3, .int v3)]) hx hb d_Pr_readSet_100 rfl hl (by decide) rfl (fun ls hl => ?_)
            obtain ⟨x10, ex10, hf⟩ := z_bs hf
            refine lv_iinc (v := x10) (lv' := [(3, .int x10), (2, .int 0), (0, .ref v0), (1, .int v1)]) hx hb d_Pr_readSet_101 hl (k := 3) rfl (by rw [← Option.some.inj ex10]; rfl) (by decide) rfl (fun ls hl => ?_)
            refine lv_goto (tgt := 62) hx hb d_Pr_readSet_104 (by decide) ?_
            exact ih v0 v1 0 x10 r8.2 _ _ _ hI (lv_sub hl [2, 3, 1, 0] rfl) hf
          · rw [if_pos c9] at hf
            refine lv_iconst (v := 1) hx hb d_Pr_readSet_95 (by decide) ?_
            refine lv_goto (tgt := 100) hx hb d_Pr_readSet_96 (by decide) ?_
            refine lv_istore_n (lv' := [(2, .int 1), (0, .ref v0), (1, .int v1), (3, .int v3)]) hx hb d_Pr_readSet_100 rfl hl (by decide) rfl (fun ls hl => ?_)
            obtain ⟨x11, ex11, hf⟩ := z_bs hf
            refine lv_iinc (v := x11) (lv' := [(3, .int x11), (2, .int 1), (0, .ref v0), (1, .int v1)]) hx hb d_Pr_readSet_101 hl (k := 3) rfl (by rw [← Option.some.inj ex11]; rfl) (by decide) rfl (fun ls hl => ?_)
            refine lv_goto (tgt := 62) hx hb d_Pr_readSet_104 (by decide) ?_
            exact ih v0 v1 1 x11 r8.2 _ _ _ hI (lv_sub hl [2, 3, 1, 0] rfl) hf
        · rw [if_pos c5] at hf
          refine lv_iconst (v := 0) hx hb d_Pr_readSet_80 (by decide) ?_
          cases hf
          exact z_zret X hI (Or.inl rfl) d_Pr_readSet_81
def f_Pr_readSet_58 (N : Nat)  (v0 : Nat) (v1 : Int32) (h : z_H) : Option (Int32 × z_H) :=
  f_Pr_readSet_62 N N v0 v1 0 0 h
set_option maxRecDepth 20000 in
set_option maxHeartbeats 2000000 in
theorem s_Pr_readSet_58 (X : z_X p s m args meth c prog_10_method_15_code 4 (some .boolean) Ts "StreamForge$PatternReader" D dA B) {N : Nat} {r : Int32} {h' : z_H}   : ∀ (v0 : Nat) (v1 : Int32) (h : z_H) (H : Heap) (locs : List Loc) (ls : Array Slot), z_I D dA B h s.heap H locs → lv_has ls 4 [(0, .ref v0), (1, .int v1)] → f_Pr_readSet_58 N  v0 v1 h = some (r, h') → W p l e (z_rm 2 47) s m args below meth c H locs 0 0 (MQ below (z_Q D dA B (some (.int r)) h') args s 0 0 (fun q => B ≤ q)) (F0 m 58 ls []) := by
  have hx := z_hx X
  have hb := z_hb X
  intro v0 v1 h H locs ls hI hl hf
  unfold f_Pr_readSet_58 at hf
  refine lv_iconst (v := 0) hx hb d_Pr_readSet_58 (by decide) ?_
  refine lv_istore_n (lv' := [(2, .int 0), (0, .ref v0), (1, .int v1)]) hx hb d_Pr_readSet_59 rfl hl (by decide) rfl (fun ls hl => ?_)
  refine lv_iconst (v := 0) hx hb d_Pr_readSet_60 (by decide) ?_
  refine lv_istore_n (lv' := [(3, .int 0), (2, .int 0), (0, .ref v0), (1, .int v1)]) hx hb d_Pr_readSet_61 rfl hl (by decide) rfl (fun ls hl => ?_)
  exact s_Pr_readSet_62 X  N v0 v1 0 0 h _ _ _ hI (lv_sub hl [2, 3, 1, 0] rfl) hf
def f_Pr_readSet_40 (N : Nat)  (v0 : Nat) (s0 : Int32) (h : z_H) : Option (Int32 × z_H) :=
  if s0 = 0 then
  (f_Pr_readSet_58 N v0 s0 h)
  else
  (z_b (gR h v0 8 0) fun x2 =>
  z_b (gI h x2 2 1) fun x3 =>
  z_b (sF h x2 2 1 (.int (x3 + 1))) fun h4 =>
  f_Pr_readSet_58 N v0 s0 h4)
set_option maxRecDepth 20000 in
set_option maxHeartbeats 2000000 in
theorem s_Pr_readSet_40 (X : z_X p s m args meth c prog_10_method_15_code 4 (some .boolean) Ts "StreamForge$PatternReader" D dA B) {N : Nat} {r : Int32} {h' : z_H}   : ∀ (v0 : Nat) (s0 : Int32) (h : z_H) (H : Heap) (locs : List Loc) (ls : Array Slot), z_I D dA B h s.heap H locs → lv_has ls 4 [(0, .ref v0)] → f_Pr_readSet_40 N  v0 s0 h = some (r, h') → W p l e (z_rm 2 47) s m args below meth c H locs 0 0 (MQ below (z_Q D dA B (some (.int r)) h') args s 0 0 (fun q => B ≤ q)) (F0 m 40 ls [.int s0]) := by
  have hx := z_hx X
  have hb := z_hb X
  intro v0 s0 h H locs ls hI hl hf
  unfold f_Pr_readSet_40 at hf
  refine lv_istore_n (lv' := [(1, .int s0), (0, .ref v0)]) hx hb d_Pr_readSet_40 rfl hl (by decide) rfl (fun ls hl => ?_)
  refine lv_iload_n hx hb d_Pr_readSet_41 rfl (lv_at hl 0 rfl) ?_
  refine lv_if_eq (tgt := 58) hx hb d_Pr_readSet_42 (by decide) (fun c1 => ?_) (fun c1 => ?_)
  · rw [if_pos c1] at hf
    exact s_Pr_readSet_58 X  v0 s0 h _ _ _ hI (lv_sub hl [1, 0] rfl) hf
  · rw [if_neg c1] at hf
    refine lv_aload_n hx hb d_Pr_readSet_45 rfl (lv_at hl 1 rfl) ?_
    obtain ⟨x2, ex2, hf⟩ := z_bs hf
    refine z_getF X hI (k := 0) (ci := 8) (gR_s ex2) i_Pr rfl (by decide) wf_Pr_9 d_Pr_readSet_46 ?_
    refine lv_dup hx hb d_Pr_readSet_49 rfl ?_
    obtain ⟨x3, ex3, hf⟩ := z_bs hf
    refine z_getF X hI (k := 1) (ci := 2) (gI_s ex3) i_Cur rfl (by decide) wf_Pr_86 d_Pr_readSet_50 ?_
    refine lv_iconst (v := 1) hx hb d_Pr_readSet_53 (by decide) ?_
    refine lv_iadd hx hb d_Pr_readSet_54 ?_
    obtain ⟨h4, eh4, hf⟩ := z_bs hf
    refine z_putF X hI (k := 1) (ci := 2) (ty0 := t_Cur) eh4 i_Cur t_Cur_ok n_Cur rfl (by decide) wf_Pr_86 rfl rfl rfl d_Pr_readSet_55 (fun H locs hI => ?_)
    exact s_Pr_readSet_58 X  v0 s0 h4 _ _ _ hI (lv_sub hl [1, 0] rfl) hf
def f_Pr_readSet (N : Nat) (v0 : Nat) (h : z_H) : Option (Int32 × z_H) :=
  z_b (gO h v0 8) fun u1 =>
  z_b (f_Pr_addOne N v0 h) fun r2 =>
  if (r2.1) = 0 then
  (some (0, r2.2))
  else
  (z_b (gR r2.2 v0 8 0) fun x4 =>
  z_b (gI r2.2 x4 2 1) fun x5 =>
  z_b (sF r2.2 x4 2 1 (.int (x5 + 1))) fun h6 =>
  z_b (gR h6 v0 8 0) fun x7 =>
  z_b (gO h6 x7 2) fun u8 =>
  z_b (f_Cur_look N x7 0 h6) fun r9 =>
  if (r9.1) = 94 then
  (f_Pr_readSet_40 N v0 1 r9.2)
  else
  (f_Pr_readSet_40 N v0 0 r9.2))
set_option maxRecDepth 20000 in
set_option maxHeartbeats 2000000 in
theorem s_Pr_readSet {l : Launch} {D : va_G} {dA : Nat → ClassId} {B N : Nat} {v0 : Nat} {h h' : z_H} {r : Int32} (hf : f_Pr_readSet N v0 h = some (r, h')) : z_Met l y_Pr_readSet prog_10_method_15_code 4 (some .boolean) 2 47 D dA B [.ref v0] h (some (.int r)) h' := by
  refine z_of (by decide) (Nat.le_of_ble_eq_true rfl) (fun p e s m below meth c ls X hI hl => ?_)
  have hx := z_hx X
  have hb := z_hb X
  have hl : lv_has ls 4 [(0, .ref v0)] := hl
  unfold f_Pr_readSet at hf
  obtain ⟨locs, hlo⟩ : ∃ z : List Loc, z = [] := ⟨_, rfl⟩
  rw [← hlo] at hI ⊢
  refine lv_aload_n hx hb d_Pr_readSet_0 rfl (lv_at hl 0 rfl) ?_
  obtain ⟨u1, eu1, hf⟩ := z_bs hf
  obtain ⟨r2, er2, hf⟩ := z_bs hf
  refine z_callV (As := []) (rest := []) (r := (some (.int r2.1))) (h' := r2.2) X hI eu1 (s_Pr_addOne er2) rfl rfl wm_Pr_107 yi_Pr_addOne rfl hl.1 rfl (Nat.le_of_ble_eq_true rfl) (by decide) (by decide) d_Pr_readSet_1 (fun H locs hI => ?_)
  refine W.eq (g2 := F0 m 4 ls [.int (r2.1)]) rfl ?_
  refine lv_if_ne (tgt := 9) hx hb d_Pr_readSet_4 (by decide) (fun c3 => ?_) (fun c3 => ?_)
  · rw [if_neg c3] at hf
    refine lv_aload_n hx hb d_Pr_readSet_9 rfl (lv_at hl 0 rfl) ?_
    obtain ⟨x4, ex4, hf⟩ := z_bs hf
    refine z_getF X hI (k := 0) (ci := 8) (gR_s ex4) i_Pr rfl (by decide) wf_Pr_9 d_Pr_readSet_10 ?_
    refine lv_dup hx hb d_Pr_readSet_13 rfl ?_
    obtain ⟨x5, ex5, hf⟩ := z_bs hf
    refine z_getF X hI (k := 1) (ci := 2) (gI_s ex5) i_Cur rfl (by decide) wf_Pr_86 d_Pr_readSet_14 ?_
    refine lv_iconst (v := 1) hx hb d_Pr_readSet_17 (by decide) ?_
    refine lv_iadd hx hb d_Pr_readSet_18 ?_
    obtain ⟨h6, eh6, hf⟩ := z_bs hf
    refine z_putF X hI (k := 1) (ci := 2) (ty0 := t_Cur) eh6 i_Cur t_Cur_ok n_Cur rfl (by decide) wf_Pr_86 rfl rfl rfl d_Pr_readSet_19 (fun H locs hI => ?_)
    refine lv_aload_n hx hb d_Pr_readSet_22 rfl (lv_at hl 0 rfl) ?_
    obtain ⟨x7, ex7, hf⟩ := z_bs hf
    refine z_getF X hI (k := 0) (ci := 8) (gR_s ex7) i_Pr rfl (by decide) wf_Pr_9 d_Pr_readSet_23 ?_
    refine lv_iconst (v := 0) hx hb d_Pr_readSet_26 (by decide) ?_
    obtain ⟨u8, eu8, hf⟩ := z_bs hf
    obtain ⟨r9, er9, hf⟩ := z_bs hf
    refine z_callV (As := [.int 0]) (rest := []) (r := (some (.int r9.1))) (h' := r9.2) X hI eu8 (s_Cur_look er9) rfl rfl wm_Pr_19 yi_Cur_look rfl hl.1 rfl (Nat.le_of_ble_eq_true rfl) (by decide) (by decide) d_Pr_readSet_27 (fun H locs hI => ?_)
    refine W.eq (g2 := F0 m 30 ls [.int (r9.1)]) rfl ?_
    refine lv_bipush (v := 94) hx hb d_Pr_readSet_30 (by decide) ?_
    refine lv_icmp_ne (tgt := 39) hx hb d_Pr_readSet_32 (by decide) (fun c10 => ?_) (fun c10 => ?_)
    · rw [if_neg c10] at hf
      refine lv_iconst (v := 0) hx hb d_Pr_readSet_39 (by decide) ?_
      exact s_Pr_readSet_40 X  v0 0 r9.2 _ _ _ hI (lv_sub hl [0] rfl) hf
    · rw [if_pos c10] at hf
      refine lv_iconst (v := 1) hx hb d_Pr_readSet_35 (by decide) ?_
      refine lv_goto (tgt := 40) hx hb d_Pr_readSet_36 (by decide) ?_
      exact s_Pr_readSet_40 X  v0 1 r9.2 _ _ _ hI (lv_sub hl [0] rfl) hf
  · rw [if_pos c3] at hf
    refine lv_iconst (v := 0) hx hb d_Pr_readSet_7 (by decide) ?_
    cases hf
    exact z_zret X hI (Or.inl rfl) d_Pr_readSet_8
def f_Pr_mayEnd (N : Nat) (v0 : Nat) (h : z_H) : Option (Int32 × z_H) :=
  z_b (gR h v0 8 0) fun x1 =>
  z_b (gO h x1 2) fun u2 =>
  z_b (f_Cur_look N x1 1 h) fun r3 =>
  z_b (some (r3.1)) fun x4 =>
  z_b (gI r3.2 v0 8 5) fun x5 =>
  if x5 = 0 then
  (if x4 = 47 then
  (some (1, r3.2))
  else
  (if x4 = (-1) then
  (some (1, r3.2))
  else
  (some (0, r3.2))))
  else
  (some (0, r3.2))
set_option maxRecDepth 20000 in
set_option maxHeartbeats 2000000 in
theorem s_Pr_mayEnd {l : Launch} {D : va_G} {dA : Nat → ClassId} {B N : Nat} {v0 : Nat} {h h' : z_H} {r : Int32} (hf : f_Pr_mayEnd N v0 h = some (r, h')) : z_Met l y_Pr_mayEnd prog_10_method_6_code 2 (some .boolean) 1 22 D dA B [.ref v0] h (some (.int r)) h' := by
  refine z_of (by decide) (Nat.le_of_ble_eq_true rfl) (fun p e s m below meth c ls X hI hl => ?_)
  have hx := z_hx X
  have hb := z_hb X
  have hl : lv_has ls 2 [(0, .ref v0)] := hl
  unfold f_Pr_mayEnd at hf
  obtain ⟨locs, hlo⟩ : ∃ z : List Loc, z = [] := ⟨_, rfl⟩
  rw [← hlo] at hI ⊢
  refine lv_aload_n hx hb d_Pr_mayEnd_0 rfl (lv_at hl 0 rfl) ?_
  obtain ⟨x1, ex1, hf⟩ := z_bs hf
  refine z_getF X hI (k := 0) (ci := 8) (gR_s ex1) i_Pr rfl (by decide) wf_Pr_9 d_Pr_mayEnd_1 ?_
  refine lv_iconst (v := 1) hx hb d_Pr_mayEnd_4 (by decide) ?_
  obtain ⟨u2, eu2, hf⟩ := z_bs hf
  obtain ⟨r3, er3, hf⟩ := z_bs hf
  refine z_callV (As := [.int 1]) (rest := []) (r := (some (.int r3.1))) (h' := r3.2) X hI eu2 (s_Cur_look er3) rfl rfl wm_Pr_19 yi_Cur_look rfl hl.1 rfl (Nat.le_of_ble_eq_true rfl) (by decide) (by decide) d_Pr_mayEnd_5 (fun H locs hI => ?_)
  refine W.eq (g2 := F0 m 8 ls [.int (r3.1)]) rfl ?_
  obtain ⟨x4, ex4, hf⟩ := z_bs hf
  refine z_topi (Option.some.inj ex4) ?_
  refine lv_istore_n (lv' := [(1, .int x4), (0, .ref v0)]) hx hb d_Pr_mayEnd_8 rfl hl (by decide) rfl (fun ls hl => ?_)
  refine lv_aload_n hx hb d_Pr_mayEnd_9 rfl (lv_at hl 1 rfl) ?_
  obtain ⟨x5, ex5, hf⟩ := z_bs hf
  refine z_getF X hI (k := 5) (ci := 8) (gI_s ex5) i_Pr rfl (by decide) wf_Pr_47 d_Pr_mayEnd_10 ?_
  refine lv_if_ne (tgt := 31) hx hb d_Pr_mayEnd_13 (by decide) (fun c6 => ?_) (fun c6 => ?_)
  · rw [if_neg c6] at hf
    refine lv_iconst (v := 0) hx hb d_Pr_mayEnd_31 (by decide) ?_
    cases hf
    exact z_zret X hI (Or.inl rfl) d_Pr_mayEnd_32
  · rw [if_pos c6] at hf
    refine lv_iload_n hx hb d_Pr_mayEnd_16 rfl (lv_at hl 0 rfl) ?_
    refine lv_bipush (v := 47) hx hb d_Pr_mayEnd_17 (by decide) ?_
    refine lv_icmp_eq (tgt := 27) hx hb d_Pr_mayEnd_19 (by decide) (fun c7 => ?_) (fun c7 => ?_)
    · rw [if_pos c7] at hf
      refine lv_iconst (v := 1) hx hb d_Pr_mayEnd_27 (by decide) ?_
      refine lv_goto (tgt := 32) hx hb d_Pr_mayEnd_28 (by decide) ?_
      cases hf
      exact z_zret X hI (Or.inr rfl) d_Pr_mayEnd_32
    · rw [if_neg c7] at hf
      refine lv_iload_n hx hb d_Pr_mayEnd_22 rfl (lv_at hl 0 rfl) ?_
      refine lv_iconst (v := (-1)) hx hb d_Pr_mayEnd_23 (by decide) ?_
      refine lv_icmp_ne (tgt := 31) hx hb d_Pr_mayEnd_24 (by decide) (fun c8 => ?_) (fun c8 => ?_)
      · rw [if_neg c8] at hf
        refine lv_iconst (v := 0) hx hb d_Pr_mayEnd_31 (by decide) ?_
        cases hf
        exact z_zret X hI (Or.inl rfl) d_Pr_mayEnd_32
      · rw [if_pos c8] at hf
        refine lv_iconst (v := 1) hx hb d_Pr_mayEnd_27 (by decide) ?_
        refine lv_goto (tgt := 32) hx hb d_Pr_mayEnd_28 (by decide) ?_
        cases hf
        exact z_zret X hI (Or.inr rfl) d_Pr_mayEnd_32
def f_Pr_readEnd (N : Nat) (v0 : Nat) (h : z_H) : Option (Int32 × z_H) :=
  z_b (gR h v0 8 2) fun x1 =>
  z_b (sF h x1 7 1 (.int 1)) fun h2 =>
  z_b (gR h2 v0 8 0) fun x3 =>
  z_b (gI h2 x3 2 1) fun x4 =>
  z_b (sF h2 x3 2 1 (.int (x4 + 1))) fun h5 =>
  some (1, h5)
set_option maxRecDepth 20000 in
set_option maxHeartbeats 2000000 in
theorem s_Pr_readEnd {l : Launch} {D : va_G} {dA : Nat → ClassId} {B N : Nat} {v0 : Nat} {h h' : z_H} {r : Int32} (hf : f_Pr_readEnd N v0 h = some (r, h')) : z_Met l y_Pr_readEnd prog_10_method_7_code 1 (some .boolean) 0 0 D dA B [.ref v0] h (some (.int r)) h' := by
  refine z_of (by decide) (Nat.le_of_ble_eq_true rfl) (fun p e s m below meth c ls X hI hl => ?_)
  have hx := z_hx X
  have hb := z_hb X
  have hl : lv_has ls 1 [(0, .ref v0)] := hl
  unfold f_Pr_readEnd at hf
  obtain ⟨locs, hlo⟩ : ∃ z : List Loc, z = [] := ⟨_, rfl⟩
  rw [← hlo] at hI ⊢
  refine lv_aload_n hx hb d_Pr_readEnd_0 rfl (lv_at hl 0 rfl) ?_
  obtain ⟨x1, ex1, hf⟩ := z_bs hf
  refine z_getF X hI (k := 2) (ci := 8) (gR_s ex1) i_Pr rfl (by decide) wf_Pr_58 d_Pr_readEnd_1 ?_
  refine lv_iconst (v := 1) hx hb d_Pr_readEnd_4 (by decide) ?_
  obtain ⟨h2, eh2, hf⟩ := z_bs hf
  refine z_putF X hI (k := 1) (ci := 7) (ty0 := t_Pt) eh2 i_Pt t_Pt_ok n_Pt rfl (by decide) wf_Pr_80 rfl rfl rfl d_Pr_readEnd_5 (fun H locs hI => ?_)
  refine lv_aload_n hx hb d_Pr_readEnd_8 rfl (lv_at hl 0 rfl) ?_
  obtain ⟨x3, ex3, hf⟩ := z_bs hf
  refine z_getF X hI (k := 0) (ci := 8) (gR_s ex3) i_Pr rfl (by decide) wf_Pr_9 d_Pr_readEnd_9 ?_
  refine lv_dup hx hb d_Pr_readEnd_12 rfl ?_
  obtain ⟨x4, ex4, hf⟩ := z_bs hf
  refine z_getF X hI (k := 1) (ci := 2) (gI_s ex4) i_Cur rfl (by decide) wf_Pr_86 d_Pr_readEnd_13 ?_
  refine lv_iconst (v := 1) hx hb d_Pr_readEnd_16 (by decide) ?_
  refine lv_iadd hx hb d_Pr_readEnd_17 ?_
  obtain ⟨h5, eh5, hf⟩ := z_bs hf
  refine z_putF X hI (k := 1) (ci := 2) (ty0 := t_Cur) eh5 i_Cur t_Cur_ok n_Cur rfl (by decide) wf_Pr_86 rfl rfl rfl d_Pr_readEnd_18 (fun H locs hI => ?_)
  refine lv_iconst (v := 1) hx hb d_Pr_readEnd_21 (by decide) ?_
  cases hf
  exact z_zret X hI (Or.inr rfl) d_Pr_readEnd_22
def f_Pr_readPlain_20 (N : Nat)  (v0 : Nat) (h : z_H) : Option (Int32 × z_H) :=
  z_b (gR h v0 8 0) fun x1 =>
  z_b (gO h x1 2) fun u2 =>
  z_b (f_Cur_refuse N x1 0 h) fun r3 =>
  z_b (zB (r3.1)) fun x4 =>
  some (x4, r3.2)
set_option maxRecDepth 20000 in
set_option maxHeartbeats 2000000 in
theorem s_Pr_readPlain_20 (X : z_X p s m args meth c prog_10_method_8_code 2 (some .boolean) Ts "StreamForge$PatternReader" D dA B) {N : Nat} {r : Int32} {h' : z_H}   : ∀ (v0 : Nat) (h : z_H) (H : Heap) (locs : List Loc) (ls : Array Slot), z_I D dA B h s.heap H locs → lv_has ls 2 [(0, .ref v0)] → f_Pr_readPlain_20 N  v0 h = some (r, h') → W p l e (z_rm 2 42) s m args below meth c H locs 0 0 (MQ below (z_Q D dA B (some (.int r)) h') args s 0 0 (fun q => B ≤ q)) (F0 m 20 ls []) := by
  have hx := z_hx X
  have hb := z_hb X
  intro v0 h H locs ls hI hl hf
  unfold f_Pr_readPlain_20 at hf
  refine lv_aload_n hx hb d_Pr_readPlain_20 rfl (lv_at hl 0 rfl) ?_
  obtain ⟨x1, ex1, hf⟩ := z_bs hf
  refine z_getF X hI (k := 0) (ci := 8) (gR_s ex1) i_Pr rfl (by decide) wf_Pr_9 d_Pr_readPlain_21 ?_
  refine lv_iconst (v := 0) hx hb d_Pr_readPlain_24 (by decide) ?_
  obtain ⟨u2, eu2, hf⟩ := z_bs hf
  obtain ⟨r3, er3, hf⟩ := z_bs hf
  refine z_callV (As := [.int 0]) (rest := []) (r := (some (.int r3.1))) (h' := r3.2) X hI eu2 (s_Cur_refuse er3) rfl rfl wm_Pr_51 yi_Cur_refuse rfl hl.1 rfl (Nat.le_of_ble_eq_true rfl) (by decide) (by decide) d_Pr_readPlain_25 (fun H locs hI => ?_)
  refine W.eq (g2 := F0 m 28 ls [.int (r3.1)]) rfl ?_
  obtain ⟨x4, ex4, hf⟩ := z_bs hf
  refine z_topi (zB_s ex4).1 ?_
  cases hf
  exact z_zret X hI (zB_s2 ex4) d_Pr_readPlain_28
def f_Pr_readPlain_63 (N : Nat)  (v0 : Nat) (h : z_H) : Option (Int32 × z_H) :=
  z_b (gR h v0 8 0) fun x1 =>
  z_b (gI h x1 2 1) fun x2 =>
  z_b (sF h x1 2 1 (.int (x2 + 1))) fun h3 =>
  some (1, h3)
set_option maxRecDepth 20000 in
set_option maxHeartbeats 2000000 in
theorem s_Pr_readPlain_63 (X : z_X p s m args meth c prog_10_method_8_code 2 (some .boolean) Ts "StreamForge$PatternReader" D dA B) {N : Nat} {r : Int32} {h' : z_H}   : ∀ (v0 : Nat) (h : z_H) (H : Heap) (locs : List Loc) (ls : Array Slot), z_I D dA B h s.heap H locs → lv_has ls 2 [(0, .ref v0)] → f_Pr_readPlain_63 N  v0 h = some (r, h') → W p l e (z_rm 2 42) s m args below meth c H locs 0 0 (MQ below (z_Q D dA B (some (.int r)) h') args s 0 0 (fun q => B ≤ q)) (F0 m 63 ls []) := by
  have hx := z_hx X
  have hb := z_hb X
  intro v0 h H locs ls hI hl hf
  unfold f_Pr_readPlain_63 at hf
  refine lv_aload_n hx hb d_Pr_readPlain_63 rfl (lv_at hl 0 rfl) ?_
  obtain ⟨x1, ex1, hf⟩ := z_bs hf
  refine z_getF X hI (k := 0) (ci := 8) (gR_s ex1) i_Pr rfl (by decide) wf_Pr_9 d_Pr_readPlain_64 ?_
  refine lv_dup hx hb d_Pr_readPlain_67 rfl ?_
  obtain ⟨x2, ex2, hf⟩ := z_bs hf
  refine z_getF X hI (k := 1) (ci := 2) (gI_s ex2) i_Cur rfl (by decide) wf_Pr_86 d_Pr_readPlain_68 ?_
  refine lv_iconst (v := 1) hx hb d_Pr_readPlain_71 (by decide) ?_
  refine lv_iadd hx hb d_Pr_readPlain_72 ?_
  obtain ⟨h3, eh3, hf⟩ := z_bs hf
  refine z_putF X hI (k := 1) (ci := 2) (ty0 := t_Cur) eh3 i_Cur t_Cur_ok n_Cur rfl (by decide) wf_Pr_86 rfl rfl rfl d_Pr_readPlain_73 (fun H locs hI => ?_)
  refine lv_iconst (v := 1) hx hb d_Pr_readPlain_76 (by decide) ?_
  cases hf
  exact z_zret X hI (Or.inr rfl) d_Pr_readPlain_77
def f_Pr_readPlain (N : Nat) (v0 : Nat) (h : z_H) : Option (Int32 × z_H) :=
  z_b (gR h v0 8 0) fun x1 =>
  z_b (gO h x1 2) fun u2 =>
  z_b (f_Cur_look N x1 0 h) fun r3 =>
  z_b (some (r3.1)) fun x4 =>
  if x4 = (-1) then
  (f_Pr_readPlain_20 N v0 r3.2)
  else
  (if x4 = 10 then
  (f_Pr_readPlain_20 N v0 r3.2)
  else
  (z_b (gO r3.2 v0 8) fun u7 =>
  z_b (f_Pr_addOne N v0 r3.2) fun r8 =>
  if (r8.1) = 0 then
  (some (0, r8.2))
  else
  (if x4 = 46 then
  (z_b (gR r8.2 v0 8 1) fun x14 =>
  z_b (gO r8.2 x14 4) fun u15 =>
  z_b (f_It_turn N x14 r8.2) fun r16 =>
  f_Pr_readPlain_63 N v0 r16)
  else
  (z_b (gR r8.2 v0 8 1) fun x11 =>
  z_b (gO r8.2 x11 4) fun u12 =>
  z_b (f_It_allow N x11 x4 x4 r8.2) fun r13 =>
  f_Pr_readPlain_63 N v0 r13))))
set_option maxRecDepth 20000 in
set_option maxHeartbeats 2000000 in
theorem s_Pr_readPlain {l : Launch} {D : va_G} {dA : Nat → ClassId} {B N : Nat} {v0 : Nat} {h h' : z_H} {r : Int32} (hf : f_Pr_readPlain N v0 h = some (r, h')) : z_Met l y_Pr_readPlain prog_10_method_8_code 2 (some .boolean) 2 42 D dA B [.ref v0] h (some (.int r)) h' := by
  refine z_of (by decide) (Nat.le_of_ble_eq_true rfl) (fun p e s m below meth c ls X hI hl => ?_)
  have hx := z_hx X
  have hb := z_hb X
  have hl : lv_has ls 2 [(0, .ref v0)] := hl
  unfold f_Pr_readPlain at hf
  obtain ⟨locs, hlo⟩ : ∃ z : List Loc, z = [] := ⟨_, rfl⟩
  rw [← hlo] at hI ⊢
  refine lv_aload_n hx hb d_Pr_readPlain_0 rfl (lv_at hl 0 rfl) ?_
  obtain ⟨x1, ex1, hf⟩ := z_bs hf
  refine z_getF X hI (k := 0) (ci := 8) (gR_s ex1) i_Pr rfl (by decide) wf_Pr_9 d_Pr_readPlain_1 ?_
  refine lv_iconst (v := 0) hx hb d_Pr_readPlain_4 (by decide) ?_
  obtain ⟨u2, eu2, hf⟩ := z_bs hf
  obtain ⟨r3, er3, hf⟩ := z_bs hf
  refine z_callV (As := [.int 0]) (rest := []) (r := (some (.int r3.1))) (h' := r3.2) X hI eu2 (s_Cur_look er3) rfl rfl wm_Pr_19 yi_Cur_look rfl hl.1 rfl (Nat.le_of_ble_eq_true rfl) (by decide) (by decide) d_Pr_readPlain_5 (fun H locs hI => ?_)
  refine W.eq (g2 := F0 m 8 ls [.int (r3.1)]) rfl ?_
  obtain ⟨x4, ex4, hf⟩ := z_bs hf
  refine z_topi (Option.some.inj ex4) ?_
  refine lv_istore_n (lv' := [(1, .int x4), (0, .ref v0)]) hx hb d_Pr_readPlain_8 rfl hl (by decide) rfl (fun ls hl => ?_)
  refine lv_iload_n hx hb d_Pr_readPlain_9 rfl (lv_at hl 0 rfl) ?_
  refine lv_iconst (v := (-1)) hx hb d_Pr_readPlain_10 (by decide) ?_
  refine lv_icmp_eq (tgt := 20) hx hb d_Pr_readPlain_11 (by decide) (fun c5 => ?_) (fun c5 => ?_)
  · rw [if_pos c5] at hf
    exact s_Pr_readPlain_20 X  v0 r3.2 _ _ _ hI (lv_sub hl [1] rfl) hf
  · rw [if_neg c5] at hf
    refine lv_iload_n hx hb d_Pr_readPlain_14 rfl (lv_at hl 0 rfl) ?_
    refine lv_bipush (v := 10) hx hb d_Pr_readPlain_15 (by decide) ?_
    refine lv_icmp_ne (tgt := 29) hx hb d_Pr_readPlain_17 (by decide) (fun c6 => ?_) (fun c6 => ?_)
    · rw [if_neg c6] at hf
      refine lv_aload_n hx hb d_Pr_readPlain_29 rfl (lv_at hl 1 rfl) ?_
      obtain ⟨u7, eu7, hf⟩ := z_bs hf
      obtain ⟨r8, er8, hf⟩ := z_bs hf
      refine z_callV (As := []) (rest := []) (r := (some (.int r8.1))) (h' := r8.2) X hI eu7 (s_Pr_addOne er8) rfl rfl wm_Pr_107 yi_Pr_addOne rfl hl.1 rfl (Nat.le_of_ble_eq_true rfl) (by decide) (by decide) d_Pr_readPlain_30 (fun H locs hI => ?_)
      refine W.eq (g2 := F0 m 33 ls [.int (r8.1)]) rfl ?_
      refine lv_if_ne (tgt := 38) hx hb d_Pr_readPlain_33 (by decide) (fun c9 => ?_) (fun c9 => ?_)
      · rw [if_neg c9] at hf
        refine lv_iload_n hx hb d_Pr_readPlain_38 rfl (lv_at hl 0 rfl) ?_
        refine lv_bipush (v := 46) hx hb d_Pr_readPlain_39 (by decide) ?_
        refine lv_icmp_ne (tgt := 54) hx hb d_Pr_readPlain_41 (by decide) (fun c10 => ?_) (fun c10 => ?_)
        · rw [if_neg c10] at hf
          refine lv_aload_n hx hb d_Pr_readPlain_54 rfl (lv_at hl 1 rfl) ?_
          obtain ⟨x11, ex11, hf⟩ := z_bs hf
          refine z_getF X hI (k := 1) (ci := 8) (gR_s ex11) i_Pr rfl (by decide) wf_Pr_62 d_Pr_readPlain_55 ?_
          refine lv_iload_n hx hb d_Pr_readPlain_58 rfl (lv_at hl 0 rfl) ?_
          refine lv_iload_n hx hb d_Pr_readPlain_59 rfl (lv_at hl 0 rfl) ?_
          obtain ⟨u12, eu12, hf⟩ := z_bs hf
          obtain ⟨r13, er13, hf⟩ := z_bs hf
          refine z_callV (As := [.int x4, .int x4]) (rest := []) (r := none) (h' := r13) X hI eu12 (s_It_allow er13) rfl rfl wm_Pr_113 yi_It_allow rfl hl.1 rfl (Nat.le_of_ble_eq_true rfl) (by decide) (by decide) d_Pr_readPlain_60 (fun H locs hI => ?_)
          refine W.eq (g2 := F0 m 63 ls []) rfl ?_
          exact s_Pr_readPlain_63 X  v0 r13 _ _ _ hI (lv_sub hl [1] rfl) hf
        · rw [if_pos c10] at hf
          refine lv_aload_n hx hb d_Pr_readPlain_44 rfl (lv_at hl 1 rfl) ?_
          obtain ⟨x14, ex14, hf⟩ := z_bs hf
          refine z_getF X hI (k := 1) (ci := 8) (gR_s ex14) i_Pr rfl (by decide) wf_Pr_62 d_Pr_readPlain_45 ?_
          obtain ⟨u15, eu15, hf⟩ := z_bs hf
          obtain ⟨r16, er16, hf⟩ := z_bs hf
          refine z_callV (As := []) (rest := []) (r := none) (h' := r16) X hI eu15 (s_It_turn er16) rfl rfl wm_Pr_110 yi_It_turn rfl hl.1 rfl (Nat.le_of_ble_eq_true rfl) (by decide) (by decide) d_Pr_readPlain_48 (fun H locs hI => ?_)
          refine W.eq (g2 := F0 m 51 ls []) rfl ?_
          refine lv_goto (tgt := 63) hx hb d_Pr_readPlain_51 (by decide) ?_
          exact s_Pr_readPlain_63 X  v0 r16 _ _ _ hI (lv_sub hl [1] rfl) hf
      · rw [if_pos c9] at hf
        refine lv_iconst (v := 0) hx hb d_Pr_readPlain_36 (by decide) ?_
        cases hf
        exact z_zret X hI (Or.inl rfl) d_Pr_readPlain_37
    · rw [if_pos c6] at hf
      exact s_Pr_readPlain_20 X  v0 r3.2 _ _ _ hI (lv_sub hl [1] rfl) hf
def f_Pr_finish_36 (N : Nat)  (v0 : Nat) (h : z_H) : Option z_H :=
  z_b (gI h v0 8 4) fun x1 =>
  if 2 ≤ x1 then
  (some h)
  else
  (z_b (gR h v0 8 2) fun x3 =>
  z_b (gR h v0 8 1) fun x4 =>
  z_b (gI h x4 4 4) fun x5 =>
  z_b (sF h x3 7 5 (.int x5)) fun h6 =>
  some h6)
set_option maxRecDepth 20000 in
set_option maxHeartbeats 2000000 in
theorem s_Pr_finish_36 (X : z_X p s m args meth c prog_10_method_4_code 1 none Ts "StreamForge$PatternReader" D dA B) {N : Nat} {h' : z_H}   : ∀ (v0 : Nat) (h : z_H) (H : Heap) (locs : List Loc) (ls : Array Slot), z_I D dA B h s.heap H locs → lv_has ls 1 [(0, .ref v0)] → f_Pr_finish_36 N  v0 h = some h' → W p l e (z_rm 0 0) s m args below meth c H locs 0 0 (MQ below (z_Q D dA B none h') args s 0 0 (fun q => B ≤ q)) (F0 m 36 ls []) := by
  have hx := z_hx X
  have hb := z_hb X
  intro v0 h H locs ls hI hl hf
  unfold f_Pr_finish_36 at hf
  refine lv_aload_n hx hb d_Pr_finish_36 rfl (lv_at hl 0 rfl) ?_
  obtain ⟨x1, ex1, hf⟩ := z_bs hf
  refine z_getF X hI (k := 4) (ci := 8) (gI_s ex1) i_Pr rfl (by decide) wf_Pr_92 d_Pr_finish_37 ?_
  refine lv_iconst (v := 2) hx hb d_Pr_finish_40 (by decide) ?_
  refine lv_icmp_ge (tgt := 58) hx hb d_Pr_finish_41 (by decide) (fun c2 => ?_) (fun c2 => ?_)
  · rw [if_pos c2] at hf
    cases hf
    exact z_vret X hI d_Pr_finish_58
  · rw [if_neg c2] at hf
    refine lv_aload_n hx hb d_Pr_finish_44 rfl (lv_at hl 0 rfl) ?_
    obtain ⟨x3, ex3, hf⟩ := z_bs hf
    refine z_getF X hI (k := 2) (ci := 8) (gR_s ex3) i_Pr rfl (by decide) wf_Pr_58 d_Pr_finish_45 ?_
    refine lv_aload_n hx hb d_Pr_finish_48 rfl (lv_at hl 0 rfl) ?_
    obtain ⟨x4, ex4, hf⟩ := z_bs hf
    refine z_getF X hI (k := 1) (ci := 8) (gR_s ex4) i_Pr rfl (by decide) wf_Pr_62 d_Pr_finish_49 ?_
    obtain ⟨x5, ex5, hf⟩ := z_bs hf
    refine z_getF X hI (k := 4) (ci := 4) (gI_s ex5) i_It rfl (by decide) wf_Pr_66 d_Pr_finish_52 ?_
    obtain ⟨h6, eh6, hf⟩ := z_bs hf
    refine z_putF X hI (k := 5) (ci := 7) (ty0 := t_Pt) eh6 i_Pt t_Pt_ok n_Pt rfl (by decide) wf_Pr_104 rfl rfl rfl d_Pr_finish_55 (fun H locs hI => ?_)
    cases hf
    exact z_vret X hI d_Pr_finish_58
def f_Pr_finish (N : Nat) (v0 : Nat) (h : z_H) : Option z_H :=
  z_b (gR h v0 8 2) fun x1 =>
  z_b (gR h v0 8 1) fun x2 =>
  z_b (gI h x2 4 4) fun x3 =>
  z_b (sF h x1 7 3 (.int x3)) fun h4 =>
  z_b (gI h4 v0 8 4) fun x5 =>
  if 1 ≤ x5 then
  (f_Pr_finish_36 N v0 h4)
  else
  (z_b (gR h4 v0 8 2) fun x7 =>
  z_b (gR h4 v0 8 1) fun x8 =>
  z_b (gI h4 x8 4 4) fun x9 =>
  z_b (sF h4 x7 7 4 (.int x9)) fun h10 =>
  f_Pr_finish_36 N v0 h10)
set_option maxRecDepth 20000 in
set_option maxHeartbeats 2000000 in
theorem s_Pr_finish {l : Launch} {D : va_G} {dA : Nat → ClassId} {B N : Nat} {v0 : Nat} {h h' : z_H} (hf : f_Pr_finish N v0 h = some h') : z_Met l y_Pr_finish prog_10_method_4_code 1 none 0 0 D dA B [.ref v0] h none h' := by
  refine z_of (by decide) (Nat.le_of_ble_eq_true rfl) (fun p e s m below meth c ls X hI hl => ?_)
  have hx := z_hx X
  have hb := z_hb X
  have hl : lv_has ls 1 [(0, .ref v0)] := hl
  unfold f_Pr_finish at hf
  obtain ⟨locs, hlo⟩ : ∃ z : List Loc, z = [] := ⟨_, rfl⟩
  rw [← hlo] at hI ⊢
  refine lv_aload_n hx hb d_Pr_finish_0 rfl (lv_at hl 0 rfl) ?_
  obtain ⟨x1, ex1, hf⟩ := z_bs hf
  refine z_getF X hI (k := 2) (ci := 8) (gR_s ex1) i_Pr rfl (by decide) wf_Pr_58 d_Pr_finish_1 ?_
  refine lv_aload_n hx hb d_Pr_finish_4 rfl (lv_at hl 0 rfl) ?_
  obtain ⟨x2, ex2, hf⟩ := z_bs hf
  refine z_getF X hI (k := 1) (ci := 8) (gR_s ex2) i_Pr rfl (by decide) wf_Pr_62 d_Pr_finish_5 ?_
  obtain ⟨x3, ex3, hf⟩ := z_bs hf
  refine z_getF X hI (k := 4) (ci := 4) (gI_s ex3) i_It rfl (by decide) wf_Pr_66 d_Pr_finish_8 ?_
  obtain ⟨h4, eh4, hf⟩ := z_bs hf
  refine z_putF X hI (k := 3) (ci := 7) (ty0 := t_Pt) eh4 i_Pt t_Pt_ok n_Pt rfl (by decide) wf_Pr_98 rfl rfl rfl d_Pr_finish_11 (fun H locs hI => ?_)
  refine lv_aload_n hx hb d_Pr_finish_14 rfl (lv_at hl 0 rfl) ?_
  obtain ⟨x5, ex5, hf⟩ := z_bs hf
  refine z_getF X hI (k := 4) (ci := 8) (gI_s ex5) i_Pr rfl (by decide) wf_Pr_92 d_Pr_finish_15 ?_
  refine lv_iconst (v := 1) hx hb d_Pr_finish_18 (by decide) ?_
  refine lv_icmp_ge (tgt := 36) hx hb d_Pr_finish_19 (by decide) (fun c6 => ?_) (fun c6 => ?_)
  · rw [if_pos c6] at hf
    exact s_Pr_finish_36 X  v0 h4 _ _ _ hI (lv_sub hl [0] rfl) hf
  · rw [if_neg c6] at hf
    refine lv_aload_n hx hb d_Pr_finish_22 rfl (lv_at hl 0 rfl) ?_
    obtain ⟨x7, ex7, hf⟩ := z_bs hf
    refine z_getF X hI (k := 2) (ci := 8) (gR_s ex7) i_Pr rfl (by decide) wf_Pr_58 d_Pr_finish_23 ?_
    refine lv_aload_n hx hb d_Pr_finish_26 rfl (lv_at hl 0 rfl) ?_
    obtain ⟨x8, ex8, hf⟩ := z_bs hf
    refine z_getF X hI (k := 1) (ci := 8) (gR_s ex8) i_Pr rfl (by decide) wf_Pr_62 d_Pr_finish_27 ?_
    obtain ⟨x9, ex9, hf⟩ := z_bs hf
    refine z_getF X hI (k := 4) (ci := 4) (gI_s ex9) i_It rfl (by decide) wf_Pr_66 d_Pr_finish_30 ?_
    obtain ⟨h10, eh10, hf⟩ := z_bs hf
    refine z_putF X hI (k := 4) (ci := 7) (ty0 := t_Pt) eh10 i_Pt t_Pt_ok n_Pt rfl (by decide) wf_Pr_101 rfl rfl rfl d_Pr_finish_33 (fun H locs hI => ?_)
    exact s_Pr_finish_36 X  v0 h10 _ _ _ hI (lv_sub hl [0] rfl) hf
def f_Pr_read_115 (N : Nat) (k8 : Nat → Int32 → z_H → Option (Int32 × z_H)) (v0 : Nat) (v3 : Int32) (v5 : Int32) (h : z_H) : Option (Int32 × z_H) :=
  if v5 = 0 then
  (some (0, h))
  else
  (z_b (some (v3 + 1)) fun x2 =>
  k8 v0 x2 h)
set_option maxRecDepth 20000 in
set_option maxHeartbeats 2000000 in
theorem s_Pr_read_115 (X : z_X p s m args meth c prog_10_method_2_code 6 (some .boolean) Ts "StreamForge$PatternReader" D dA B) {N : Nat} {r : Int32} {h' : z_H} {k8 : Nat → Int32 → z_H → Option (Int32 × z_H)} (hk8 : ∀ (v0 : Nat) (v3 : Int32) (h : z_H) (H : Heap) (locs : List Loc) (ls : Array Slot), z_I D dA B h s.heap H locs → lv_has ls 6 [(0, .ref v0), (3, .int v3)] → k8 v0 v3 h = some (r, h') → W p l e (z_rm 3 70) s m args below meth c H locs 0 0 (MQ below (z_Q D dA B (some (.int r)) h') args s 0 0 (fun q => B ≤ q)) (F0 m 8 ls [])) : ∀ (v0 : Nat) (v3 : Int32) (v5 : Int32) (h : z_H) (H : Heap) (locs : List Loc) (ls : Array Slot), z_I D dA B h s.heap H locs → lv_has ls 6 [(0, .ref v0), (3, .int v3), (5, .int v5)] → f_Pr_read_115 N k8 v0 v3 v5 h = some (r, h') → W p l e (z_rm 3 70) s m args below meth c H locs 0 0 (MQ below (z_Q D dA B (some (.int r)) h') args s 0 0 (fun q => B ≤ q)) (F0 m 115 ls []) := by
  have hx := z_hx X
  have hb := z_hb X
  intro v0 v3 v5 h H locs ls hI hl hf
  unfold f_Pr_read_115 at hf
  refine lv_iload hx hb d_Pr_read_115 (lv_at hl 2 rfl) ?_
  refine lv_if_ne (tgt := 122) hx hb d_Pr_read_117 (by decide) (fun c1 => ?_) (fun c1 => ?_)
  · rw [if_neg c1] at hf
    obtain ⟨x2, ex2, hf⟩ := z_bs hf
    refine lv_iinc (v := x2) (lv' := [(3, .int x2), (0, .ref v0), (5, .int v5)]) hx hb d_Pr_read_122 hl (k := 1) rfl (by rw [← Option.some.inj ex2]; rfl) (by decide) rfl (fun ls hl => ?_)
    refine lv_goto (tgt := 8) hx hb d_Pr_read_125 (by decide) ?_
    exact hk8 v0 x2 h _ _ _ hI (lv_sub hl [1, 0] rfl) hf
  · rw [if_pos c1] at hf
    refine lv_iconst (v := 0) hx hb d_Pr_read_120 (by decide) ?_
    cases hf
    exact z_zret X hI (Or.inl rfl) d_Pr_read_121
def f_Pr_read_109 (N : Nat) (k8 : Nat → Int32 → z_H → Option (Int32 × z_H)) (v0 : Nat) (v3 : Int32) (h : z_H) : Option (Int32 × z_H) :=
  z_b (gO h v0 8) fun u1 =>
  z_b (f_Pr_readPlain N v0 h) fun r2 =>
  z_b (some (r2.1)) fun x3 =>
  f_Pr_read_115 N k8 v0 v3 x3 r2.2
set_option maxRecDepth 20000 in
set_option maxHeartbeats 2000000 in
theorem s_Pr_read_109 (X : z_X p s m args meth c prog_10_method_2_code 6 (some .boolean) Ts "StreamForge$PatternReader" D dA B) {N : Nat} {r : Int32} {h' : z_H} {k8 : Nat → Int32 → z_H → Option (Int32 × z_H)} (hk8 : ∀ (v0 : Nat) (v3 : Int32) (h : z_H) (H : Heap) (locs : List Loc) (ls : Array Slot), z_I D dA B h s.heap H locs → lv_has ls 6 [(0, .ref v0), (3, .int v3)] → k8 v0 v3 h = some (r, h') → W p l e (z_rm 3 70) s m args below meth c H locs 0 0 (MQ below (z_Q D dA B (some (.int r)) h') args s 0 0 (fun q => B ≤ q)) (F0 m 8 ls [])) : ∀ (v0 : Nat) (v3 : Int32) (h : z_H) (H : Heap) (locs : List Loc) (ls : Array Slot), z_I D dA B h s.heap H locs → lv_has ls 6 [(0, .ref v0), (3, .int v3)] → f_Pr_read_109 N k8 v0 v3 h = some (r, h') → W p l e (z_rm 3 70) s m args below meth c H locs 0 0 (MQ below (z_Q D dA B (some (.int r)) h') args s 0 0 (fun q => B ≤ q)) (F0 m 109 ls []) := by
  have hx := z_hx X
  have hb := z_hb X
  intro v0 v3 h H locs ls hI hl hf
  unfold f_Pr_read_109 at hf
  refine lv_aload_n hx hb d_Pr_read_109 rfl (lv_at hl 0 rfl) ?_
  obtain ⟨u1, eu1, hf⟩ := z_bs hf
  obtain ⟨r2, er2, hf⟩ := z_bs hf
  refine z_callV (As := []) (rest := []) (r := (some (.int r2.1))) (h' := r2.2) X hI eu1 (s_Pr_readPlain er2) rfl rfl wm_Pr_41 yi_Pr_readPlain rfl hl.1 rfl (Nat.le_of_ble_eq_true rfl) (by decide) (by decide) d_Pr_read_110 (fun H locs hI => ?_)
  refine W.eq (g2 := F0 m 113 ls [.int (r2.1)]) rfl ?_
  obtain ⟨x3, ex3, hf⟩ := z_bs hf
  refine z_topi (Option.some.inj ex3) ?_
  refine lv_istore (lv' := [(5, .int x3), (0, .ref v0), (3, .int v3)]) hx hb d_Pr_read_113 hl (by decide) rfl (fun ls hl => ?_)
  exact s_Pr_read_115 X hk8 v0 v3 x3 r2.2 _ _ _ hI (lv_sub hl [1, 2, 0] rfl) hf
def f_Pr_read_128 (N : Nat)  (v0 : Nat) (h : z_H) : Option (Int32 × z_H) :=
  z_b (gO h v0 8) fun u1 =>
  z_b (f_Pr_finish N v0 h) fun r2 =>
  z_b (gI r2 v0 8 5) fun x3 =>
  if x3 = 0 then
  (z_b (gR r2 v0 8 0) fun x5 =>
  z_b (gO r2 x5 2) fun u6 =>
  z_b (f_Cur_pass N x5 47 r2) fun r7 =>
  z_b (zB (r7.1)) fun x8 =>
  some (x8, r7.2))
  else
  (z_b (gR r2 v0 8 0) fun x9 =>
  z_b (gO r2 x9 2) fun u10 =>
  z_b (f_Cur_refuse N x9 0 r2) fun r11 =>
  z_b (zB (r11.1)) fun x12 =>
  some (x12, r11.2))
set_option maxRecDepth 20000 in
set_option maxHeartbeats 2000000 in
theorem s_Pr_read_128 (X : z_X p s m args meth c prog_10_method_2_code 6 (some .boolean) Ts "StreamForge$PatternReader" D dA B) {N : Nat} {r : Int32} {h' : z_H}   : ∀ (v0 : Nat) (h : z_H) (H : Heap) (locs : List Loc) (ls : Array Slot), z_I D dA B h s.heap H locs → lv_has ls 6 [(0, .ref v0)] → f_Pr_read_128 N  v0 h = some (r, h') → W p l e (z_rm 3 70) s m args below meth c H locs 0 0 (MQ below (z_Q D dA B (some (.int r)) h') args s 0 0 (fun q => B ≤ q)) (F0 m 128 ls []) := by
  have hx := z_hx X
  have hb := z_hb X
  intro v0 h H locs ls hI hl hf
  unfold f_Pr_read_128 at hf
  refine lv_aload_n hx hb d_Pr_read_128 rfl (lv_at hl 0 rfl) ?_
  obtain ⟨u1, eu1, hf⟩ := z_bs hf
  obtain ⟨r2, er2, hf⟩ := z_bs hf
  refine z_callV (As := []) (rest := []) (r := none) (h' := r2) X hI eu1 (s_Pr_finish er2) rfl rfl wm_Pr_44 yi_Pr_finish rfl hl.1 rfl (Nat.le_of_ble_eq_true rfl) (by decide) (by decide) d_Pr_read_129 (fun H locs hI => ?_)
  refine W.eq (g2 := F0 m 132 ls []) rfl ?_
  refine lv_aload_n hx hb d_Pr_read_132 rfl (lv_at hl 0 rfl) ?_
  obtain ⟨x3, ex3, hf⟩ := z_bs hf
  refine z_getF X hI (k := 5) (ci := 8) (gI_s ex3) i_Pr rfl (by decide) wf_Pr_47 d_Pr_read_133 ?_
  refine lv_if_eq (tgt := 150) hx hb d_Pr_read_136 (by decide) (fun c4 => ?_) (fun c4 => ?_)
  · rw [if_pos c4] at hf
    refine lv_aload_n hx hb d_Pr_read_150 rfl (lv_at hl 0 rfl) ?_
    obtain ⟨x5, ex5, hf⟩ := z_bs hf
    refine z_getF X hI (k := 0) (ci := 8) (gR_s ex5) i_Pr rfl (by decide) wf_Pr_9 d_Pr_read_151 ?_
    refine lv_bipush (v := 47) hx hb d_Pr_read_154 (by decide) ?_
    obtain ⟨u6, eu6, hf⟩ := z_bs hf
    obtain ⟨r7, er7, hf⟩ := z_bs hf
    refine z_callV (As := [.int 47]) (rest := []) (r := (some (.int r7.1))) (h' := r7.2) X hI eu6 (s_Cur_pass er7) rfl rfl wm_Pr_55 yi_Cur_pass rfl hl.1 rfl (Nat.le_of_ble_eq_true rfl) (by decide) (by decide) d_Pr_read_156 (fun H locs hI => ?_)
    refine W.eq (g2 := F0 m 159 ls [.int (r7.1)]) rfl ?_
    obtain ⟨x8, ex8, hf⟩ := z_bs hf
    refine z_topi (zB_s ex8).1 ?_
    cases hf
    exact z_zret X hI (zB_s2 ex8) d_Pr_read_159
  · rw [if_neg c4] at hf
    refine lv_aload_n hx hb d_Pr_read_139 rfl (lv_at hl 0 rfl) ?_
    obtain ⟨x9, ex9, hf⟩ := z_bs hf
    refine z_getF X hI (k := 0) (ci := 8) (gR_s ex9) i_Pr rfl (by decide) wf_Pr_9 d_Pr_read_140 ?_
    refine lv_iconst (v := 0) hx hb d_Pr_read_143 (by decide) ?_
    obtain ⟨u10, eu10, hf⟩ := z_bs hf
    obtain ⟨r11, er11, hf⟩ := z_bs hf
    refine z_callV (As := [.int 0]) (rest := []) (r := (some (.int r11.1))) (h' := r11.2) X hI eu10 (s_Cur_refuse er11) rfl rfl wm_Pr_51 yi_Cur_refuse rfl hl.1 rfl (Nat.le_of_ble_eq_true rfl) (by decide) (by decide) d_Pr_read_144 (fun H locs hI => ?_)
    refine W.eq (g2 := F0 m 147 ls [.int (r11.1)]) rfl ?_
    refine lv_goto (tgt := 159) hx hb d_Pr_read_147 (by decide) ?_
    obtain ⟨x12, ex12, hf⟩ := z_bs hf
    refine z_topi (zB_s ex12).1 ?_
    cases hf
    exact z_zret X hI (zB_s2 ex12) d_Pr_read_159
def f_Pr_read_8 (N : Nat)  : Nat → Nat → Int32 → z_H → Option (Int32 × z_H)
  | 0, _, _, _ => none
  | n + 1, v0, v3, h =>
    if 240 < v3 then
    (f_Pr_read_128 N v0 h)
    else
    (z_b (gR h v0 8 0) fun x2 =>
    z_b (gO h x2 2) fun u3 =>
    z_b (f_Cur_look N x2 0 h) fun r4 =>
    if (r4.1) = 47 then
    (f_Pr_read_128 N v0 r4.2)
    else
    (z_b (gR r4.2 v0 8 0) fun x6 =>
    z_b (gO r4.2 x6 2) fun u7 =>
    z_b (f_Cur_look N x6 0 r4.2) fun r8 =>
    z_b (some (r8.1)) fun x9 =>
    if x9 = 42 then
    (z_b (gO r8.2 v0 8) fun u26 =>
    z_b (f_Pr_readStar N v0 r8.2) fun r27 =>
    z_b (some (r27.1)) fun x28 =>
    f_Pr_read_115 N (f_Pr_read_8 N  n) v0 v3 x28 r27.2)
    else
    (if x9 = 92 then
    (z_b (gO r8.2 v0 8) fun u23 =>
    z_b (f_Pr_readEscape N v0 r8.2) fun r24 =>
    z_b (some (r24.1)) fun x25 =>
    f_Pr_read_115 N (f_Pr_read_8 N  n) v0 v3 x25 r24.2)
    else
    (if x9 = 91 then
    (z_b (gO r8.2 v0 8) fun u20 =>
    z_b (f_Pr_readSet N v0 r8.2) fun r21 =>
    z_b (some (r21.1)) fun x22 =>
    f_Pr_read_115 N (f_Pr_read_8 N  n) v0 v3 x22 r21.2)
    else
    (if x9 = 36 then
    (z_b (gO r8.2 v0 8) fun u14 =>
    z_b (f_Pr_mayEnd N v0 r8.2) fun r15 =>
    if (r15.1) = 0 then
    (f_Pr_read_109 N (f_Pr_read_8 N  n) v0 v3 r15.2)
    else
    (z_b (gO r15.2 v0 8) fun u17 =>
    z_b (f_Pr_readEnd N v0 r15.2) fun r18 =>
    z_b (some (r18.1)) fun x19 =>
    f_Pr_read_115 N (f_Pr_read_8 N  n) v0 v3 x19 r18.2))
    else
    (f_Pr_read_109 N (f_Pr_read_8 N  n) v0 v3 r8.2))))))
set_option maxRecDepth 20000 in
set_option maxHeartbeats 2000000 in
theorem s_Pr_read_8 (X : z_X p s m args meth c prog_10_method_2_code 6 (some .boolean) Ts "StreamForge$PatternReader" D dA B) {N : Nat} {r : Int32} {h' : z_H}   : ∀ n : Nat, ∀ (v0 : Nat) (v3 : Int32) (h : z_H) (H : Heap) (locs : List Loc) (ls : Array Slot), z_I D dA B h s.heap H locs → lv_has ls 6 [(0, .ref v0), (3, .int v3)] → f_Pr_read_8 N  n v0 v3 h = some (r, h') → W p l e (z_rm 3 70) s m args below meth c H locs 0 0 (MQ below (z_Q D dA B (some (.int r)) h') args s 0 0 (fun q => B ≤ q)) (F0 m 8 ls []) := by
  have hx := z_hx X
  have hb := z_hb X
  intro n
  induction n with
  | zero => intro v0 v3 h H locs ls hI hl hf; rw [f_Pr_read_8] at hf; cases hf
  | succ n ih =>
    intro v0 v3 h H locs ls hI hl hf
    rw [f_Pr_read_8] at hf
    refine lv_iload_n hx hb d_Pr_read_8 rfl (lv_at hl 1 rfl) ?_
    refine lv_sipush (v := 240) hx hb d_Pr_read_9 (by decide) ?_
    refine lv_icmp_gt (tgt := 128) hx hb d_Pr_read_12 (by decide) (fun c1 => ?_) (fun c1 => ?_)
    · rw [if_pos c1] at hf
      exact s_Pr_read_128 X  v0 h _ _ _ hI (lv_sub hl [0] rfl) hf
    · rw [if_neg c1] at hf
      refine lv_aload_n hx hb d_Pr_read_15 rfl (lv_at hl 0 rfl) ?_
      obtain ⟨x2, ex2, hf⟩ := z_bs hf
      refine z_getF X hI (k := 0) (ci := 8) (gR_s ex2) i_Pr rfl (by decide) wf_Pr_9 d_Pr_read_16 ?_
      refine lv_iconst (v := 0) hx hb d_Pr_read_19 (by decide) ?_
      obtain ⟨u3, eu3, hf⟩ := z_bs hf
      obtain ⟨r4, er4, hf⟩ := z_bs hf
      refine z_callV (As := [.int 0]) (rest := []) (r := (some (.int r4.1))) (h' := r4.2) X hI eu3 (s_Cur_look er4) rfl rfl wm_Pr_19 yi_Cur_look rfl hl.1 rfl (Nat.le_of_ble_eq_true rfl) (by decide) (by decide) d_Pr_read_20 (fun H locs hI => ?_)
      refine W.eq (g2 := F0 m 23 ls [.int (r4.1)]) rfl ?_
      refine lv_bipush (v := 47) hx hb d_Pr_read_23 (by decide) ?_
      refine lv_icmp_eq (tgt := 128) hx hb d_Pr_read_25 (by decide) (fun c5 => ?_) (fun c5 => ?_)
      · rw [if_pos c5] at hf
        exact s_Pr_read_128 X  v0 r4.2 _ _ _ hI (lv_sub hl [0] rfl) hf
      · rw [if_neg c5] at hf
        refine lv_aload_n hx hb d_Pr_read_28 rfl (lv_at hl 0 rfl) ?_
        obtain ⟨x6, ex6, hf⟩ := z_bs hf
        refine z_getF X hI (k := 0) (ci := 8) (gR_s ex6) i_Pr rfl (by decide) wf_Pr_9 d_Pr_read_29 ?_
        refine lv_iconst (v := 0) hx hb d_Pr_read_32 (by decide) ?_
        obtain ⟨u7, eu7, hf⟩ := z_bs hf
        obtain ⟨r8, er8, hf⟩ := z_bs hf
        refine z_callV (As := [.int 0]) (rest := []) (r := (some (.int r8.1))) (h' := r8.2) X hI eu7 (s_Cur_look er8) rfl rfl wm_Pr_19 yi_Cur_look rfl hl.1 rfl (Nat.le_of_ble_eq_true rfl) (by decide) (by decide) d_Pr_read_33 (fun H locs hI => ?_)
        refine W.eq (g2 := F0 m 36 ls [.int (r8.1)]) rfl ?_
        obtain ⟨x9, ex9, hf⟩ := z_bs hf
        refine z_topi (Option.some.inj ex9) ?_
        refine lv_istore (lv' := [(4, .int x9), (0, .ref v0), (3, .int v3)]) hx hb d_Pr_read_36 hl (by decide) rfl (fun ls hl => ?_)
        refine lv_iload hx hb d_Pr_read_38 (lv_at hl 0 rfl) ?_
        refine lv_bipush (v := 42) hx hb d_Pr_read_40 (by decide) ?_
        refine lv_icmp_ne (tgt := 54) hx hb d_Pr_read_42 (by decide) (fun c10 => ?_) (fun c10 => ?_)
        · rw [if_neg c10] at hf
          refine lv_iload hx hb d_Pr_read_54 (lv_at hl 0 rfl) ?_
          refine lv_bipush (v := 92) hx hb d_Pr_read_56 (by decide) ?_
          refine lv_icmp_ne (tgt := 70) hx hb d_Pr_read_58 (by decide) (fun c11 => ?_) (fun c11 => ?_)
          · rw [if_neg c11] at hf
            refine lv_iload hx hb d_Pr_read_70 (lv_at hl 0 rfl) ?_
            refine lv_bipush (v := 91) hx hb d_Pr_read_72 (by decide) ?_
            refine lv_icmp_ne (tgt := 86) hx hb d_Pr_read_74 (by decide) (fun c12 => ?_) (fun c12 => ?_)
            · rw [if_neg c12] at hf
              refine lv_iload hx hb d_Pr_read_86 (lv_at hl 0 rfl) ?_
              refine lv_bipush (v := 36) hx hb d_Pr_read_88 (by decide) ?_
              refine lv_icmp_ne (tgt := 109) hx hb d_Pr_read_90 (by decide) (fun c13 => ?_) (fun c13 => ?_)
              · rw [if_neg c13] at hf
                exact s_Pr_read_109 X ih v0 v3 r8.2 _ _ _ hI (lv_sub hl [1, 2] rfl) hf
              · rw [if_pos c13] at hf
                refine lv_aload_n hx hb d_Pr_read_93 rfl (lv_at hl 1 rfl) ?_
                obtain ⟨u14, eu14, hf⟩ := z_bs hf
                obtain ⟨r15, er15, hf⟩ := z_bs hf
                refine z_callV (As := []) (rest := []) (r := (some (.int r15.1))) (h' := r15.2) X hI eu14 (s_Pr_mayEnd er15) rfl rfl wm_Pr_35 yi_Pr_mayEnd rfl hl.1 rfl (Nat.le_of_ble_eq_true rfl) (by decide) (by decide) d_Pr_read_94 (fun H locs hI => ?_)
                refine W.eq (g2 := F0 m 97 ls [.int (r15.1)]) rfl ?_
                refine lv_if_eq (tgt := 109) hx hb d_Pr_read_97 (by decide) (fun c16 => ?_) (fun c16 => ?_)
                · rw [if_pos c16] at hf
                  exact s_Pr_read_109 X ih v0 v3 r15.2 _ _ _ hI (lv_sub hl [1, 2] rfl) hf
                · rw [if_neg c16] at hf
                  refine lv_aload_n hx hb d_Pr_read_100 rfl (lv_at hl 1 rfl) ?_
                  obtain ⟨u17, eu17, hf⟩ := z_bs hf
                  obtain ⟨r18, er18, hf⟩ := z_bs hf
                  refine z_callV (As := []) (rest := []) (r := (some (.int r18.1))) (h' := r18.2) X hI eu17 (s_Pr_readEnd er18) rfl rfl wm_Pr_38 yi_Pr_readEnd rfl hl.1 rfl (Nat.le_of_ble_eq_true rfl) (by decide) (by decide) d_Pr_read_101 (fun H locs hI => ?_)
                  refine W.eq (g2 := F0 m 104 ls [.int (r18.1)]) rfl ?_
                  obtain ⟨x19, ex19, hf⟩ := z_bs hf
                  refine z_topi (Option.some.inj ex19) ?_
                  refine lv_istore (lv' := [(5, .int x19), (4, .int x9), (0, .ref v0), (3, .int v3)]) hx hb d_Pr_read_104 hl (by decide) rfl (fun ls hl => ?_)
                  refine lv_goto (tgt := 115) hx hb d_Pr_read_106 (by decide) ?_
                  exact s_Pr_read_115 X ih v0 v3 x19 r18.2 _ _ _ hI (lv_sub hl [2, 3, 0] rfl) hf
            · rw [if_pos c12] at hf
              refine lv_aload_n hx hb d_Pr_read_77 rfl (lv_at hl 1 rfl) ?_
              obtain ⟨u20, eu20, hf⟩ := z_bs hf
              obtain ⟨r21, er21, hf⟩ := z_bs hf
              refine z_callV (As := []) (rest := []) (r := (some (.int r21.1))) (h' := r21.2) X hI eu20 (s_Pr_readSet er21) rfl rfl wm_Pr_32 yi_Pr_readSet rfl hl.1 rfl (Nat.le_of_ble_eq_true rfl) (by decide) (by decide) d_Pr_read_78 (fun H locs hI => ?_)
              refine W.eq (g2 := F0 m 81 ls [.int (r21.1)]) rfl ?_
              obtain ⟨x22, ex22, hf⟩ := z_bs hf
              refine z_topi (Option.some.inj ex22) ?_
              refine lv_istore (lv' := [(5, .int x22), (4, .int x9), (0, .ref v0), (3, .int v3)]) hx hb d_Pr_read_81 hl (by decide) rfl (fun ls hl => ?_)
              refine lv_goto (tgt := 115) hx hb d_Pr_read_83 (by decide) ?_
              exact s_Pr_read_115 X ih v0 v3 x22 r21.2 _ _ _ hI (lv_sub hl [2, 3, 0] rfl) hf
          · rw [if_pos c11] at hf
            refine lv_aload_n hx hb d_Pr_read_61 rfl (lv_at hl 1 rfl) ?_
            obtain ⟨u23, eu23, hf⟩ := z_bs hf
            obtain ⟨r24, er24, hf⟩ := z_bs hf
            refine z_callV (As := []) (rest := []) (r := (some (.int r24.1))) (h' := r24.2) X hI eu23 (s_Pr_readEscape er24) rfl rfl wm_Pr_29 yi_Pr_readEscape rfl hl.1 rfl (Nat.le_of_ble_eq_true rfl) (by decide) (by decide) d_Pr_read_62 (fun H locs hI => ?_)
            refine W.eq (g2 := F0 m 65 ls [.int (r24.1)]) rfl ?_
            obtain ⟨x25, ex25, hf⟩ := z_bs hf
            refine z_topi (Option.some.inj ex25) ?_
            refine lv_istore (lv' := [(5, .int x25), (4, .int x9), (0, .ref v0), (3, .int v3)]) hx hb d_Pr_read_65 hl (by decide) rfl (fun ls hl => ?_)
            refine lv_goto (tgt := 115) hx hb d_Pr_read_67 (by decide) ?_
            exact s_Pr_read_115 X ih v0 v3 x25 r24.2 _ _ _ hI (lv_sub hl [2, 3, 0] rfl) hf
        · rw [if_pos c10] at hf
          refine lv_aload_n hx hb d_Pr_read_45 rfl (lv_at hl 1 rfl) ?_
          obtain ⟨u26, eu26, hf⟩ := z_bs hf
          obtain ⟨r27, er27, hf⟩ := z_bs hf
          refine z_callV (As := []) (rest := []) (r := (some (.int r27.1))) (h' := r27.2) X hI eu26 (s_Pr_readStar er27) rfl rfl wm_Pr_25 yi_Pr_readStar rfl hl.1 rfl (Nat.le_of_ble_eq_true rfl) (by decide) (by decide) d_Pr_read_46 (fun H locs hI => ?_)
          refine W.eq (g2 := F0 m 49 ls [.int (r27.1)]) rfl ?_
          obtain ⟨x28, ex28, hf⟩ := z_bs hf
          refine z_topi (Option.some.inj ex28) ?_
          refine lv_istore (lv' := [(5, .int x28), (4, .int x9), (0, .ref v0), (3, .int v3)]) hx hb d_Pr_read_49 hl (by decide) rfl (fun ls hl => ?_)
          refine lv_goto (tgt := 115) hx hb d_Pr_read_51 (by decide) ?_
          exact s_Pr_read_115 X ih v0 v3 x28 r27.2 _ _ _ hI (lv_sub hl [2, 3, 0] rfl) hf
def f_Pr_read (N : Nat) (v0 : Nat) (v1 : Nat) (v2 : Nat) (h : z_H) : Option (Int32 × z_H) :=
  z_b (gO h v0 8) fun u1 =>
  z_b (f_Pr_begin N v0 v1 v2 h) fun r2 =>
  f_Pr_read_8 N N v0 0 r2
set_option maxRecDepth 20000 in
set_option maxHeartbeats 2000000 in
theorem s_Pr_read {l : Launch} {D : va_G} {dA : Nat → ClassId} {B N : Nat} {v0 : Nat} {v1 : Nat} {v2 : Nat} {h h' : z_H} {r : Int32} (hf : f_Pr_read N v0 v1 v2 h = some (r, h')) : z_Met l y_Pr_read prog_10_method_2_code 6 (some .boolean) 3 70 D dA B [.ref v0, .ref v1, .ref v2] h (some (.int r)) h' := by
  refine z_of (by decide) (Nat.le_of_ble_eq_true rfl) (fun p e s m below meth c ls X hI hl => ?_)
  have hx := z_hx X
  have hb := z_hb X
  have hl : lv_has ls 6 [(0, .ref v0), (1, .ref v1), (2, .ref v2)] := hl
  unfold f_Pr_read at hf
  obtain ⟨locs, hlo⟩ : ∃ z : List Loc, z = [] := ⟨_, rfl⟩
  rw [← hlo] at hI ⊢
  refine lv_aload_n hx hb d_Pr_read_0 rfl (lv_at hl 0 rfl) ?_
  refine lv_aload_n hx hb d_Pr_read_1 rfl (lv_at hl 1 rfl) ?_
  refine lv_aload_n hx hb d_Pr_read_2 rfl (lv_at hl 2 rfl) ?_
  obtain ⟨u1, eu1, hf⟩ := z_bs hf
  obtain ⟨r2, er2, hf⟩ := z_bs hf
  refine z_callV (As := [.ref v1, .ref v2]) (rest := []) (r := none) (h' := r2) X hI eu1 (s_Pr_begin er2) rfl rfl wm_Pr_15 yi_Pr_begin rfl hl.1 rfl (Nat.le_of_ble_eq_true rfl) (by decide) (by decide) d_Pr_read_3 (fun H locs hI => ?_)
  refine W.eq (g2 := F0 m 6 ls []) rfl ?_
  refine lv_iconst (v := 0) hx hb d_Pr_read_6 (by decide) ?_
  refine lv_istore_n (lv' := [(3, .int 0), (0, .ref v0), (1, .ref v1), (2, .ref v2)]) hx hb d_Pr_read_7 rfl hl (by decide) rfl (fun ls hl => ?_)
  exact s_Pr_read_8 X  N v0 0 r2 _ _ _ hI (lv_sub hl [1, 0] rfl) hf
end
