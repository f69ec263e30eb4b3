set_option maxRecDepth 20000 in
def f_Row_init (N : Nat) (v0 : Nat) (v1 : Int32) (h : z_H) (n : Nat) : Option z_H :=
  z_b (zP v1) fun u2 =>
  z_b (some (z_up h n (.inl (1, (v1.toNatClampNeg, .inl fun _ => 0))))) fun h1 =>
  z_b (sF h1 v0 10 0 (.ref n)) fun h3 =>
  z_b (zD h3 (n + 0)) fun u4 =>
  some h3
set_option maxRecDepth 20000 in
set_option maxHeartbeats 8000000 in
theorem s_Row_init {l : Launch} {D : va_G} {dA : Nat → ClassId} {B N n : Nat} {v0 : Nat} {v1 : Int32} {h h' : z_H} (hf : f_Row_init N v0 v1 h n = some h') : zn_Met l y_Row_init prog_12_method_1_code 2 1 20 1 (v1.toNatClampNeg) D dA B [.ref v0, .int v1] h n h' := by
  refine zn_of (by decide) (Nat.le_of_ble_eq_true rfl) (fun p e s m below meth c ls X hname hF hn0 hI hl => ?_)
  have hx := z_hx X
  have hb := z_hb X
  have hl : lv_has ls 2 [(0, .ref v0), (1, .int v1)] := hl
  unfold f_Row_init at hf
  obtain ⟨locs, hlo⟩ : ∃ z : List Loc, z = [] := ⟨_, rfl⟩
  rw [← hlo] at hI ⊢
  refine lv_aload_n hx hb d_Row_init_0 rfl (lv_at hl 0 rfl) ?_
  refine W.objInit hx hb X.1.2.2.2.1 (z_w X wo_Row_3) (z_w X wo_i) (z_w X wo_c) rfl (hl.1.trans X.1.2.2.1.symm) rfl d_Row_init_1 (Nat.le_of_ble_eq_true rfl) (Nat.le_of_ble_eq_true rfl) ?_
  refine W.eq (g2 := F0 m 4 ls []) rfl ?_
  refine lv_aload_n hx hb d_Row_init_4 rfl (lv_at hl 0 rfl) ?_
  refine lv_iload_n hx hb d_Row_init_5 rfl (lv_at hl 1 rfl) ?_
  refine z_size (n := n) hI (by omega) (Or.inl hn0.symm) (fun hn => ?_)
  obtain ⟨u2, eu2, hf⟩ := z_bs hf
  obtain ⟨h1, eh1, hf⟩ := z_bs hf
  refine z_newa (n := n) (t := 1) (N := v1.toNatClampNeg) (a0 := (v1.toNatClampNeg, .inl fun _ => 0)) (ty := .char) X hI hn rfl rfl (fun C h9 => by cases h9) wa_1 (fun _ => rfl) (zP_s eu2).1 rfl (by have := (zP_s eu2).2; show _ * 2 ≤ _; omega) ⟨Nat.le_refl _, Nat.le_of_eq (Nat.zero_add _)⟩ d_Row_init_6 (fun H hI hn => ?_)
  rw [Option.some.inj eh1] at hI
  refine W.widen (k := 1) (n := v1.toNatClampNeg) (by decide) (Nat.le_of_eq (Nat.zero_add _)) ?_
  obtain ⟨h3, eh3, hf⟩ := z_bs hf
  refine zn_putF X hname hI (k := 0) (ci := 10) (ty0 := t_Row) eh3 i_Row t_Row_ok n_Row rfl (by decide) wf_Row_9 rfl rfl rfl rfl d_Row_init_8 (fun H locs hI => ?_)
  obtain ⟨u4, eu4, hf⟩ := z_bs hf
  refine z_size (n := n + 1) hI (by omega) (Or.inr (zD_s eu4)) (fun hn => ?_)
  cases hf
  exact zn_vret X hI hn d_Row_init_11
set_option maxRecDepth 20000 in
def f_Cur_init (N : Nat) (v0 : Nat) (h : z_H) (n : Nat) : Option z_H :=
  some h
set_option maxRecDepth 20000 in
set_option maxHeartbeats 8000000 in
theorem s_Cur_init {l : Launch} {D : va_G} {dA : Nat → ClassId} {B N n : Nat} {v0 : Nat} {h h' : z_H} (hf : f_Cur_init N v0 h n = some h') : zn_Met l y_Cur_init prog_4_method_1_code 1 1 20 0 (0) D dA B [.ref v0] h n h' := by
  refine zn_of (by decide) (Nat.le_of_ble_eq_true rfl) (fun p e s m below meth c ls X hname hF hn0 hI hl => ?_)
  have hx := z_hx X
  have hb := z_hb X
  have hl : lv_has ls 1 [(0, .ref v0)] := hl
  unfold f_Cur_init at hf
  obtain ⟨locs, hlo⟩ : ∃ z : List Loc, z = [] := ⟨_, rfl⟩
  rw [← hlo] at hI ⊢
  refine lv_aload_n hx hb d_Cur_init_0 rfl (lv_at hl 0 rfl) ?_
  refine W.objInit hx hb X.1.2.2.2.1 (z_w X wo_Cur_3) (z_w X wo_i) (z_w X wo_c) rfl (hl.1.trans X.1.2.2.1.symm) rfl d_Cur_init_1 (Nat.le_of_ble_eq_true rfl) (Nat.le_of_ble_eq_true rfl) ?_
  refine W.eq (g2 := F0 m 4 ls []) rfl ?_
  refine z_size (n := n) hI (by omega) (Or.inl hn0.symm) (fun hn => ?_)
  cases hf
  exact zn_vret X hI hn d_Cur_init_4
set_option maxRecDepth 20000 in
def f_Pr_init (N : Nat) (v0 : Nat) (v1 : Nat) (h : z_H) (n : Nat) : Option z_H :=
  z_b (sF h v0 8 0 (.ref v1)) fun h1 =>
  some h1
set_option maxRecDepth 20000 in
set_option maxHeartbeats 8000000 in
theorem s_Pr_init {l : Launch} {D : va_G} {dA : Nat → ClassId} {B N n : Nat} {v0 : Nat} {v1 : Nat} {h h' : z_H} (hf : f_Pr_init N v0 v1 h n = some h') : zn_Met l y_Pr_init prog_10_method_1_code 2 1 20 0 (0) D dA B [.ref v0, .ref v1] h n h' := by
  refine zn_of (by decide) (Nat.le_of_ble_eq_true rfl) (fun p e s m below meth c ls X hname hF hn0 hI hl => ?_)
  have hx := z_hx X
  have hb := z_hb X
  have hl : lv_has ls 2 [(0, .ref v0), (1, .ref v1)] := hl
  unfold f_Pr_init at hf
  obtain ⟨locs, hlo⟩ : ∃ z : List Loc, z = [] := ⟨_, rfl⟩
  rw [← hlo] at hI ⊢
  refine lv_aload_n hx hb d_Pr_init_0 rfl (lv_at hl 0 rfl) ?_
  refine W.objInit hx hb X.1.2.2.2.1 (z_w X wo_Pr_3) (z_w X wo_i) (z_w X wo_c) rfl (hl.1.trans X.1.2.2.1.symm) rfl d_Pr_init_1 (Nat.le_of_ble_eq_true rfl) (Nat.le_of_ble_eq_true rfl) ?_
  refine W.eq (g2 := F0 m 4 ls []) rfl ?_
  refine lv_aload_n hx hb d_Pr_init_4 rfl (lv_at hl 0 rfl) ?_
  refine lv_aload_n hx hb d_Pr_init_5 rfl (lv_at hl 1 rfl) ?_
  obtain ⟨h1, eh1, hf⟩ := z_bs hf
  refine zn_putF X hname hI (k := 0) (ci := 8) (ty0 := t_Pr) eh1 i_Pr t_Pr_ok n_Pr rfl (by decide) wf_Pr_9 rfl rfl rfl rfl d_Pr_init_6 (fun H locs hI => ?_)
  refine z_size (n := n) hI (by omega) (Or.inl hn0.symm) (fun hn => ?_)
  cases hf
  exact zn_vret X hI hn d_Pr_init_9
set_option maxRecDepth 20000 in
def f_Pa_init (N : Nat) (v0 : Nat) (h : z_H) (n : Nat) : Option z_H :=
  z_b (some (z_up h n (.inr (2, [.null, .int 0, .int 0])))) fun h1 =>
  z_b (zD h1 (n + 0)) fun u2 =>
  z_b (f_Cur_init N n h1 (n + 1)) fun h3 =>
  z_b (sF h3 v0 6 0 (.ref n)) fun h4 =>
  z_b (zD h4 (n + 0)) fun u5 =>
  z_b (some (z_up h4 (n + 1) (.inr (8, [.null, .null, .null, .int 0, .int 0, .int 0, .int 0])))) fun h6 =>
  z_b (gR h6 v0 6 0) fun x7 =>
  z_b (zD h6 (n + 1)) fun u8 =>
  z_b (f_Pr_init N (n + 1) x7 h6 (n + 2)) fun h9 =>
  z_b (sF h9 v0 6 1 (.ref (n + 1))) fun h10 =>
  z_b (zD h10 (n + 1)) fun u11 =>
  z_b (some (z_up h10 (n + 2) (.inl (0, (4, .inl fun _ => 0))))) fun h12 =>
  z_b (sF h12 v0 6 2 (.ref (n + 2))) fun h13 =>
  z_b (zD h13 (n + 2)) fun u14 =>
  z_b (some (z_up h13 (n + 3) (.inl (0, (26, .inl fun _ => 0))))) fun h15 =>
  z_b (sF h15 v0 6 3 (.ref (n + 3))) fun h16 =>
  z_b (zD h16 (n + 3)) fun u17 =>
  some h16
set_option maxRecDepth 20000 in
set_option maxHeartbeats 8000000 in
theorem s_Pa_init {l : Launch} {D : va_G} {dA : Nat → ClassId} {B N n : Nat} {v0 : Nat} {h h' : z_H} (hf : f_Pa_init N v0 h n = some h') : zn_Met l y_Pa_init prog_8_method_1_code 1 2 41 4 (40) D dA B [.ref v0] h n h' := by
  refine zn_of (by decide) (Nat.le_of_ble_eq_true rfl) (fun p e s m below meth c ls X hname hF hn0 hI hl => ?_)
  have hx := z_hx X
  have hb := z_hb X
  have hl : lv_has ls 1 [(0, .ref v0)] := hl
  unfold f_Pa_init at hf
  obtain ⟨locs, hlo⟩ : ∃ z : List Loc, z = [] := ⟨_, rfl⟩
  rw [← hlo] at hI ⊢
  refine lv_aload_n hx hb d_Pa_init_0 rfl (lv_at hl 0 rfl) ?_
  refine W.objInit hx hb X.1.2.2.2.1 (z_w X wo_Pa_3) (z_w X wo_i) (z_w X wo_c) rfl (hl.1.trans X.1.2.2.1.symm) rfl d_Pa_init_1 (Nat.le_of_ble_eq_true rfl) (Nat.le_of_ble_eq_true rfl) ?_
  refine W.eq (g2 := F0 m 4 ls []) rfl ?_
  refine lv_aload_n hx hb d_Pa_init_4 rfl (lv_at hl 0 rfl) ?_
  refine z_size (n := n) hI (by omega) (Or.inl hn0.symm) (fun hn => ?_)
  obtain ⟨h1, eh1, hf⟩ := z_bs hf
  refine z_new (n := n) (ci := 2) (fs := [.null, .int 0, .int 0]) (ty0 := t_Cur) X hI hn i_Cur t_Cur_ok rfl wk_Pa_9 wn_Cur wz_Cur (by decide +kernel) (by decide) d_Pa_init_5 (fun H hI hn => ?_)
  rw [Option.some.inj eh1] at hI
  refine W.widen (k := 1) (n := 3) (by decide) (by decide) ?_
  refine lv_dup hx hb d_Pa_init_8 rfl ?_
  obtain ⟨u2, eu2, hf⟩ := z_bs hf
  refine z_size (n := n + 1) hI (by omega) (Or.inr (zD_s eu2)) (fun hn => ?_)
  obtain ⟨h3, eh3, hf⟩ := z_bs hf
  refine zn_callN (n := (n + 1)) (mc := 0) (ms := 0) (As := []) (rest := [.ref n, .ref v0]) (h' := h3) X hF hI hn (s_Cur_init eh3) (List.mem_of_getElem? (i := 1) rfl) yn_Cur_init rfl hl.1 rfl (Nat.le_of_ble_eq_true rfl) (by decide) (by decide) d_Pa_init_9 (fun H locs hI hn => ?_)
  refine W.widen (k := 1) (n := 3) (by decide) (by decide) ?_
  obtain ⟨h4, eh4, hf⟩ := z_bs hf
  refine zn_putF X hname hI (k := 0) (ci := 6) (ty0 := t_Pa) eh4 i_Pa t_Pa_ok n_Pa rfl (by decide) wf_Pa_12 rfl rfl rfl rfl d_Pa_init_12 (fun H locs hI => ?_)
  refine lv_aload_n hx hb d_Pa_init_15 rfl (lv_at hl 0 rfl) ?_
  obtain ⟨u5, eu5, hf⟩ := z_bs hf
  refine z_size (n := n + 1) hI (by omega) (Or.inr (zD_s eu5)) (fun hn => ?_)
  obtain ⟨h6, eh6, hf⟩ := z_bs hf
  refine z_new (n := (n + 1)) (ci := 8) (fs := [.null, .null, .null, .int 0, .int 0, .int 0, .int 0]) (ty0 := t_Pr) X hI hn i_Pr t_Pr_ok rfl wk_Pa_18 wn_Pr wz_Pr (by decide +kernel) (by decide) d_Pa_init_16 (fun H hI hn => ?_)
  rw [Option.some.inj eh6] at hI
  refine W.widen (k := 2) (n := 10) (by decide) (by decide) ?_
  refine lv_dup hx hb d_Pa_init_19 rfl ?_
  refine lv_aload_n hx hb d_Pa_init_20 rfl (lv_at hl 0 rfl) ?_
  obtain ⟨x7, ex7, hf⟩ := z_bs hf
  refine z_getF X hI (k := 0) (ci := 6) (gR_s ex7) i_Pa rfl (by decide) wf_Pa_12 d_Pa_init_21 ?_
  obtain ⟨u8, eu8, hf⟩ := z_bs hf
  refine z_size (n := n + 2) hI (by omega) (Or.inr (zD_s eu8)) (fun hn => ?_)
  obtain ⟨h9, eh9, hf⟩ := z_bs hf
  refine zn_callI (n := (n + 2)) (mc := 0) (ms := 0) (As := [.ref x7]) (rest := [.ref (n + 1), .ref v0]) (h' := h9) X hF hI hn (s_Pr_init eh9) wm_Pa_20 yn_Pr_init rfl hl.1 rfl (Nat.le_of_ble_eq_true rfl) (by decide) (by decide) d_Pa_init_24 (fun H locs hI hn => ?_)
  refine W.widen (k := 2) (n := 10) (by decide) (by decide) ?_
  obtain ⟨h10, eh10, hf⟩ := z_bs hf
  refine zn_putF X hname hI (k := 1) (ci := 6) (ty0 := t_Pa) eh10 i_Pa t_Pa_ok n_Pa rfl (by decide) wf_Pa_23 rfl rfl rfl rfl d_Pa_init_27 (fun H locs hI => ?_)
  refine lv_aload_n hx hb d_Pa_init_30 rfl (lv_at hl 0 rfl) ?_
  refine lv_iconst (v := 4) hx hb d_Pa_init_31 (by decide) ?_
  obtain ⟨u11, eu11, hf⟩ := z_bs hf
  refine z_size (n := n + 2) hI (by omega) (Or.inr (zD_s eu11)) (fun hn => ?_)
  obtain ⟨h12, eh12, hf⟩ := z_bs hf
  refine z_newa (n := (n + 2)) (t := 0) (N := 4) (a0 := (4, .inl fun _ => 0)) (ty := .int) X hI hn rfl rfl (fun C h9 => by cases h9) wa_0 (fun _ => rfl) (by decide) (by decide) (by decide) (by decide) d_Pa_init_32 (fun H hI hn => ?_)
  rw [Option.some.inj eh12] at hI
  refine W.widen (k := 3) (n := 14) (by decide) (by decide) ?_
  obtain ⟨h13, eh13, hf⟩ := z_bs hf
  refine zn_putF X hname hI (k := 2) (ci := 6) (ty0 := t_Pa) eh13 i_Pa t_Pa_ok n_Pa rfl (by decide) wf_Pa_27 rfl rfl rfl rfl d_Pa_init_34 (fun H locs hI => ?_)
  refine lv_aload_n hx hb d_Pa_init_37 rfl (lv_at hl 0 rfl) ?_
  refine lv_bipush (v := 26) hx hb d_Pa_init_38 (by decide) ?_
  obtain ⟨u14, eu14, hf⟩ := z_bs hf
  refine z_size (n := n + 3) hI (by omega) (Or.inr (zD_s eu14)) (fun hn => ?_)
  obtain ⟨h15, eh15, hf⟩ := z_bs hf
  refine z_newa (n := (n + 3)) (t := 0) (N := 26) (a0 := (26, .inl fun _ => 0)) (ty := .int) X hI hn rfl rfl (fun C h9 => by cases h9) wa_0 (fun _ => rfl) (by decide) (by decide) (by decide) (by decide) d_Pa_init_40 (fun H hI hn => ?_)
  rw [Option.some.inj eh15] at hI
  refine W.widen (k := 4) (n := 40) (by decide) (by decide) ?_
  obtain ⟨h16, eh16, hf⟩ := z_bs hf
  refine zn_putF X hname hI (k := 3) (ci := 6) (ty0 := t_Pa) eh16 i_Pa t_Pa_ok n_Pa rfl (by decide) wf_Pa_31 rfl rfl rfl rfl d_Pa_init_42 (fun H locs hI => ?_)
  obtain ⟨u17, eu17, hf⟩ := z_bs hf
  refine z_size (n := n + 4) hI (by omega) (Or.inr (zD_s eu17)) (fun hn => ?_)
  cases hf
  exact zn_vret X hI hn d_Pa_init_45
set_option maxRecDepth 20000 in
def f_Ma_init (N : Nat) (v0 : Nat) (h : z_H) (n : Nat) : Option z_H :=
  z_b (some (z_up h n (.inl (0, (4, .inl fun _ => 0))))) fun h1 =>
  z_b (sF h1 v0 5 5 (.ref n)) fun h2 =>
  z_b (zD h2 (n + 0)) fun u3 =>
  z_b (some (z_up h2 (n + 1) (.inl (0, (4, .inl fun _ => 0))))) fun h4 =>
  z_b (sF h4 v0 5 6 (.ref (n + 1))) fun h5 =>
  z_b (zD h5 (n + 1)) fun u6 =>
  z_b (some (z_up h5 (n + 2) (.inl (0, (4, .inl fun _ => 0))))) fun h7 =>
  z_b (sF h7 v0 5 7 (.ref (n + 2))) fun h8 =>
  z_b (zD h8 (n + 2)) fun u9 =>
  z_b (some (z_up h8 (n + 3) (.inl (0, (4, .inl fun _ => 0))))) fun h10 =>
  z_b (sF h10 v0 5 8 (.ref (n + 3))) fun h11 =>
  z_b (zD h11 (n + 3)) fun u12 =>
  some h11
set_option maxRecDepth 20000 in
set_option maxHeartbeats 8000000 in
theorem s_Ma_init {l : Launch} {D : va_G} {dA : Nat → ClassId} {B N n : Nat} {v0 : Nat} {h h' : z_H} (hf : f_Ma_init N v0 h n = some h') : zn_Met l y_Ma_init prog_7_method_1_code 1 1 20 4 (16) D dA B [.ref v0] h n h' := by
  refine zn_of (by decide) (Nat.le_of_ble_eq_true rfl) (fun p e s m below meth c ls X hname hF hn0 hI hl => ?_)
  have hx := z_hx X
  have hb := z_hb X
  have hl : lv_has ls 1 [(0, .ref v0)] := hl
  unfold f_Ma_init at hf
  obtain ⟨locs, hlo⟩ : ∃ z : List Loc, z = [] := ⟨_, rfl⟩
  rw [← hlo] at hI ⊢
  refine lv_aload_n hx hb d_Ma_init_0 rfl (lv_at hl 0 rfl) ?_
  refine W.objInit hx hb X.1.2.2.2.1 (z_w X wo_Ma_3) (z_w X wo_i) (z_w X wo_c) rfl (hl.1.trans X.1.2.2.1.symm) rfl d_Ma_init_1 (Nat.le_of_ble_eq_true rfl) (Nat.le_of_ble_eq_true rfl) ?_
  refine W.eq (g2 := F0 m 4 ls []) rfl ?_
  refine lv_aload_n hx hb d_Ma_init_4 rfl (lv_at hl 0 rfl) ?_
  refine lv_iconst (v := 4) hx hb d_Ma_init_5 (by decide) ?_
  refine z_size (n := n) hI (by omega) (Or.inl hn0.symm) (fun hn => ?_)
  obtain ⟨h1, eh1, hf⟩ := z_bs hf
  refine z_newa (n := n) (t := 0) (N := 4) (a0 := (4, .inl fun _ => 0)) (ty := .int) X hI hn rfl rfl (fun C h9 => by cases h9) wa_0 (fun _ => rfl) (by decide) (by decide) (by decide) (by decide) d_Ma_init_6 (fun H hI hn => ?_)
  rw [Option.some.inj eh1] at hI
  refine W.widen (k := 1) (n := 4) (by decide) (by decide) ?_
  obtain ⟨h2, eh2, hf⟩ := z_bs hf
  refine zn_putF X hname hI (k := 5) (ci := 5) (ty0 := t_Ma) eh2 i_Ma t_Ma_ok n_Ma rfl (by decide) wf_Ma_9 rfl rfl rfl rfl d_Ma_init_8 (fun H locs hI => ?_)
  refine lv_aload_n hx hb d_Ma_init_11 rfl (lv_at hl 0 rfl) ?_
  refine lv_iconst (v := 4) hx hb d_Ma_init_12 (by decide) ?_
  obtain ⟨u3, eu3, hf⟩ := z_bs hf
  refine z_size (n := n + 1) hI (by omega) (Or.inr (zD_s eu3)) (fun hn => ?_)
  obtain ⟨h4, eh4, hf⟩ := z_bs hf
  refine z_newa (n := (n + 1)) (t := 0) (N := 4) (a0 := (4, .inl fun _ => 0)) (ty := .int) X hI hn rfl rfl (fun C h9 => by cases h9) wa_0 (fun _ => rfl) (by decide) (by decide) (by decide) (by decide) d_Ma_init_13 (fun H hI hn => ?_)
  rw [Option.some.inj eh4] at hI
  refine W.widen (k := 2) (n := 8) (by decide) (by decide) ?_
  obtain ⟨h5, eh5, hf⟩ := z_bs hf
  refine zn_putF X hname hI (k := 6) (ci := 5) (ty0 := t_Ma) eh5 i_Ma t_Ma_ok n_Ma rfl (by decide) wf_Ma_15 rfl rfl rfl rfl d_Ma_init_15 (fun H locs hI => ?_)
  refine lv_aload_n hx hb d_Ma_init_18 rfl (lv_at hl 0 rfl) ?_
  refine lv_iconst (v := 4) hx hb d_Ma_init_19 (by decide) ?_
  obtain ⟨u6, eu6, hf⟩ := z_bs hf
  refine z_size (n := n + 2) hI (by omega) (Or.inr (zD_s eu6)) (fun hn => ?_)
  obtain ⟨h7, eh7, hf⟩ := z_bs hf
  refine z_newa (n := (n + 2)) (t := 0) (N := 4) (a0 := (4, .inl fun _ => 0)) (ty := .int) X hI hn rfl rfl (fun C h9 => by cases h9) wa_0 (fun _ => rfl) (by decide) (by decide) (by decide) (by decide) d_Ma_init_20 (fun H hI hn => ?_)
  rw [Option.some.inj eh7] at hI
  refine W.widen (k := 3) (n := 12) (by decide) (by decide) ?_
  obtain ⟨h8, eh8, hf⟩ := z_bs hf
  refine zn_putF X hname hI (k := 7) (ci := 5) (ty0 := t_Ma) eh8 i_Ma t_Ma_ok n_Ma rfl (by decide) wf_Ma_18 rfl rfl rfl rfl d_Ma_init_22 (fun H locs hI => ?_)
  refine lv_aload_n hx hb d_Ma_init_25 rfl (lv_at hl 0 rfl) ?_
  refine lv_iconst (v := 4) hx hb d_Ma_init_26 (by decide) ?_
  obtain ⟨u9, eu9, hf⟩ := z_bs hf
  refine z_size (n := n + 3) hI (by omega) (Or.inr (zD_s eu9)) (fun hn => ?_)
  obtain ⟨h10, eh10, hf⟩ := z_bs hf
  refine z_newa (n := (n + 3)) (t := 0) (N := 4) (a0 := (4, .inl fun _ => 0)) (ty := .int) X hI hn rfl rfl (fun C h9 => by cases h9) wa_0 (fun _ => rfl) (by decide) (by decide) (by decide) (by decide) d_Ma_init_27 (fun H hI hn => ?_)
  rw [Option.some.inj eh10] at hI
  refine W.widen (k := 4) (n := 16) (by decide) (by decide) ?_
  obtain ⟨h11, eh11, hf⟩ := z_bs hf
  refine zn_putF X hname hI (k := 8) (ci := 5) (ty0 := t_Ma) eh11 i_Ma t_Ma_ok n_Ma rfl (by decide) wf_Ma_21 rfl rfl rfl rfl d_Ma_init_29 (fun H locs hI => ?_)
  obtain ⟨u12, eu12, hf⟩ := z_bs hf
  refine z_size (n := n + 4) hI (by omega) (Or.inr (zD_s eu12)) (fun hn => ?_)
  cases hf
  exact zn_vret X hI hn d_Ma_init_32
set_option maxRecDepth 20000 in
def f_Ed_init (N : Nat) (v0 : Nat) (h : z_H) (n : Nat) : Option z_H :=
  z_b (some (z_up h n (.inr (10, [.null, .int 0])))) fun h1 =>
  z_b (zD h1 (n + 0)) fun u2 =>
  z_b (f_Row_init N n 600 h1 (n + 1)) fun h3 =>
  z_b (sF h3 v0 3 0 (.ref n)) fun h4 =>
  z_b (zD h4 (n + 1)) fun u5 =>
  z_b (some (z_up h4 (n + 2) (.inr (10, [.null, .int 0])))) fun h6 =>
  z_b (zD h6 (n + 2)) fun u7 =>
  z_b (f_Row_init N (n + 2) 60 h6 (n + 3)) fun h8 =>
  z_b (sF h8 v0 3 1 (.ref (n + 2))) fun h9 =>
  z_b (zD h9 (n + 3)) fun u10 =>
  z_b (some (z_up h9 (n + 4) (.inr (10, [.null, .int 0])))) fun h11 =>
  z_b (zD h11 (n + 4)) fun u12 =>
  z_b (f_Row_init N (n + 4) 60 h11 (n + 5)) fun h13 =>
  z_b (sF h13 v0 3 2 (.ref (n + 4))) fun h14 =>
  z_b (zD h14 (n + 5)) fun u15 =>
  z_b (some (z_up h14 (n + 6) (.inr (10, [.null, .int 0])))) fun h16 =>
  z_b (zD h16 (n + 6)) fun u17 =>
  z_b (f_Row_init N (n + 6) 200 h16 (n + 7)) fun h18 =>
  z_b (sF h18 v0 3 7 (.ref (n + 6))) fun h19 =>
  z_b (zD h19 (n + 7)) fun u20 =>
  z_b (some (z_up h19 (n + 8) (.inr (5, [.int 0, .int 0, .null, .null, .null, .null, .null, .null, .null])))) fun h21 =>
  z_b (zD h21 (n + 8)) fun u22 =>
  z_b (f_Ma_init N (n + 8) h21 (n + 9)) fun h23 =>
  z_b (sF h23 v0 3 8 (.ref (n + 8))) fun h24 =>
  z_b (zD h24 (n + 12)) fun u25 =>
  z_b (some (z_up h24 (n + 13) (.inr (10, [.null, .int 0])))) fun h26 =>
  z_b (zD h26 (n + 13)) fun u27 =>
  z_b (f_Row_init N (n + 13) 60 h26 (n + 14)) fun h28 =>
  z_b (sF h28 v0 3 9 (.ref (n + 13))) fun h29 =>
  z_b (zD h29 (n + 14)) fun u30 =>
  some h29
set_option maxRecDepth 20000 in
set_option maxHeartbeats 8000000 in
theorem s_Ed_init {l : Launch} {D : va_G} {dA : Nat → ClassId} {B N n : Nat} {v0 : Nat} {h h' : z_H} (hf : f_Ed_init N v0 h n = some h') : zn_Met l y_Ed_init prog_5_method_1_code 1 2 41 15 (1015) D dA B [.ref v0] h n h' := by
  refine zn_of (by decide) (Nat.le_of_ble_eq_true rfl) (fun p e s m below meth c ls X hname hF hn0 hI hl => ?_)
  have hx := z_hx X
  have hb := z_hb X
  have hl : lv_has ls 1 [(0, .ref v0)] := hl
  unfold f_Ed_init at hf
  obtain ⟨locs, hlo⟩ : ∃ z : List Loc, z = [] := ⟨_, rfl⟩
  rw [← hlo] at hI ⊢
  refine lv_aload_n hx hb d_Ed_init_0 rfl (lv_at hl 0 rfl) ?_
  refine W.objInit hx hb X.1.2.2.2.1 (z_w X wo_Ed_3) (z_w X wo_i) (z_w X wo_c) rfl (hl.1.trans X.1.2.2.1.symm) rfl d_Ed_init_1 (Nat.le_of_ble_eq_true rfl) (Nat.le_of_ble_eq_true rfl) ?_
  refine W.eq (g2 := F0 m 4 ls []) rfl ?_
  refine lv_aload_n hx hb d_Ed_init_4 rfl (lv_at hl 0 rfl) ?_
  refine z_size (n := n) hI (by omega) (Or.inl hn0.symm) (fun hn => ?_)
  obtain ⟨h1, eh1, hf⟩ := z_bs hf
  refine z_new (n := n) (ci := 10) (fs := [.null, .int 0]) (ty0 := t_Row) X hI hn i_Row t_Row_ok rfl wk_Ed_9 wn_Row wz_Row (by decide +kernel) (by decide) d_Ed_init_5 (fun H hI hn => ?_)
  rw [Option.some.inj eh1] at hI
  refine W.widen (k := 1) (n := 2) (by decide) (by decide) ?_
  refine lv_dup hx hb d_Ed_init_8 rfl ?_
  refine lv_sipush (v := 600) hx hb d_Ed_init_9 (by decide) ?_
  obtain ⟨u2, eu2, hf⟩ := z_bs hf
  refine z_size (n := n + 1) hI (by omega) (Or.inr (zD_s eu2)) (fun hn => ?_)
  obtain ⟨h3, eh3, hf⟩ := z_bs hf
  refine zn_callI (n := (n + 1)) (mc := 1) (ms := (600 : Int32).toNatClampNeg) (As := [.int 600]) (rest := [.ref n, .ref v0]) (h' := h3) X hF hI hn (s_Row_init eh3) wm_Ed_11 yn_Row_init rfl hl.1 rfl (Nat.le_of_ble_eq_true rfl) (by decide) (by decide) d_Ed_init_12 (fun H locs hI hn => ?_)
  refine W.widen (k := 2) (n := 602) (by decide) (by decide) ?_
  obtain ⟨h4, eh4, hf⟩ := z_bs hf
  refine zn_putF X hname hI (k := 0) (ci := 3) (ty0 := t_Ed) eh4 i_Ed t_Ed_ok n_Ed rfl (by decide) wf_Ed_14 rfl rfl rfl rfl d_Ed_init_15 (fun H locs hI => ?_)
  refine lv_aload_n hx hb d_Ed_init_18 rfl (lv_at hl 0 rfl) ?_
  obtain ⟨u5, eu5, hf⟩ := z_bs hf
  refine z_size (n := n + 2) hI (by omega) (Or.inr (zD_s eu5)) (fun hn => ?_)
  obtain ⟨h6, eh6, hf⟩ := z_bs hf
  refine z_new (n := (n + 2)) (ci := 10) (fs := [.null, .int 0]) (ty0 := t_Row) X hI hn i_Row t_Row_ok rfl wk_Ed_9 wn_Row wz_Row (by decide +kernel) (by decide) d_Ed_init_19 (fun H hI hn => ?_)
  rw [Option.some.inj eh6] at hI
  refine W.widen (k := 3) (n := 604) (by decide) (by decide) ?_
  refine lv_dup hx hb d_Ed_init_22 rfl ?_
  refine lv_bipush (v := 60) hx hb d_Ed_init_23 (by decide) ?_
  obtain ⟨u7, eu7, hf⟩ := z_bs hf
  refine z_size (n := n + 3) hI (by omega) (Or.inr (zD_s eu7)) (fun hn => ?_)
  obtain ⟨h8, eh8, hf⟩ := z_bs hf
  refine zn_callI (n := (n + 3)) (mc := 1) (ms := (60 : Int32).toNatClampNeg) (As := [.int 60]) (rest := [.ref (n + 2), .ref v0]) (h' := h8) X hF hI hn (s_Row_init eh8) wm_Ed_11 yn_Row_init rfl hl.1 rfl (Nat.le_of_ble_eq_true rfl) (by decide) (by decide) d_Ed_init_25 (fun H locs hI hn => ?_)
  refine W.widen (k := 4) (n := 664) (by decide) (by decide) ?_
  obtain ⟨h9, eh9, hf⟩ := z_bs hf
  refine z_putF X hI (k := 1) (ci := 3) (ty0 := t_Ed) eh9 i_Ed t_Ed_ok n_Ed rfl (by decide) wf_Ed_20 rfl rfl rfl d_Ed_init_28 (fun H locs hI => ?_)
  refine lv_aload_n hx hb d_Ed_init_31 rfl (lv_at hl 0 rfl) ?_
  obtain ⟨u10, eu10, hf⟩ := z_bs hf
  refine z_size (n := n + 4) hI (by omega) (Or.inr (zD_s eu10)) (fun hn => ?_)
  obtain ⟨h11, eh11, hf⟩ := z_bs hf
  refine z_new (n := (n + 4)) (ci := 10) (fs := [.null, .int 0]) (ty0 := t_Row) X hI hn i_Row t_Row_ok rfl wk_Ed_9 wn_Row wz_Row (by decide +kernel) (by decide) d_Ed_init_32 (fun H hI hn => ?_)
  rw [Option.some.inj eh11] at hI
  refine W.widen (k := 5) (n := 666) (by decide) (by decide) ?_
  refine lv_dup hx hb d_Ed_init_35 rfl ?_
  refine lv_bipush (v := 60) hx hb d_Ed_init_36 (by decide) ?_
  obtain ⟨u12, eu12, hf⟩ := z_bs hf
  refine z_size (n := n + 5) hI (by omega) (Or.inr (zD_s eu12)) (fun hn => ?_)
  obtain ⟨h13, eh13, hf⟩ := z_bs hf
  refine zn_callI (n := (n + 5)) (mc := 1) (ms := (60 : Int32).toNatClampNeg) (As := [.int 60]) (rest := [.ref (n + 4), .ref v0]) (h' := h13) X hF hI hn (s_Row_init eh13) wm_Ed_11 yn_Row_init rfl hl.1 rfl (Nat.le_of_ble_eq_true rfl) (by decide) (by decide) d_Ed_init_38 (fun H locs hI hn => ?_)
  refine W.widen (k := 6) (n := 726) (by decide) (by decide) ?_
  obtain ⟨h14, eh14, hf⟩ := z_bs hf
  refine z_putF X hI (k := 2) (ci := 3) (ty0 := t_Ed) eh14 i_Ed t_Ed_ok n_Ed rfl (by decide) wf_Ed_23 rfl rfl rfl d_Ed_init_41 (fun H locs hI => ?_)
  refine lv_aload_n hx hb d_Ed_init_44 rfl (lv_at hl 0 rfl) ?_
  obtain ⟨u15, eu15, hf⟩ := z_bs hf
  refine z_size (n := n + 6) hI (by omega) (Or.inr (zD_s eu15)) (fun hn => ?_)
  obtain ⟨h16, eh16, hf⟩ := z_bs hf
  refine z_new (n := (n + 6)) (ci := 10) (fs := [.null, .int 0]) (ty0 := t_Row) X hI hn i_Row t_Row_ok rfl wk_Ed_9 wn_Row wz_Row (by decide +kernel) (by decide) d_Ed_init_45 (fun H hI hn => ?_)
  rw [Option.some.inj eh16] at hI
  refine W.widen (k := 7) (n := 728) (by decide) (by decide) ?_
  refine lv_dup hx hb d_Ed_init_48 rfl ?_
  refine lv_sipush (v := 200) hx hb d_Ed_init_49 (by decide) ?_
  obtain ⟨u17, eu17, hf⟩ := z_bs hf
  refine z_size (n := n + 7) hI (by omega) (Or.inr (zD_s eu17)) (fun hn => ?_)
  obtain ⟨h18, eh18, hf⟩ := z_bs hf
  refine zn_callI (n := (n + 7)) (mc := 1) (ms := (200 : Int32).toNatClampNeg) (As := [.int 200]) (rest := [.ref (n + 6), .ref v0]) (h' := h18) X hF hI hn (s_Row_init eh18) wm_Ed_11 yn_Row_init rfl hl.1 rfl (Nat.le_of_ble_eq_true rfl) (by decide) (by decide) d_Ed_init_52 (fun H locs hI hn => ?_)
  refine W.widen (k := 8) (n := 928) (by decide) (by decide) ?_
  obtain ⟨h19, eh19, hf⟩ := z_bs hf
  refine zn_putF X hname hI (k := 7) (ci := 3) (ty0 := t_Ed) eh19 i_Ed t_Ed_ok n_Ed rfl (by decide) wf_Ed_26 rfl rfl rfl rfl d_Ed_init_55 (fun H locs hI => ?_)
  refine lv_aload_n hx hb d_Ed_init_58 rfl (lv_at hl 0 rfl) ?_
  obtain ⟨u20, eu20, hf⟩ := z_bs hf
  refine z_size (n := n + 8) hI (by omega) (Or.inr (zD_s eu20)) (fun hn => ?_)
  obtain ⟨h21, eh21, hf⟩ := z_bs hf
  refine z_new (n := (n + 8)) (ci := 5) (fs := [.int 0, .int 0, .null, .null, .null, .null, .null, .null, .null]) (ty0 := t_Ma) X hI hn i_Ma t_Ma_ok rfl wk_Ed_29 wn_Ma wz_Ma (by decide +kernel) (by decide) d_Ed_init_59 (fun H hI hn => ?_)
  rw [Option.some.inj eh21] at hI
  refine W.widen (k := 9) (n := 937) (by decide) (by decide) ?_
  refine lv_dup hx hb d_Ed_init_62 rfl ?_
  obtain ⟨u22, eu22, hf⟩ := z_bs hf
  refine z_size (n := n + 9) hI (by omega) (Or.inr (zD_s eu22)) (fun hn => ?_)
  obtain ⟨h23, eh23, hf⟩ := z_bs hf
  refine zn_callN (n := (n + 9)) (mc := 4) (ms := 16) (As := []) (rest := [.ref (n + 8), .ref v0]) (h' := h23) X hF hI hn (s_Ma_init eh23) (List.mem_of_getElem? (i := 3) rfl) yn_Ma_init rfl hl.1 rfl (Nat.le_of_ble_eq_true rfl) (by decide) (by decide) d_Ed_init_63 (fun H locs hI hn => ?_)
  refine W.widen (k := 13) (n := 953) (by decide) (by decide) ?_
  obtain ⟨h24, eh24, hf⟩ := z_bs hf
  refine zn_putF X hname hI (k := 8) (ci := 3) (ty0 := t_Ed) eh24 i_Ed t_Ed_ok n_Ed rfl (by decide) wf_Ed_32 rfl rfl rfl rfl d_Ed_init_66 (fun H locs hI => ?_)
  refine lv_aload_n hx hb d_Ed_init_69 rfl (lv_at hl 0 rfl) ?_
  obtain ⟨u25, eu25, hf⟩ := z_bs hf
  refine z_size (n := n + 13) hI (by omega) (Or.inr (zD_s eu25)) (fun hn => ?_)
  obtain ⟨h26, eh26, hf⟩ := z_bs hf
  refine z_new (n := (n + 13)) (ci := 10) (fs := [.null, .int 0]) (ty0 := t_Row) X hI hn i_Row t_Row_ok rfl wk_Ed_9 wn_Row wz_Row (by decide +kernel) (by decide) d_Ed_init_70 (fun H hI hn => ?_)
  rw [Option.some.inj eh26] at hI
  refine W.widen (k := 14) (n := 955) (by decide) (by decide) ?_
  refine lv_dup hx hb d_Ed_init_73 rfl ?_
  refine lv_bipush (v := 60) hx hb d_Ed_init_74 (by decide) ?_
  obtain ⟨u27, eu27, hf⟩ := z_bs hf
  refine z_size (n := n + 14) hI (by omega) (Or.inr (zD_s eu27)) (fun hn => ?_)
  obtain ⟨h28, eh28, hf⟩ := z_bs hf
  refine zn_callI (n := (n + 14)) (mc := 1) (ms := (60 : Int32).toNatClampNeg) (As := [.int 60]) (rest := [.ref (n + 13), .ref v0]) (h' := h28) X hF hI hn (s_Row_init eh28) wm_Ed_11 yn_Row_init rfl hl.1 rfl (Nat.le_of_ble_eq_true rfl) (by decide) (by decide) d_Ed_init_76 (fun H locs hI hn => ?_)
  refine W.widen (k := 15) (n := 1015) (by decide) (by decide) ?_
  obtain ⟨h29, eh29, hf⟩ := z_bs hf
  refine z_putF X hI (k := 9) (ci := 3) (ty0 := t_Ed) eh29 i_Ed t_Ed_ok n_Ed rfl (by decide) wf_Ed_36 rfl rfl rfl d_Ed_init_79 (fun H locs hI => ?_)
  obtain ⟨u30, eu30, hf⟩ := z_bs hf
  refine z_size (n := n + 15) hI (by omega) (Or.inr (zD_s eu30)) (fun hn => ?_)
  cases hf
  exact zn_vret X hI hn d_Ed_init_82
set_option maxRecDepth 20000 in
def f_It_init (N : Nat) (v0 : Nat) (h : z_H) (n : Nat) : Option z_H :=
  z_b (some (z_up h n (.inl (0, (240, .inl fun _ => 0))))) fun h1 =>
  z_b (sF h1 v0 4 0 (.ref n)) fun h2 =>
  z_b (zD h2 (n + 0)) fun u3 =>
  z_b (some (z_up h2 (n + 1) (.inl (0, (240, .inl fun _ => 0))))) fun h4 =>
  z_b (sF h4 v0 4 1 (.ref (n + 1))) fun h5 =>
  z_b (zD h5 (n + 1)) fun u6 =>
  z_b (some (z_up h5 (n + 2) (.inl (2, (240, .inr (.inl fun _ => 0)))))) fun h7 =>
  z_b (sF h7 v0 4 2 (.ref (n + 2))) fun h8 =>
  z_b (zD h8 (n + 2)) fun u9 =>
  z_b (some (z_up h8 (n + 3) (.inl (2, (240, .inr (.inl fun _ => 0)))))) fun h10 =>
  z_b (sF h10 v0 4 3 (.ref (n + 3))) fun h11 =>
  z_b (zD h11 (n + 3)) fun u12 =>
  some h11
set_option maxRecDepth 20000 in
set_option maxHeartbeats 8000000 in
theorem s_It_init {l : Launch} {D : va_G} {dA : Nat → ClassId} {B N n : Nat} {v0 : Nat} {h h' : z_H} (hf : f_It_init N v0 h n = some h') : zn_Met l y_It_init prog_6_method_1_code 1 1 20 4 (960) D dA B [.ref v0] h n h' := by
  refine zn_of (by decide) (Nat.le_of_ble_eq_true rfl) (fun p e s m below meth c ls X hname hF hn0 hI hl => ?_)
  have hx := z_hx X
  have hb := z_hb X
  have hl : lv_has ls 1 [(0, .ref v0)] := hl
  unfold f_It_init at hf
  obtain ⟨locs, hlo⟩ : ∃ z : List Loc, z = [] := ⟨_, rfl⟩
  rw [← hlo] at hI ⊢
  refine lv_aload_n hx hb d_It_init_0 rfl (lv_at hl 0 rfl) ?_
  refine W.objInit hx hb X.1.2.2.2.1 (z_w X wo_It_3) (z_w X wo_i) (z_w X wo_c) rfl (hl.1.trans X.1.2.2.1.symm) rfl d_It_init_1 (Nat.le_of_ble_eq_true rfl) (Nat.le_of_ble_eq_true rfl) ?_
  refine W.eq (g2 := F0 m 4 ls []) rfl ?_
  refine lv_aload_n hx hb d_It_init_4 rfl (lv_at hl 0 rfl) ?_
  refine lv_sipush (v := 240) hx hb d_It_init_5 (by decide) ?_
  refine z_size (n := n) hI (by omega) (Or.inl hn0.symm) (fun hn => ?_)
  obtain ⟨h1, eh1, hf⟩ := z_bs hf
  refine z_newa (n := n) (t := 0) (N := 240) (a0 := (240, .inl fun _ => 0)) (ty := .int) X hI hn rfl rfl (fun C h9 => by cases h9) wa_0 (fun _ => rfl) (by decide) (by decide) (by decide) (by decide) d_It_init_8 (fun H hI hn => ?_)
  rw [Option.some.inj eh1] at hI
  refine W.widen (k := 1) (n := 240) (by decide) (by decide) ?_
  obtain ⟨h2, eh2, hf⟩ := z_bs hf
  refine zn_putF X hname hI (k := 0) (ci := 4) (ty0 := t_It) eh2 i_It t_It_ok n_It rfl (by decide) wf_It_9 rfl rfl rfl rfl d_It_init_10 (fun H locs hI => ?_)
  refine lv_aload_n hx hb d_It_init_13 rfl (lv_at hl 0 rfl) ?_
  refine lv_sipush (v := 240) hx hb d_It_init_14 (by decide) ?_
  obtain ⟨u3, eu3, hf⟩ := z_bs hf
  refine z_size (n := n + 1) hI (by omega) (Or.inr (zD_s eu3)) (fun hn => ?_)
  obtain ⟨h4, eh4, hf⟩ := z_bs hf
  refine z_newa (n := (n + 1)) (t := 0) (N := 240) (a0 := (240, .inl fun _ => 0)) (ty := .int) X hI hn rfl rfl (fun C h9 => by cases h9) wa_0 (fun _ => rfl) (by decide) (by decide) (by decide) (by decide) d_It_init_17 (fun H hI hn => ?_)
  rw [Option.some.inj eh4] at hI
  refine W.widen (k := 2) (n := 480) (by decide) (by decide) ?_
  obtain ⟨h5, eh5, hf⟩ := z_bs hf
  refine zn_putF X hname hI (k := 1) (ci := 4) (ty0 := t_It) eh5 i_It t_It_ok n_It rfl (by decide) wf_It_15 rfl rfl rfl rfl d_It_init_19 (fun H locs hI => ?_)
  refine lv_aload_n hx hb d_It_init_22 rfl (lv_at hl 0 rfl) ?_
  refine lv_sipush (v := 240) hx hb d_It_init_23 (by decide) ?_
  obtain ⟨u6, eu6, hf⟩ := z_bs hf
  refine z_size (n := n + 2) hI (by omega) (Or.inr (zD_s eu6)) (fun hn => ?_)
  obtain ⟨h7, eh7, hf⟩ := z_bs hf
  refine z_newa (n := (n + 2)) (t := 2) (N := 240) (a0 := (240, .inr (.inl fun _ => 0))) (ty := .long) X hI hn rfl rfl (fun C h9 => by cases h9) wa_2 (fun _ => rfl) (by decide) (by decide) (by decide) (by decide) d_It_init_26 (fun H hI hn => ?_)
  rw [Option.some.inj eh7] at hI
  refine W.widen (k := 3) (n := 720) (by decide) (by decide) ?_
  obtain ⟨h8, eh8, hf⟩ := z_bs hf
  refine zn_putF X hname hI (k := 2) (ci := 4) (ty0 := t_It) eh8 i_It t_It_ok n_It rfl (by decide) wf_It_18 rfl rfl rfl rfl d_It_init_28 (fun H locs hI => ?_)
  refine lv_aload_n hx hb d_It_init_31 rfl (lv_at hl 0 rfl) ?_
  refine lv_sipush (v := 240) hx hb d_It_init_32 (by decide) ?_
  obtain ⟨u9, eu9, hf⟩ := z_bs hf
  refine z_size (n := n + 3) hI (by omega) (Or.inr (zD_s eu9)) (fun hn => ?_)
  obtain ⟨h10, eh10, hf⟩ := z_bs hf
  refine z_newa (n := (n + 3)) (t := 2) (N := 240) (a0 := (240, .inr (.inl fun _ => 0))) (ty := .long) X hI hn rfl rfl (fun C h9 => by cases h9) wa_2 (fun _ => rfl) (by decide) (by decide) (by decide) (by decide) d_It_init_35 (fun H hI hn => ?_)
  rw [Option.some.inj eh10] at hI
  refine W.widen (k := 4) (n := 960) (by decide) (by decide) ?_
  obtain ⟨h11, eh11, hf⟩ := z_bs hf
  refine zn_putF X hname hI (k := 3) (ci := 4) (ty0 := t_It) eh11 i_It t_It_ok n_It rfl (by decide) wf_It_22 rfl rfl rfl rfl d_It_init_37 (fun H locs hI => ?_)
  obtain ⟨u12, eu12, hf⟩ := z_bs hf
  refine z_size (n := n + 4) hI (by omega) (Or.inr (zD_s eu12)) (fun hn => ?_)
  cases hf
  exact zn_vret X hI hn d_It_init_40
set_option maxRecDepth 20000 in
def f_Pt_init (N : Nat) (v0 : Nat) (h : z_H) (n : Nat) : Option z_H :=
  some h
set_option maxRecDepth 20000 in
set_option maxHeartbeats 8000000 in
theorem s_Pt_init {l : Launch} {D : va_G} {dA : Nat → ClassId} {B N n : Nat} {v0 : Nat} {h h' : z_H} (hf : f_Pt_init N v0 h n = some h') : zn_Met l y_Pt_init prog_9_method_1_code 1 1 20 0 (0) D dA B [.ref v0] h n h' := by
  refine zn_of (by decide) (Nat.le_of_ble_eq_true rfl) (fun p e s m below meth c ls X hname hF hn0 hI hl => ?_)
  have hx := z_hx X
  have hb := z_hb X
  have hl : lv_has ls 1 [(0, .ref v0)] := hl
  unfold f_Pt_init at hf
  obtain ⟨locs, hlo⟩ : ∃ z : List Loc, z = [] := ⟨_, rfl⟩
  rw [← hlo] at hI ⊢
  refine lv_aload_n hx hb d_Pt_init_0 rfl (lv_at hl 0 rfl) ?_
  refine W.objInit hx hb X.1.2.2.2.1 (z_w X wo_Pt_1) (z_w X wo_i) (z_w X wo_c) rfl (hl.1.trans X.1.2.2.1.symm) rfl d_Pt_init_1 (Nat.le_of_ble_eq_true rfl) (Nat.le_of_ble_eq_true rfl) ?_
  refine W.eq (g2 := F0 m 4 ls []) rfl ?_
  refine z_size (n := n) hI (by omega) (Or.inl hn0.symm) (fun hn => ?_)
  cases hf
  exact zn_vret X hI hn d_Pt_init_4
set_option maxRecDepth 20000 in
def f_Addr_init (N : Nat) (v0 : Nat) (h : z_H) (n : Nat) : Option z_H :=
  z_b (some (z_up h n (.inr (7, [.int 0, .int 0, .int 0, .int 0, .int 0, .int 0, .int 0])))) fun h1 =>
  z_b (zD h1 (n + 0)) fun u2 =>
  z_b (f_Pt_init N n h1 (n + 1)) fun h3 =>
  z_b (sF h3 v0 0 0 (.ref n)) fun h4 =>
  z_b (zD h4 (n + 0)) fun u5 =>
  some h4
set_option maxRecDepth 20000 in
set_option maxHeartbeats 8000000 in
theorem s_Addr_init {l : Launch} {D : va_G} {dA : Nat → ClassId} {B N n : Nat} {v0 : Nat} {h h' : z_H} (hf : f_Addr_init N v0 h n = some h') : zn_Met l y_Addr_init prog_2_method_1_code 1 2 40 1 (7) D dA B [.ref v0] h n h' := by
  refine zn_of (by decide) (Nat.le_of_ble_eq_true rfl) (fun p e s m below meth c ls X hname hF hn0 hI hl => ?_)
  have hx := z_hx X
  have hb := z_hb X
  have hl : lv_has ls 1 [(0, .ref v0)] := hl
  unfold f_Addr_init at hf
  obtain ⟨locs, hlo⟩ : ∃ z : List Loc, z = [] := ⟨_, rfl⟩
  rw [← hlo] at hI ⊢
  refine lv_aload_n hx hb d_Addr_init_0 rfl (lv_at hl 0 rfl) ?_
  refine W.objInit hx hb X.1.2.2.2.1 (z_w X wo_Addr_1) (z_w X wo_i) (z_w X wo_c) rfl (hl.1.trans X.1.2.2.1.symm) rfl d_Addr_init_1 (Nat.le_of_ble_eq_true rfl) (Nat.le_of_ble_eq_true rfl) ?_
  refine W.eq (g2 := F0 m 4 ls []) rfl ?_
  refine lv_aload_n hx hb d_Addr_init_4 rfl (lv_at hl 0 rfl) ?_
  refine z_size (n := n) hI (by omega) (Or.inl hn0.symm) (fun hn => ?_)
  obtain ⟨h1, eh1, hf⟩ := z_bs hf
  refine z_new (n := n) (ci := 7) (fs := [.int 0, .int 0, .int 0, .int 0, .int 0, .int 0, .int 0]) (ty0 := t_Pt) X hI hn i_Pt t_Pt_ok rfl wk_Addr_7 wn_Pt wz_Pt (by decide +kernel) (by decide) d_Addr_init_5 (fun H hI hn => ?_)
  rw [Option.some.inj eh1] at hI
  refine W.widen (k := 1) (n := 7) (by decide) (by decide) ?_
  refine lv_dup hx hb d_Addr_init_8 rfl ?_
  obtain ⟨u2, eu2, hf⟩ := z_bs hf
  refine z_size (n := n + 1) hI (by omega) (Or.inr (zD_s eu2)) (fun hn => ?_)
  obtain ⟨h3, eh3, hf⟩ := z_bs hf
  refine zn_callN (n := (n + 1)) (mc := 0) (ms := 0) (As := []) (rest := [.ref n, .ref v0]) (h' := h3) X hF hI hn (s_Pt_init eh3) (List.mem_of_getElem? (i := 8) rfl) yn_Pt_init rfl hl.1 rfl (Nat.le_of_ble_eq_true rfl) (by decide) (by decide) d_Addr_init_9 (fun H locs hI hn => ?_)
  refine W.widen (k := 1) (n := 7) (by decide) (by decide) ?_
  obtain ⟨h4, eh4, hf⟩ := z_bs hf
  refine zn_putF X hname hI (k := 0) (ci := 0) (ty0 := t_Addr) eh4 i_Addr t_Addr_ok n_Addr rfl (by decide) wf_Addr_10 rfl rfl rfl rfl d_Addr_init_12 (fun H locs hI => ?_)
  obtain ⟨u5, eu5, hf⟩ := z_bs hf
  refine z_size (n := n + 1) hI (by omega) (Or.inr (zD_s eu5)) (fun hn => ?_)
  cases hf
  exact zn_vret X hI hn d_Addr_init_15
set_option maxRecDepth 20000 in
def f_Cmd_init (N : Nat) (v0 : Nat) (h : z_H) (n : Nat) : Option z_H :=
  z_b (some (z_up h n (.inr (0, [.null, .int 0, .int 0])))) fun h1 =>
  z_b (zD h1 (n + 0)) fun u2 =>
  z_b (f_Addr_init N n h1 (n + 1)) fun h3 =>
  z_b (sF h3 v0 1 0 (.ref n)) fun h4 =>
  z_b (zD h4 (n + 1)) fun u5 =>
  z_b (some (z_up h4 (n + 2) (.inr (0, [.null, .int 0, .int 0])))) fun h6 =>
  z_b (zD h6 (n + 2)) fun u7 =>
  z_b (f_Addr_init N (n + 2) h6 (n + 3)) fun h8 =>
  z_b (sF h8 v0 1 1 (.ref (n + 2))) fun h9 =>
  z_b (zD h9 (n + 3)) fun u10 =>
  z_b (some (z_up h9 (n + 4) (.inr (7, [.int 0, .int 0, .int 0, .int 0, .int 0, .int 0, .int 0])))) fun h11 =>
  z_b (zD h11 (n + 4)) fun u12 =>
  z_b (f_Pt_init N (n + 4) h11 (n + 5)) fun h13 =>
  z_b (sF h13 v0 1 2 (.ref (n + 4))) fun h14 =>
  z_b (zD h14 (n + 4)) fun u15 =>
  some h14
set_option maxRecDepth 20000 in
set_option maxHeartbeats 8000000 in
theorem s_Cmd_init {l : Launch} {D : va_G} {dA : Nat → ClassId} {B N n : Nat} {v0 : Nat} {h h' : z_H} (hf : f_Cmd_init N v0 h n = some h') : zn_Met l y_Cmd_init prog_3_method_1_code 1 3 60 5 (27) D dA B [.ref v0] h n h' := by
  refine zn_of (by decide) (Nat.le_of_ble_eq_true rfl) (fun p e s m below meth c ls X hname hF hn0 hI hl => ?_)
  have hx := z_hx X
  have hb := z_hb X
  have hl : lv_has ls 1 [(0, .ref v0)] := hl
  unfold f_Cmd_init at hf
  obtain ⟨locs, hlo⟩ : ∃ z : List Loc, z = [] := ⟨_, rfl⟩
  rw [← hlo] at hI ⊢
  refine lv_aload_n hx hb d_Cmd_init_0 rfl (lv_at hl 0 rfl) ?_
  refine W.objInit hx hb X.1.2.2.2.1 (z_w X wo_Cmd_3) (z_w X wo_i) (z_w X wo_c) rfl (hl.1.trans X.1.2.2.1.symm) rfl d_Cmd_init_1 (Nat.le_of_ble_eq_true rfl) (Nat.le_of_ble_eq_true rfl) ?_
  refine W.eq (g2 := F0 m 4 ls []) rfl ?_
  refine lv_aload_n hx hb d_Cmd_init_4 rfl (lv_at hl 0 rfl) ?_
  refine z_size (n := n) hI (by omega) (Or.inl hn0.symm) (fun hn => ?_)
  obtain ⟨h1, eh1, hf⟩ := z_bs hf
  refine z_new (n := n) (ci := 0) (fs := [.null, .int 0, .int 0]) (ty0 := t_Addr) X hI hn i_Addr t_Addr_ok rfl wk_Cmd_9 wn_Addr wz_Addr (by decide +kernel) (by decide) d_Cmd_init_5 (fun H hI hn => ?_)
  rw [Option.some.inj eh1] at hI
  refine W.widen (k := 1) (n := 3) (by decide) (by decide) ?_
  refine lv_dup hx hb d_Cmd_init_8 rfl ?_
  obtain ⟨u2, eu2, hf⟩ := z_bs hf
  refine z_size (n := n + 1) hI (by omega) (Or.inr (zD_s eu2)) (fun hn => ?_)
  obtain ⟨h3, eh3, hf⟩ := z_bs hf
  refine zn_callN (n := (n + 1)) (mc := 1) (ms := 7) (As := []) (rest := [.ref n, .ref v0]) (h' := h3) X hF hI hn (s_Addr_init eh3) (List.mem_of_getElem? (i := 7) rfl) yn_Addr_init rfl hl.1 rfl (Nat.le_of_ble_eq_true rfl) (by decide) (by decide) d_Cmd_init_9 (fun H locs hI hn => ?_)
  refine W.widen (k := 2) (n := 10) (by decide) (by decide) ?_
  obtain ⟨h4, eh4, hf⟩ := z_bs hf
  refine zn_putF X hname hI (k := 0) (ci := 1) (ty0 := t_Cmd) eh4 i_Cmd t_Cmd_ok n_Cmd rfl (by decide) wf_Cmd_12 rfl rfl rfl rfl d_Cmd_init_12 (fun H locs hI => ?_)
  refine lv_aload_n hx hb d_Cmd_init_15 rfl (lv_at hl 0 rfl) ?_
  obtain ⟨u5, eu5, hf⟩ := z_bs hf
  refine z_size (n := n + 2) hI (by omega) (Or.inr (zD_s eu5)) (fun hn => ?_)
  obtain ⟨h6, eh6, hf⟩ := z_bs hf
  refine z_new (n := (n + 2)) (ci := 0) (fs := [.null, .int 0, .int 0]) (ty0 := t_Addr) X hI hn i_Addr t_Addr_ok rfl wk_Cmd_9 wn_Addr wz_Addr (by decide +kernel) (by decide) d_Cmd_init_16 (fun H hI hn => ?_)
  rw [Option.some.inj eh6] at hI
  refine W.widen (k := 3) (n := 13) (by decide) (by decide) ?_
  refine lv_dup hx hb d_Cmd_init_19 rfl ?_
  obtain ⟨u7, eu7, hf⟩ := z_bs hf
  refine z_size (n := n + 3) hI (by omega) (Or.inr (zD_s eu7)) (fun hn => ?_)
  obtain ⟨h8, eh8, hf⟩ := z_bs hf
  refine zn_callN (n := (n + 3)) (mc := 1) (ms := 7) (As := []) (rest := [.ref (n + 2), .ref v0]) (h' := h8) X hF hI hn (s_Addr_init eh8) (List.mem_of_getElem? (i := 7) rfl) yn_Addr_init rfl hl.1 rfl (Nat.le_of_ble_eq_true rfl) (by decide) (by decide) d_Cmd_init_20 (fun H locs hI hn => ?_)
  refine W.widen (k := 4) (n := 20) (by decide) (by decide) ?_
  obtain ⟨h9, eh9, hf⟩ := z_bs hf
  refine zn_putF X hname hI (k := 1) (ci := 1) (ty0 := t_Cmd) eh9 i_Cmd t_Cmd_ok n_Cmd rfl (by decide) wf_Cmd_18 rfl rfl rfl rfl d_Cmd_init_23 (fun H locs hI => ?_)
  refine lv_aload_n hx hb d_Cmd_init_26 rfl (lv_at hl 0 rfl) ?_
  obtain ⟨u10, eu10, hf⟩ := z_bs hf
  refine z_size (n := n + 4) hI (by omega) (Or.inr (zD_s eu10)) (fun hn => ?_)
  obtain ⟨h11, eh11, hf⟩ := z_bs hf
  refine z_new (n := (n + 4)) (ci := 7) (fs := [.int 0, .int 0, .int 0, .int 0, .int 0, .int 0, .int 0]) (ty0 := t_Pt) X hI hn i_Pt t_Pt_ok rfl wk_Cmd_21 wn_Pt wz_Pt (by decide +kernel) (by decide) d_Cmd_init_27 (fun H hI hn => ?_)
  rw [Option.some.inj eh11] at hI
  refine W.widen (k := 5) (n := 27) (by decide) (by decide) ?_
  refine lv_dup hx hb d_Cmd_init_30 rfl ?_
  obtain ⟨u12, eu12, hf⟩ := z_bs hf
  refine z_size (n := n + 5) hI (by omega) (Or.inr (zD_s eu12)) (fun hn => ?_)
  obtain ⟨h13, eh13, hf⟩ := z_bs hf
  refine zn_callN (n := (n + 5)) (mc := 0) (ms := 0) (As := []) (rest := [.ref (n + 4), .ref v0]) (h' := h13) X hF hI hn (s_Pt_init eh13) (List.mem_of_getElem? (i := 9) rfl) yn_Pt_init rfl hl.1 rfl (Nat.le_of_ble_eq_true rfl) (by decide) (by decide) d_Cmd_init_31 (fun H locs hI hn => ?_)
  refine W.widen (k := 5) (n := 27) (by decide) (by decide) ?_
  obtain ⟨h14, eh14, hf⟩ := z_bs hf
  refine zn_putF X hname hI (k := 2) (ci := 1) (ty0 := t_Cmd) eh14 i_Cmd t_Cmd_ok n_Cmd rfl (by decide) wf_Cmd_24 rfl rfl rfl rfl d_Cmd_init_34 (fun H locs hI => ?_)
  obtain ⟨u15, eu15, hf⟩ := z_bs hf
  refine z_size (n := n + 5) hI (by omega) (Or.inr (zD_s eu15)) (fun hn => ?_)
  cases hf
  exact zn_vret X hI hn d_Cmd_init_37
