set_option maxRecDepth 20000 in
def f_SF_init (N : Nat) (v0 : Nat) (h : z_H) (n : Nat) : Option z_H :=
  z_b (some (z_up h n (.inr (10, [.null, .int 0])))) fun h1 =>
  z_b (zD h1 (n + 0)) fun u2 =>
  z_b (f_Row_init N n 240 h1 (n + 1)) fun h3 =>
  z_b (sF h3 v0 11 0 (.ref n)) fun h4 =>
  z_b (zD h4 (n + 1)) fun u5 =>
  z_b (some (z_up h4 (n + 2) (.inl (4, 12, .inr (.inr (.inr (.inr (fun _ => none)))))))) fun h6 =>
  z_b (sF h6 v0 11 1 (.ref (n + 2))) fun h7 =>
  z_b (zD h7 (n + 2)) fun u8 =>
  z_b (some (z_up h7 (n + 3) (.inr (6, [.null, .null, .null, .null, .int 0, .null, .null])))) fun h9 =>
  z_b (zD h9 (n + 3)) fun u10 =>
  z_b (f_Pa_init N (n + 3) h9 (n + 4)) fun h11 =>
  z_b (sF h11 v0 11 2 (.ref (n + 3))) fun h12 =>
  z_b (zD h12 (n + 7)) fun u13 =>
  z_b (some (z_up h12 (n + 8) (.inr (3, [.null, .null, .null, .int 0, .int 0, .int 0, .int 0, .null, .null, .null, .null, .null, .int 0, .int 0, .int 0, .int 0, .int 0])))) fun h14 =>
  z_b (zD h14 (n + 8)) fun u15 =>
  z_b (f_Ed_init N (n + 8) h14 (n + 9)) fun h16 =>
  z_b (sF h16 v0 11 3 (.ref (n + 8))) fun h17 =>
  z_b (zD h17 (n + 23)) fun u18 =>
  z_b (some (z_up h17 (n + 24) (.inr (5, [.int 0, .int 0, .null, .null, .null, .null, .null, .null, .null])))) fun h19 =>
  z_b (zD h19 (n + 24)) fun u20 =>
  z_b (f_Ma_init N (n + 24) h19 (n + 25)) fun h21 =>
  z_b (sF h21 v0 11 4 (.ref (n + 24))) fun h22 =>
  z_b (zD h22 (n + 28)) fun u23 =>
  z_b (some (z_up h22 (n + 29) (.inr (9, [.null, .null, .null, .int 0])))) fun h24 =>
  z_b (zD h24 (n + 29)) fun u25 =>
  z_b (f_Prog_init N (n + 29) h24 (n + 30)) fun h26 =>
  z_b (sF h26 v0 11 6 (.ref (n + 29))) fun h27 =>
  z_b (zD h27 (n + 277)) fun u28 =>
  z_b (some (z_up h27 (n + 278) (.inr (9, [.null, .null, .null, .int 0])))) fun h29 =>
  z_b (zD h29 (n + 278)) fun u30 =>
  z_b (f_Prog_init N (n + 278) h29 (n + 279)) fun h31 =>
  z_b (sF h31 v0 11 7 (.ref (n + 278))) fun h32 =>
  z_b (sF h32 v0 11 9 (.int (-2))) fun h33 =>
  z_b (gR h33 v0 11 1) fun x34 =>
  z_b (zD h33 (n + 526)) fun u35 =>
  z_b (some (z_up h33 (n + 527) (.inr (10, [.null, .int 0])))) fun h36 =>
  z_b (zD h36 (n + 527)) fun u37 =>
  z_b (f_Row_init N (n + 527) 24 h36 (n + 528)) fun h38 =>
  z_b (uR h38 x34 4 0 (n + 527) 10) fun h39 =>
  z_b (gR h39 v0 11 1) fun x40 =>
  z_b (zD h39 (n + 528)) fun u41 =>
  z_b (some (z_up h39 (n + 529) (.inr (10, [.null, .int 0])))) fun h42 =>
  z_b (zD h42 (n + 529)) fun u43 =>
  z_b (f_Row_init N (n + 529) 24 h42 (n + 530)) fun h44 =>
  z_b (uR h44 x40 4 1 (n + 529) 10) fun h45 =>
  z_b (gR h45 v0 11 1) fun x46 =>
  z_b (zD h45 (n + 530)) fun u47 =>
  z_b (some (z_up h45 (n + 531) (.inr (10, [.null, .int 0])))) fun h48 =>
  z_b (zD h48 (n + 531)) fun u49 =>
  z_b (f_Row_init N (n + 531) 24 h48 (n + 532)) fun h50 =>
  z_b (uR h50 x46 4 2 (n + 531) 10) fun h51 =>
  z_b (gR h51 v0 11 1) fun x52 =>
  z_b (zD h51 (n + 532)) fun u53 =>
  z_b (some (z_up h51 (n + 533) (.inr (10, [.null, .int 0])))) fun h54 =>
  z_b (zD h54 (n + 533)) fun u55 =>
  z_b (f_Row_init N (n + 533) 24 h54 (n + 534)) fun h56 =>
  z_b (uR h56 x52 4 3 (n + 533) 10) fun h57 =>
  z_b (gR h57 v0 11 1) fun x58 =>
  z_b (zD h57 (n + 534)) fun u59 =>
  z_b (some (z_up h57 (n + 535) (.inr (10, [.null, .int 0])))) fun h60 =>
  z_b (zD h60 (n + 535)) fun u61 =>
  z_b (f_Row_init N (n + 535) 24 h60 (n + 536)) fun h62 =>
  z_b (uR h62 x58 4 4 (n + 535) 10) fun h63 =>
  z_b (gR h63 v0 11 1) fun x64 =>
  z_b (zD h63 (n + 536)) fun u65 =>
  z_b (some (z_up h63 (n + 537) (.inr (10, [.null, .int 0])))) fun h66 =>
  z_b (zD h66 (n + 537)) fun u67 =>
  z_b (f_Row_init N (n + 537) 24 h66 (n + 538)) fun h68 =>
  z_b (uR h68 x64 4 5 (n + 537) 10) fun h69 =>
  z_b (gR h69 v0 11 1) fun x70 =>
  z_b (zD h69 (n + 538)) fun u71 =>
  z_b (some (z_up h69 (n + 539) (.inr (10, [.null, .int 0])))) fun h72 =>
  z_b (zD h72 (n + 539)) fun u73 =>
  z_b (f_Row_init N (n + 539) 24 h72 (n + 540)) fun h74 =>
  z_b (uR h74 x70 4 6 (n + 539) 10) fun h75 =>
  z_b (gR h75 v0 11 1) fun x76 =>
  z_b (zD h75 (n + 540)) fun u77 =>
  z_b (some (z_up h75 (n + 541) (.inr (10, [.null, .int 0])))) fun h78 =>
  z_b (zD h78 (n + 541)) fun u79 =>
  z_b (f_Row_init N (n + 541) 24 h78 (n + 542)) fun h80 =>
  z_b (uR h80 x76 4 7 (n + 541) 10) fun h81 =>
  z_b (gR h81 v0 11 1) fun x82 =>
  z_b (zD h81 (n + 542)) fun u83 =>
  z_b (some (z_up h81 (n + 543) (.inr (10, [.null, .int 0])))) fun h84 =>
  z_b (zD h84 (n + 543)) fun u85 =>
  z_b (f_Row_init N (n + 543) 24 h84 (n + 544)) fun h86 =>
  z_b (uR h86 x82 4 8 (n + 543) 10) fun h87 =>
  z_b (gR h87 v0 11 1) fun x88 =>
  z_b (zD h87 (n + 544)) fun u89 =>
  z_b (some (z_up h87 (n + 545) (.inr (10, [.null, .int 0])))) fun h90 =>
  z_b (zD h90 (n + 545)) fun u91 =>
  z_b (f_Row_init N (n + 545) 24 h90 (n + 546)) fun h92 =>
  z_b (uR h92 x88 4 9 (n + 545) 10) fun h93 =>
  z_b (gR h93 v0 11 1) fun x94 =>
  z_b (zD h93 (n + 546)) fun u95 =>
  z_b (some (z_up h93 (n + 547) (.inr (10, [.null, .int 0])))) fun h96 =>
  z_b (zD h96 (n + 547)) fun u97 =>
  z_b (f_Row_init N (n + 547) 24 h96 (n + 548)) fun h98 =>
  z_b (uR h98 x94 4 10 (n + 547) 10) fun h99 =>
  z_b (gR h99 v0 11 1) fun x100 =>
  z_b (zD h99 (n + 548)) fun u101 =>
  z_b (some (z_up h99 (n + 549) (.inr (10, [.null, .int 0])))) fun h102 =>
  z_b (zD h102 (n + 549)) fun u103 =>
  z_b (f_Row_init N (n + 549) 24 h102 (n + 550)) fun h104 =>
  z_b (uR h104 x100 4 11 (n + 549) 10) fun h105 =>
  z_b (zD h105 (n + 550)) fun u106 =>
  some h105
set_option maxRecDepth 20000 in
set_option maxHeartbeats 8000000 in
theorem s_SF_init {l : Launch} {D : va_G} {dA : Nat → ClassId} {B N n : Nat} {v0 : Nat} {h h' : z_H} (hf : f_SF_init N v0 h n = some h') : zn_Met l y_SF_init prog_1_method_1_code 2 5 101 551 (7612) D dA B [.ref v0] h n h' := by
  refine zn_of (by decide) (Nat.le_of_ble_eq_true rfl) (fun p e s m below meth c ls X hname hF hn0 hI hl => ?_)
  have hx := z_hx X
  have hb := z_hb X
  have hl : lv_has ls 2 [(0, .ref v0)] := hl
  unfold f_SF_init at hf
  obtain ⟨locs, hlo⟩ : ∃ z : List Loc, z = [] := ⟨_, rfl⟩
  rw [← hlo] at hI ⊢
  refine lv_aload_n hx hb d_SF_init_0 rfl (lv_at hl 0 rfl) ?_
  refine W.objInit hx hb X.1.2.2.2.1 (z_w X wo_SF_1) (z_w X wo_i) (z_w X wo_c) rfl (hl.1.trans X.1.2.2.1.symm) rfl d_SF_init_1 (Nat.le_of_ble_eq_true rfl) (Nat.le_of_ble_eq_true rfl) ?_
  refine W.eq (g2 := F0 m 4 ls []) rfl ?_
  refine lv_aload_n hx hb d_SF_init_4 rfl (lv_at hl 0 rfl) ?_
  refine z_size (n := n) hI (by omega) (Or.inl hn0.symm) (fun hn => ?_)
  obtain ⟨h1, eh1, hf⟩ := z_bs hf
  refine z_new (n := n) (ci := 10) (fs := [.null, .int 0]) (ty0 := t_Row) X hI hn i_Row t_Row_ok rfl wk_SF_7 wn_Row wz_Row (by decide +kernel) (by decide) d_SF_init_5 (fun H hI hn => ?_)
  rw [Option.some.inj eh1] at hI
  refine W.widen (k := 1) (n := 2) (by decide) (by decide) ?_
  refine lv_dup hx hb d_SF_init_8 rfl ?_
  refine lv_sipush (v := 240) hx hb d_SF_init_9 (by decide) ?_
  obtain ⟨u2, eu2, hf⟩ := z_bs hf
  refine z_size (n := n + 1) hI (by omega) (Or.inr (zD_s eu2)) (fun hn => ?_)
  obtain ⟨h3, eh3, hf⟩ := z_bs hf
  refine zn_callI (n := (n + 1)) (mc := 1) (ms := (240 : Int32).toNatClampNeg) (As := [.int 240]) (rest := [.ref n, .ref v0]) (h' := h3) X hF hI hn (s_Row_init eh3) wm_SF_11 yn_Row_init rfl hl.1 rfl (Nat.le_of_ble_eq_true rfl) (by decide) (by decide) d_SF_init_12 (fun H locs hI hn => ?_)
  refine W.widen (k := 2) (n := 242) (by decide) (by decide) ?_
  obtain ⟨h4, eh4, hf⟩ := z_bs hf
  refine zn_putF X hname hI (k := 0) (ci := 11) (ty0 := t_SF) eh4 i_SF t_SF_ok n_SF rfl (by decide) wf_SF_14 rfl rfl rfl rfl d_SF_init_15 (fun H locs hI => ?_)
  refine lv_aload_n hx hb d_SF_init_18 rfl (lv_at hl 0 rfl) ?_
  refine lv_bipush (v := 12) hx hb d_SF_init_19 (by decide) ?_
  obtain ⟨u5, eu5, hf⟩ := z_bs hf
  refine z_size (n := n + 2) hI (by omega) (Or.inr (zD_s eu5)) (fun hn => ?_)
  obtain ⟨h6, eh6, hf⟩ := z_bs hf
  refine z_anew (n := (n + 2)) (t := 4) (N := 12) X hI hn rfl wk_SF_7 hF.2.1 (by decide) (by decide) (by decide) (by decide) d_SF_init_21 (fun H hI hn => ?_)
  rw [Option.some.inj eh6] at hI
  refine W.widen (k := 3) (n := 254) (by decide) (by decide) ?_
  obtain ⟨h7, eh7, hf⟩ := z_bs hf
  refine zn_putF X hname hI (k := 1) (ci := 11) (ty0 := t_SF) eh7 i_SF t_SF_ok n_SF rfl (by decide) wf_SF_18 rfl rfl rfl rfl d_SF_init_24 (fun H locs hI => ?_)
  refine lv_aload_n hx hb d_SF_init_27 rfl (lv_at hl 0 rfl) ?_
  obtain ⟨u8, eu8, hf⟩ := z_bs hf
  refine z_size (n := n + 3) hI (by omega) (Or.inr (zD_s eu8)) (fun hn => ?_)
  obtain ⟨h9, eh9, hf⟩ := z_bs hf
  refine z_new (n := (n + 3)) (ci := 6) (fs := [.null, .null, .null, .null, .int 0, .null, .null]) (ty0 := t_Pa) X hI hn i_Pa t_Pa_ok rfl wk_SF_22 wn_Pa wz_Pa (by decide +kernel) (by decide) d_SF_init_28 (fun H hI hn => ?_)
  rw [Option.some.inj eh9] at hI
  refine W.widen (k := 4) (n := 261) (by decide) (by decide) ?_
  refine lv_dup hx hb d_SF_init_31 rfl ?_
  obtain ⟨u10, eu10, hf⟩ := z_bs hf
  refine z_size (n := n + 4) hI (by omega) (Or.inr (zD_s eu10)) (fun hn => ?_)
  obtain ⟨h11, eh11, hf⟩ := z_bs hf
  refine zn_callN (n := (n + 4)) (mc := 4) (ms := 40) (As := []) (rest := [.ref (n + 3), .ref v0]) (h' := h11) X hF hI hn (s_Pa_init eh11) (List.mem_of_getElem? (i := 0) rfl) yn_Pa_init rfl hl.1 rfl (Nat.le_of_ble_eq_true rfl) (by decide) (by decide) d_SF_init_32 (fun H locs hI hn => ?_)
  refine W.widen (k := 8) (n := 301) (by decide) (by decide) ?_
  obtain ⟨h12, eh12, hf⟩ := z_bs hf
  refine zn_putF X hname hI (k := 2) (ci := 11) (ty0 := t_SF) eh12 i_SF t_SF_ok n_SF rfl (by decide) wf_SF_25 rfl rfl rfl rfl d_SF_init_35 (fun H locs hI => ?_)
  refine lv_aload_n hx hb d_SF_init_38 rfl (lv_at hl 0 rfl) ?_
  obtain ⟨u13, eu13, hf⟩ := z_bs hf
  refine z_size (n := n + 8) hI (by omega) (Or.inr (zD_s eu13)) (fun hn => ?_)
  obtain ⟨h14, eh14, hf⟩ := z_bs hf
  refine z_new (n := (n + 8)) (ci := 3) (fs := [.null, .null, .null, .int 0, .int 0, .int 0, .int 0, .null, .null, .null, .null, .null, .int 0, .int 0, .int 0, .int 0, .int 0]) (ty0 := t_Ed) X hI hn i_Ed t_Ed_ok rfl wk_SF_29 wn_Ed wz_Ed (by decide +kernel) (by decide) d_SF_init_39 (fun H hI hn => ?_)
  rw [Option.some.inj eh14] at hI
  refine W.widen (k := 9) (n := 318) (by decide) (by decide) ?_
  refine lv_dup hx hb d_SF_init_42 rfl ?_
  obtain ⟨u15, eu15, hf⟩ := z_bs hf
  refine z_size (n := n + 9) hI (by omega) (Or.inr (zD_s eu15)) (fun hn => ?_)
  obtain ⟨h16, eh16, hf⟩ := z_bs hf
  refine zn_callN (n := (n + 9)) (mc := 15) (ms := 1015) (As := []) (rest := [.ref (n + 8), .ref v0]) (h' := h16) X hF hI hn (s_Ed_init eh16) (List.mem_of_getElem? (i := 2) rfl) yn_Ed_init rfl hl.1 rfl (Nat.le_of_ble_eq_true rfl) (by decide) (by decide) d_SF_init_43 (fun H locs hI hn => ?_)
  refine W.widen (k := 24) (n := 1333) (by decide) (by decide) ?_
  obtain ⟨h17, eh17, hf⟩ := z_bs hf
  refine zn_putF X hname hI (k := 3) (ci := 11) (ty0 := t_SF) eh17 i_SF t_SF_ok n_SF rfl (by decide) wf_SF_32 rfl rfl rfl rfl d_SF_init_46 (fun H locs hI => ?_)
  refine lv_aload_n hx hb d_SF_init_49 rfl (lv_at hl 0 rfl) ?_
  obtain ⟨u18, eu18, hf⟩ := z_bs hf
  refine z_size (n := n + 24) hI (by omega) (Or.inr (zD_s eu18)) (fun hn => ?_)
  obtain ⟨h19, eh19, hf⟩ := z_bs hf
  refine z_new (n := (n + 24)) (ci := 5) (fs := [.int 0, .int 0, .null, .null, .null, .null, .null, .null, .null]) (ty0 := t_Ma) X hI hn i_Ma t_Ma_ok rfl wk_SF_36 wn_Ma wz_Ma (by decide +kernel) (by decide) d_SF_init_50 (fun H hI hn => ?_)
  rw [Option.some.inj eh19] at hI
  refine W.widen (k := 25) (n := 1342) (by decide) (by decide) ?_
  refine lv_dup hx hb d_SF_init_53 rfl ?_
  obtain ⟨u20, eu20, hf⟩ := z_bs hf
  refine z_size (n := n + 25) hI (by omega) (Or.inr (zD_s eu20)) (fun hn => ?_)
  obtain ⟨h21, eh21, hf⟩ := z_bs hf
  refine zn_callN (n := (n + 25)) (mc := 4) (ms := 16) (As := []) (rest := [.ref (n + 24), .ref v0]) (h' := h21) X hF hI hn (s_Ma_init eh21) (List.mem_of_getElem? (i := 4) rfl) yn_Ma_init rfl hl.1 rfl (Nat.le_of_ble_eq_true rfl) (by decide) (by decide) d_SF_init_54 (fun H locs hI hn => ?_)
  refine W.widen (k := 29) (n := 1358) (by decide) (by decide) ?_
  obtain ⟨h22, eh22, hf⟩ := z_bs hf
  refine zn_putF X hname hI (k := 4) (ci := 11) (ty0 := t_SF) eh22 i_SF t_SF_ok n_SF rfl (by decide) wf_SF_39 rfl rfl rfl rfl d_SF_init_57 (fun H locs hI => ?_)
  refine lv_aload_n hx hb d_SF_init_60 rfl (lv_at hl 0 rfl) ?_
  obtain ⟨u23, eu23, hf⟩ := z_bs hf
  refine z_size (n := n + 29) hI (by omega) (Or.inr (zD_s eu23)) (fun hn => ?_)
  obtain ⟨h24, eh24, hf⟩ := z_bs hf
  refine z_new (n := (n + 29)) (ci := 9) (fs := [.null, .null, .null, .int 0]) (ty0 := t_Prog) X hI hn i_Prog t_Prog_ok rfl wk_SF_43 wn_Prog wz_Prog (by decide +kernel) (by decide) d_SF_init_61 (fun H hI hn => ?_)
  rw [Option.some.inj eh24] at hI
  refine W.widen (k := 30) (n := 1362) (by decide) (by decide) ?_
  refine lv_dup hx hb d_SF_init_64 rfl ?_
  obtain ⟨u25, eu25, hf⟩ := z_bs hf
  refine z_size (n := n + 30) hI (by omega) (Or.inr (zD_s eu25)) (fun hn => ?_)
  obtain ⟨h26, eh26, hf⟩ := z_bs hf
  refine zn_callI (n := (n + 30)) (mc := 248) (ms := 2967) (As := []) (rest := [.ref (n + 29), .ref v0]) (h' := h26) X hF hI hn (s_Prog_init eh26) wm_SF_45 yn_Prog_init rfl hl.1 rfl (Nat.le_of_ble_eq_true rfl) (by decide) (by decide) d_SF_init_65 (fun H locs hI hn => ?_)
  refine W.widen (k := 278) (n := 4329) (by decide) (by decide) ?_
  obtain ⟨h27, eh27, hf⟩ := z_bs hf
  refine z_putF X hI (k := 6) (ci := 11) (ty0 := t_SF) eh27 i_SF t_SF_ok n_SF rfl (by decide) wf_SF_46 rfl rfl rfl d_SF_init_68 (fun H locs hI => ?_)
  refine lv_aload_n hx hb d_SF_init_71 rfl (lv_at hl 0 rfl) ?_
  obtain ⟨u28, eu28, hf⟩ := z_bs hf
  refine z_size (n := n + 278) hI (by omega) (Or.inr (zD_s eu28)) (fun hn => ?_)
  obtain ⟨h29, eh29, hf⟩ := z_bs hf
  refine z_new (n := (n + 278)) (ci := 9) (fs := [.null, .null, .null, .int 0]) (ty0 := t_Prog) X hI hn i_Prog t_Prog_ok rfl wk_SF_43 wn_Prog wz_Prog (by decide +kernel) (by decide) d_SF_init_72 (fun H hI hn => ?_)
  rw [Option.some.inj eh29] at hI
  refine W.widen (k := 279) (n := 4333) (by decide) (by decide) ?_
  refine lv_dup hx hb d_SF_init_75 rfl ?_
  obtain ⟨u30, eu30, hf⟩ := z_bs hf
  refine z_size (n := n + 279) hI (by omega) (Or.inr (zD_s eu30)) (fun hn => ?_)
  obtain ⟨h31, eh31, hf⟩ := z_bs hf
  refine zn_callI (n := (n + 279)) (mc := 248) (ms := 2967) (As := []) (rest := [.ref (n + 278), .ref v0]) (h' := h31) X hF hI hn (s_Prog_init eh31) wm_SF_45 yn_Prog_init rfl hl.1 rfl (Nat.le_of_ble_eq_true rfl) (by decide) (by decide) d_SF_init_76 (fun H locs hI hn => ?_)
  refine W.widen (k := 527) (n := 7300) (by decide) (by decide) ?_
  obtain ⟨h32, eh32, hf⟩ := z_bs hf
  refine z_putF X hI (k := 7) (ci := 11) (ty0 := t_SF) eh32 i_SF t_SF_ok n_SF rfl (by decide) wf_SF_50 rfl rfl rfl d_SF_init_79 (fun H locs hI => ?_)
  refine lv_aload_n hx hb d_SF_init_82 rfl (lv_at hl 0 rfl) ?_
  refine lv_bipush (v := (-2)) hx hb d_SF_init_83 (by decide) ?_
  obtain ⟨h33, eh33, hf⟩ := z_bs hf
  refine z_putF X hI (k := 9) (ci := 11) (ty0 := t_SF) eh33 i_SF t_SF_ok n_SF rfl (by decide) wf_SF_53 rfl rfl rfl d_SF_init_85 (fun H locs hI => ?_)
  refine lv_iconst (v := 0) hx hb d_SF_init_88 (by decide) ?_
  refine lv_istore_n (lv' := [(1, .int 0), (0, .ref v0)]) hx hb d_SF_init_89 rfl hl (by decide) rfl (fun ls hl => ?_)
  refine lv_iload_n hx hb d_SF_init_90 rfl (lv_at hl 0 rfl) ?_
  refine lv_bipush (v := 12) hx hb d_SF_init_91 (by decide) ?_
  refine lv_icmp_ge (tgt := 117) hx hb d_SF_init_93 (by decide) (fun c9 => absurd c9 (by decide)) (fun _ => ?_)
  refine lv_aload_n hx hb d_SF_init_96 rfl (lv_at hl 1 rfl) ?_
  obtain ⟨x34, ex34, hf⟩ := z_bs hf
  refine z_getF X hI (k := 1) (ci := 11) (gR_s ex34) i_SF rfl (by decide) wf_SF_18 d_SF_init_97 ?_
  refine lv_iload_n hx hb d_SF_init_100 rfl (lv_at hl 0 rfl) ?_
  obtain ⟨u35, eu35, hf⟩ := z_bs hf
  refine z_size (n := n + 527) hI (by omega) (Or.inr (zD_s eu35)) (fun hn => ?_)
  obtain ⟨h36, eh36, hf⟩ := z_bs hf
  refine z_new (n := (n + 527)) (ci := 10) (fs := [.null, .int 0]) (ty0 := t_Row) X hI hn i_Row t_Row_ok rfl wk_SF_7 wn_Row wz_Row (by decide +kernel) (by decide) d_SF_init_101 (fun H hI hn => ?_)
  rw [Option.some.inj eh36] at hI
  refine W.widen (k := 528) (n := 7302) (by decide) (by decide) ?_
  refine lv_dup hx hb d_SF_init_104 rfl ?_
  refine lv_bipush (v := 24) hx hb d_SF_init_105 (by decide) ?_
  obtain ⟨u37, eu37, hf⟩ := z_bs hf
  refine z_size (n := n + 528) hI (by omega) (Or.inr (zD_s eu37)) (fun hn => ?_)
  obtain ⟨h38, eh38, hf⟩ := z_bs hf
  refine zn_callI (n := (n + 528)) (mc := 1) (ms := (24 : Int32).toNatClampNeg) (As := [.int 24]) (rest := [.ref (n + 527), .int 0, .ref x34]) (h' := h38) X hF hI hn (s_Row_init eh38) wm_SF_11 yn_Row_init rfl hl.1 rfl (Nat.le_of_ble_eq_true rfl) (by decide) (by decide) d_SF_init_107 (fun H locs hI hn => ?_)
  refine W.widen (k := 529) (n := 7326) (by decide) (by decide) ?_
  obtain ⟨h39, eh39, hf⟩ := z_bs hf
  refine z_aast X hI eh39 rfl rfl d_SF_init_110 (fun H locs hI => ?_)
  refine lv_iinc (v := 1) (lv' := [(1, .int 1), (0, .ref v0)]) hx hb d_SF_init_111 hl (k := 0) rfl (by decide) (by decide) rfl (fun ls hl => ?_)
  refine lv_goto (tgt := 90) hx hb d_SF_init_114 (by decide) ?_
  refine lv_iload_n hx hb d_SF_init_90 rfl (lv_at hl 0 rfl) ?_
  refine lv_bipush (v := 12) hx hb d_SF_init_91 (by decide) ?_
  refine lv_icmp_ge (tgt := 117) hx hb d_SF_init_93 (by decide) (fun c9 => absurd c9 (by decide)) (fun _ => ?_)
  refine lv_aload_n hx hb d_SF_init_96 rfl (lv_at hl 1 rfl) ?_
  obtain ⟨x40, ex40, hf⟩ := z_bs hf
  refine z_getF X hI (k := 1) (ci := 11) (gR_s ex40) i_SF rfl (by decide) wf_SF_18 d_SF_init_97 ?_
  refine lv_iload_n hx hb d_SF_init_100 rfl (lv_at hl 0 rfl) ?_
  obtain ⟨u41, eu41, hf⟩ := z_bs hf
  refine z_size (n := n + 529) hI (by omega) (Or.inr (zD_s eu41)) (fun hn => ?_)
  obtain ⟨h42, eh42, hf⟩ := z_bs hf
  refine z_new (n := (n + 529)) (ci := 10) (fs := [.null, .int 0]) (ty0 := t_Row) X hI hn i_Row t_Row_ok rfl wk_SF_7 wn_Row wz_Row (by decide +kernel) (by decide) d_SF_init_101 (fun H hI hn => ?_)
  rw [Option.some.inj eh42] at hI
  refine W.widen (k := 530) (n := 7328) (by decide) (by decide) ?_
  refine lv_dup hx hb d_SF_init_104 rfl ?_
  refine lv_bipush (v := 24) hx hb d_SF_init_105 (by decide) ?_
  obtain ⟨u43, eu43, hf⟩ := z_bs hf
  refine z_size (n := n + 530) hI (by omega) (Or.inr (zD_s eu43)) (fun hn => ?_)
  obtain ⟨h44, eh44, hf⟩ := z_bs hf
  refine zn_callI (n := (n + 530)) (mc := 1) (ms := (24 : Int32).toNatClampNeg) (As := [.int 24]) (rest := [.ref (n + 529), .int 1, .ref x40]) (h' := h44) X hF hI hn (s_Row_init eh44) wm_SF_11 yn_Row_init rfl hl.1 rfl (Nat.le_of_ble_eq_true rfl) (by decide) (by decide) d_SF_init_107 (fun H locs hI hn => ?_)
  refine W.widen (k := 531) (n := 7352) (by decide) (by decide) ?_
  obtain ⟨h45, eh45, hf⟩ := z_bs hf
  refine z_aast X hI eh45 rfl rfl d_SF_init_110 (fun H locs hI => ?_)
  refine lv_iinc (v := 2) (lv' := [(1, .int 2), (0, .ref v0)]) hx hb d_SF_init_111 hl (k := 0) rfl (by decide) (by decide) rfl (fun ls hl => ?_)
  refine lv_goto (tgt := 90) hx hb d_SF_init_114 (by decide) ?_
  refine lv_iload_n hx hb d_SF_init_90 rfl (lv_at hl 0 rfl) ?_
  refine lv_bipush (v := 12) hx hb d_SF_init_91 (by decide) ?_
  refine lv_icmp_ge (tgt := 117) hx hb d_SF_init_93 (by decide) (fun c9 => absurd c9 (by decide)) (fun _ => ?_)
  refine lv_aload_n hx hb d_SF_init_96 rfl (lv_at hl 1 rfl) ?_
  obtain ⟨x46, ex46, hf⟩ := z_bs hf
  refine z_getF X hI (k := 1) (ci := 11) (gR_s ex46) i_SF rfl (by decide) wf_SF_18 d_SF_init_97 ?_
  refine lv_iload_n hx hb d_SF_init_100 rfl (lv_at hl 0 rfl) ?_
  obtain ⟨u47, eu47, hf⟩ := z_bs hf
  refine z_size (n := n + 531) hI (by omega) (Or.inr (zD_s eu47)) (fun hn => ?_)
  obtain ⟨h48, eh48, hf⟩ := z_bs hf
  refine z_new (n := (n + 531)) (ci := 10) (fs := [.null, .int 0]) (ty0 := t_Row) X hI hn i_Row t_Row_ok rfl wk_SF_7 wn_Row wz_Row (by decide +kernel) (by decide) d_SF_init_101 (fun H hI hn => ?_)
  rw [Option.some.inj eh48] at hI
  refine W.widen (k := 532) (n := 7354) (by decide) (by decide) ?_
  refine lv_dup hx hb d_SF_init_104 rfl ?_
  refine lv_bipush (v := 24) hx hb d_SF_init_105 (by decide) ?_
  obtain ⟨u49, eu49, hf⟩ := z_bs hf
  refine z_size (n := n + 532) hI (by omega) (Or.inr (zD_s eu49)) (fun hn => ?_)
  obtain ⟨h50, eh50, hf⟩ := z_bs hf
  refine zn_callI (n := (n + 532)) (mc := 1) (ms := (24 : Int32).toNatClampNeg) (As := [.int 24]) (rest := [.ref (n + 531), .int 2, .ref x46]) (h' := h50) X hF hI hn (s_Row_init eh50) wm_SF_11 yn_Row_init rfl hl.1 rfl (Nat.le_of_ble_eq_true rfl) (by decide) (by decide) d_SF_init_107 (fun H locs hI hn => ?_)
  refine W.widen (k := 533) (n := 7378) (by decide) (by decide) ?_
  obtain ⟨h51, eh51, hf⟩ := z_bs hf
  refine z_aast X hI eh51 rfl rfl d_SF_init_110 (fun H locs hI => ?_)
  refine lv_iinc (v := 3) (lv' := [(1, .int 3), (0, .ref v0)]) hx hb d_SF_init_111 hl (k := 0) rfl (by decide) (by decide) rfl (fun ls hl => ?_)
  refine lv_goto (tgt := 90) hx hb d_SF_init_114 (by decide) ?_
  refine lv_iload_n hx hb d_SF_init_90 rfl (lv_at hl 0 rfl) ?_
  refine lv_bipush (v := 12) hx hb d_SF_init_91 (by decide) ?_
  refine lv_icmp_ge (tgt := 117) hx hb d_SF_init_93 (by decide) (fun c9 => absurd c9 (by decide)) (fun _ => ?_)
  refine lv_aload_n hx hb d_SF_init_96 rfl (lv_at hl 1 rfl) ?_
  obtain ⟨x52, ex52, hf⟩ := z_bs hf
  refine z_getF X hI (k := 1) (ci := 11) (gR_s ex52) i_SF rfl (by decide) wf_SF_18 d_SF_init_97 ?_
  refine lv_iload_n hx hb d_SF_init_100 rfl (lv_at hl 0 rfl) ?_
  obtain ⟨u53, eu53, hf⟩ := z_bs hf
  refine z_size (n := n + 533) hI (by omega) (Or.inr (zD_s eu53)) (fun hn => ?_)
  obtain ⟨h54, eh54, hf⟩ := z_bs hf
  refine z_new (n := (n + 533)) (ci := 10) (fs := [.null, .int 0]) (ty0 := t_Row) X hI hn i_Row t_Row_ok rfl wk_SF_7 wn_Row wz_Row (by decide +kernel) (by decide) d_SF_init_101 (fun H hI hn => ?_)
  rw [Option.some.inj eh54] at hI
  refine W.widen (k := 534) (n := 7380) (by decide) (by decide) ?_
  refine lv_dup hx hb d_SF_init_104 rfl ?_
  refine lv_bipush (v := 24) hx hb d_SF_init_105 (by decide) ?_
  obtain ⟨u55, eu55, hf⟩ := z_bs hf
  refine z_size (n := n + 534) hI (by omega) (Or.inr (zD_s eu55)) (fun hn => ?_)
  obtain ⟨h56, eh56, hf⟩ := z_bs hf
  refine zn_callI (n := (n + 534)) (mc := 1) (ms := (24 : Int32).toNatClampNeg) (As := [.int 24]) (rest := [.ref (n + 533), .int 3, .ref x52]) (h' := h56) X hF hI hn (s_Row_init eh56) wm_SF_11 yn_Row_init rfl hl.1 rfl (Nat.le_of_ble_eq_true rfl) (by decide) (by decide) d_SF_init_107 (fun H locs hI hn => ?_)
  refine W.widen (k := 535) (n := 7404) (by decide) (by decide) ?_
  obtain ⟨h57, eh57, hf⟩ := z_bs hf
  refine z_aast X hI eh57 rfl rfl d_SF_init_110 (fun H locs hI => ?_)
  refine lv_iinc (v := 4) (lv' := [(1, .int 4), (0, .ref v0)]) hx hb d_SF_init_111 hl (k := 0) rfl (by decide) (by decide) rfl (fun ls hl => ?_)
  refine lv_goto (tgt := 90) hx hb d_SF_init_114 (by decide) ?_
  refine lv_iload_n hx hb d_SF_init_90 rfl (lv_at hl 0 rfl) ?_
  refine lv_bipush (v := 12) hx hb d_SF_init_91 (by decide) ?_
  refine lv_icmp_ge (tgt := 117) hx hb d_SF_init_93 (by decide) (fun c9 => absurd c9 (by decide)) (fun _ => ?_)
  refine lv_aload_n hx hb d_SF_init_96 rfl (lv_at hl 1 rfl) ?_
  obtain ⟨x58, ex58, hf⟩ := z_bs hf
  refine z_getF X hI (k := 1) (ci := 11) (gR_s ex58) i_SF rfl (by decide) wf_SF_18 d_SF_init_97 ?_
  refine lv_iload_n hx hb d_SF_init_100 rfl (lv_at hl 0 rfl) ?_
  obtain ⟨u59, eu59, hf⟩ := z_bs hf
  refine z_size (n := n + 535) hI (by omega) (Or.inr (zD_s eu59)) (fun hn => ?_)
  obtain ⟨h60, eh60, hf⟩ := z_bs hf
  refine z_new (n := (n + 535)) (ci := 10) (fs := [.null, .int 0]) (ty0 := t_Row) X hI hn i_Row t_Row_ok rfl wk_SF_7 wn_Row wz_Row (by decide +kernel) (by decide) d_SF_init_101 (fun H hI hn => ?_)
  rw [Option.some.inj eh60] at hI
  refine W.widen (k := 536) (n := 7406) (by decide) (by decide) ?_
  refine lv_dup hx hb d_SF_init_104 rfl ?_
  refine lv_bipush (v := 24) hx hb d_SF_init_105 (by decide) ?_
  obtain ⟨u61, eu61, hf⟩ := z_bs hf
  refine z_size (n := n + 536) hI (by omega) (Or.inr (zD_s eu61)) (fun hn => ?_)
  obtain ⟨h62, eh62, hf⟩ := z_bs hf
  refine zn_callI (n := (n + 536)) (mc := 1) (ms := (24 : Int32).toNatClampNeg) (As := [.int 24]) (rest := [.ref (n + 535), .int 4, .ref x58]) (h' := h62) X hF hI hn (s_Row_init eh62) wm_SF_11 yn_Row_init rfl hl.1 rfl (Nat.le_of_ble_eq_true rfl) (by decide) (by decide) d_SF_init_107 (fun H locs hI hn => ?_)
  refine W.widen (k := 537) (n := 7430) (by decide) (by decide) ?_
  obtain ⟨h63, eh63, hf⟩ := z_bs hf
  refine z_aast X hI eh63 rfl rfl d_SF_init_110 (fun H locs hI => ?_)
  refine lv_iinc (v := 5) (lv' := [(1, .int 5), (0, .ref v0)]) hx hb d_SF_init_111 hl (k := 0) rfl (by decide) (by decide) rfl (fun ls hl => ?_)
  refine lv_goto (tgt := 90) hx hb d_SF_init_114 (by decide) ?_
  refine lv_iload_n hx hb d_SF_init_90 rfl (lv_at hl 0 rfl) ?_
  refine lv_bipush (v := 12) hx hb d_SF_init_91 (by decide) ?_
  refine lv_icmp_ge (tgt := 117) hx hb d_SF_init_93 (by decide) (fun c9 => absurd c9 (by decide)) (fun _ => ?_)
  refine lv_aload_n hx hb d_SF_init_96 rfl (lv_at hl 1 rfl) ?_
  obtain ⟨x64, ex64, hf⟩ := z_bs hf
  refine z_getF X hI (k := 1) (ci := 11) (gR_s ex64) i_SF rfl (by decide) wf_SF_18 d_SF_init_97 ?_
  refine lv_iload_n hx hb d_SF_init_100 rfl (lv_at hl 0 rfl) ?_
  obtain ⟨u65, eu65, hf⟩ := z_bs hf
  refine z_size (n := n + 537) hI (by omega) (Or.inr (zD_s eu65)) (fun hn => ?_)
  obtain ⟨h66, eh66, hf⟩ := z_bs hf
  refine z_new (n := (n + 537)) (ci := 10) (fs := [.null, .int 0]) (ty0 := t_Row) X hI hn i_Row t_Row_ok rfl wk_SF_7 wn_Row wz_Row (by decide +kernel) (by decide) d_SF_init_101 (fun H hI hn => ?_)
  rw [Option.some.inj eh66] at hI
  refine W.widen (k := 538) (n := 7432) (by decide) (by decide) ?_
  refine lv_dup hx hb d_SF_init_104 rfl ?_
  refine lv_bipush (v := 24) hx hb d_SF_init_105 (by decide) ?_
  obtain ⟨u67, eu67, hf⟩ := z_bs hf
  refine z_size (n := n + 538) hI (by omega) (Or.inr (zD_s eu67)) (fun hn => ?_)
  obtain ⟨h68, eh68, hf⟩ := z_bs hf
  refine zn_callI (n := (n + 538)) (mc := 1) (ms := (24 : Int32).toNatClampNeg) (As := [.int 24]) (rest := [.ref (n + 537), .int 5, .ref x64]) (h' := h68) X hF hI hn (s_Row_init eh68) wm_SF_11 yn_Row_init rfl hl.1 rfl (Nat.le_of_ble_eq_true rfl) (by decide) (by decide) d_SF_init_107 (fun H locs hI hn => ?_)
  refine W.widen (k := 539) (n := 7456) (by decide) (by decide) ?_
  obtain ⟨h69, eh69, hf⟩ := z_bs hf
  refine z_aast X hI eh69 rfl rfl d_SF_init_110 (fun H locs hI => ?_)
  refine lv_iinc (v := 6) (lv' := [(1, .int 6), (0, .ref v0)]) hx hb d_SF_init_111 hl (k := 0) rfl (by decide) (by decide) rfl (fun ls hl => ?_)
  refine lv_goto (tgt := 90) hx hb d_SF_init_114 (by decide) ?_
  refine lv_iload_n hx hb d_SF_init_90 rfl (lv_at hl 0 rfl) ?_
  refine lv_bipush (v := 12) hx hb d_SF_init_91 (by decide) ?_
  refine lv_icmp_ge (tgt := 117) hx hb d_SF_init_93 (by decide) (fun c9 => absurd c9 (by decide)) (fun _ => ?_)
  refine lv_aload_n hx hb d_SF_init_96 rfl (lv_at hl 1 rfl) ?_
  obtain ⟨x70, ex70, hf⟩ := z_bs hf
  refine z_getF X hI (k := 1) (ci := 11) (gR_s ex70) i_SF rfl (by decide) wf_SF_18 d_SF_init_97 ?_
  refine lv_iload_n hx hb d_SF_init_100 rfl (lv_at hl 0 rfl) ?_
  obtain ⟨u71, eu71, hf⟩ := z_bs hf
  refine z_size (n := n + 539) hI (by omega) (Or.inr (zD_s eu71)) (fun hn => ?_)
  obtain ⟨h72, eh72, hf⟩ := z_bs hf
  refine z_new (n := (n + 539)) (ci := 10) (fs := [.null, .int 0]) (ty0 := t_Row) X hI hn i_Row t_Row_ok rfl wk_SF_7 wn_Row wz_Row (by decide +kernel) (by decide) d_SF_init_101 (fun H hI hn => ?_)
  rw [Option.some.inj eh72] at hI
  refine W.widen (k := 540) (n := 7458) (by decide) (by decide) ?_
  refine lv_dup hx hb d_SF_init_104 rfl ?_
  refine lv_bipush (v := 24) hx hb d_SF_init_105 (by decide) ?_
  obtain ⟨u73, eu73, hf⟩ := z_bs hf
  refine z_size (n := n + 540) hI (by omega) (Or.inr (zD_s eu73)) (fun hn => ?_)
  obtain ⟨h74, eh74, hf⟩ := z_bs hf
  refine zn_callI (n := (n + 540)) (mc := 1) (ms := (24 : Int32).toNatClampNeg) (As := [.int 24]) (rest := [.ref (n + 539), .int 6, .ref x70]) (h' := h74) X hF hI hn (s_Row_init eh74) wm_SF_11 yn_Row_init rfl hl.1 rfl (Nat.le_of_ble_eq_true rfl) (by decide) (by decide) d_SF_init_107 (fun H locs hI hn => ?_)
  refine W.widen (k := 541) (n := 7482) (by decide) (by decide) ?_
  obtain ⟨h75, eh75, hf⟩ := z_bs hf
  refine z_aast X hI eh75 rfl rfl d_SF_init_110 (fun H locs hI => ?_)
  refine lv_iinc (v := 7) (lv' := [(1, .int 7), (0, .ref v0)]) hx hb d_SF_init_111 hl (k := 0) rfl (by decide) (by decide) rfl (fun ls hl => ?_)
  refine lv_goto (tgt := 90) hx hb d_SF_init_114 (by decide) ?_
  refine lv_iload_n hx hb d_SF_init_90 rfl (lv_at hl 0 rfl) ?_
  refine lv_bipush (v := 12) hx hb d_SF_init_91 (by decide) ?_
  refine lv_icmp_ge (tgt := 117) hx hb d_SF_init_93 (by decide) (fun c9 => absurd c9 (by decide)) (fun _ => ?_)
  refine lv_aload_n hx hb d_SF_init_96 rfl (lv_at hl 1 rfl) ?_
  obtain ⟨x76, ex76, hf⟩ := z_bs hf
  refine z_getF X hI (k := 1) (ci := 11) (gR_s ex76) i_SF rfl (by decide) wf_SF_18 d_SF_init_97 ?_
  refine lv_iload_n hx hb d_SF_init_100 rfl (lv_at hl 0 rfl) ?_
  obtain ⟨u77, eu77, hf⟩ := z_bs hf
  refine z_size (n := n + 541) hI (by omega) (Or.inr (zD_s eu77)) (fun hn => ?_)
  obtain ⟨h78, eh78, hf⟩ := z_bs hf
  refine z_new (n := (n + 541)) (ci := 10) (fs := [.null, .int 0]) (ty0 := t_Row) X hI hn i_Row t_Row_ok rfl wk_SF_7 wn_Row wz_Row (by decide +kernel) (by decide) d_SF_init_101 (fun H hI hn => ?_)
  rw [Option.some.inj eh78] at hI
  refine W.widen (k := 542) (n := 7484) (by decide) (by decide) ?_
  refine lv_dup hx hb d_SF_init_104 rfl ?_
  refine lv_bipush (v := 24) hx hb d_SF_init_105 (by decide) ?_
  obtain ⟨u79, eu79, hf⟩ := z_bs hf
  refine z_size (n := n + 542) hI (by omega) (Or.inr (zD_s eu79)) (fun hn => ?_)
  obtain ⟨h80, eh80, hf⟩ := z_bs hf
  refine zn_callI (n := (n + 542)) (mc := 1) (ms := (24 : Int32).toNatClampNeg) (As := [.int 24]) (rest := [.ref (n + 541), .int 7, .ref x76]) (h' := h80) X hF hI hn (s_Row_init eh80) wm_SF_11 yn_Row_init rfl hl.1 rfl (Nat.le_of_ble_eq_true rfl) (by decide) (by decide) d_SF_init_107 (fun H locs hI hn => ?_)
  refine W.widen (k := 543) (n := 7508) (by decide) (by decide) ?_
  obtain ⟨h81, eh81, hf⟩ := z_bs hf
  refine z_aast X hI eh81 rfl rfl d_SF_init_110 (fun H locs hI => ?_)
  refine lv_iinc (v := 8) (lv' := [(1, .int 8), (0, .ref v0)]) hx hb d_SF_init_111 hl (k := 0) rfl (by decide) (by decide) rfl (fun ls hl => ?_)
  refine lv_goto (tgt := 90) hx hb d_SF_init_114 (by decide) ?_
  refine lv_iload_n hx hb d_SF_init_90 rfl (lv_at hl 0 rfl) ?_
  refine lv_bipush (v := 12) hx hb d_SF_init_91 (by decide) ?_
  refine lv_icmp_ge (tgt := 117) hx hb d_SF_init_93 (by decide) (fun c9 => absurd c9 (by decide)) (fun _ => ?_)
  refine lv_aload_n hx hb d_SF_init_96 rfl (lv_at hl 1 rfl) ?_
  obtain ⟨x82, ex82, hf⟩ := z_bs hf
  refine z_getF X hI (k := 1) (ci := 11) (gR_s ex82) i_SF rfl (by decide) wf_SF_18 d_SF_init_97 ?_
  refine lv_iload_n hx hb d_SF_init_100 rfl (lv_at hl 0 rfl) ?_
  obtain ⟨u83, eu83, hf⟩ := z_bs hf
  refine z_size (n := n + 543) hI (by omega) (Or.inr (zD_s eu83)) (fun hn => ?_)
  obtain ⟨h84, eh84, hf⟩ := z_bs hf
  refine z_new (n := (n + 543)) (ci := 10) (fs := [.null, .int 0]) (ty0 := t_Row) X hI hn i_Row t_Row_ok rfl wk_SF_7 wn_Row wz_Row (by decide +kernel) (by decide) d_SF_init_101 (fun H hI hn => ?_)
  rw [Option.some.inj eh84] at hI
  refine W.widen (k := 544) (n := 7510) (by decide) (by decide) ?_
  refine lv_dup hx hb d_SF_init_104 rfl ?_
  refine lv_bipush (v := 24) hx hb d_SF_init_105 (by decide) ?_
  obtain ⟨u85, eu85, hf⟩ := z_bs hf
  refine z_size (n := n + 544) hI (by omega) (Or.inr (zD_s eu85)) (fun hn => ?_)
  obtain ⟨h86, eh86, hf⟩ := z_bs hf
  refine zn_callI (n := (n + 544)) (mc := 1) (ms := (24 : Int32).toNatClampNeg) (As := [.int 24]) (rest := [.ref (n + 543), .int 8, .ref x82]) (h' := h86) X hF hI hn (s_Row_init eh86) wm_SF_11 yn_Row_init rfl hl.1 rfl (Nat.le_of_ble_eq_true rfl) (by decide) (by decide) d_SF_init_107 (fun H locs hI hn => ?_)
  refine W.widen (k := 545) (n := 7534) (by decide) (by decide) ?_
  obtain ⟨h87, eh87, hf⟩ := z_bs hf
  refine z_aast X hI eh87 rfl rfl d_SF_init_110 (fun H locs hI => ?_)
  refine lv_iinc (v := 9) (lv' := [(1, .int 9), (0, .ref v0)]) hx hb d_SF_init_111 hl (k := 0) rfl (by decide) (by decide) rfl (fun ls hl => ?_)
  refine lv_goto (tgt := 90) hx hb d_SF_init_114 (by decide) ?_
  refine lv_iload_n hx hb d_SF_init_90 rfl (lv_at hl 0 rfl) ?_
  refine lv_bipush (v := 12) hx hb d_SF_init_91 (by decide) ?_
  refine lv_icmp_ge (tgt := 117) hx hb d_SF_init_93 (by decide) (fun c9 => absurd c9 (by decide)) (fun _ => ?_)
  refine lv_aload_n hx hb d_SF_init_96 rfl (lv_at hl 1 rfl) ?_
  obtain ⟨x88, ex88, hf⟩ := z_bs hf
  refine z_getF X hI (k := 1) (ci := 11) (gR_s ex88) i_SF rfl (by decide) wf_SF_18 d_SF_init_97 ?_
  refine lv_iload_n hx hb d_SF_init_100 rfl (lv_at hl 0 rfl) ?_
  obtain ⟨u89, eu89, hf⟩ := z_bs hf
  refine z_size (n := n + 545) hI (by omega) (Or.inr (zD_s eu89)) (fun hn => ?_)
  obtain ⟨h90, eh90, hf⟩ := z_bs hf
  refine z_new (n := (n + 545)) (ci := 10) (fs := [.null, .int 0]) (ty0 := t_Row) X hI hn i_Row t_Row_ok rfl wk_SF_7 wn_Row wz_Row (by decide +kernel) (by decide) d_SF_init_101 (fun H hI hn => ?_)
  rw [Option.some.inj eh90] at hI
  refine W.widen (k := 546) (n := 7536) (by decide) (by decide) ?_
  refine lv_dup hx hb d_SF_init_104 rfl ?_
  refine lv_bipush (v := 24) hx hb d_SF_init_105 (by decide) ?_
  obtain ⟨u91, eu91, hf⟩ := z_bs hf
  refine z_size (n := n + 546) hI (by omega) (Or.inr (zD_s eu91)) (fun hn => ?_)
  obtain ⟨h92, eh92, hf⟩ := z_bs hf
  refine zn_callI (n := (n + 546)) (mc := 1) (ms := (24 : Int32).toNatClampNeg) (As := [.int 24]) (rest := [.ref (n + 545), .int 9, .ref x88]) (h' := h92) X hF hI hn (s_Row_init eh92) wm_SF_11 yn_Row_init rfl hl.1 rfl (Nat.le_of_ble_eq_true rfl) (by decide) (by decide) d_SF_init_107 (fun H locs hI hn => ?_)
  refine W.widen (k := 547) (n := 7560) (by decide) (by decide) ?_
  obtain ⟨h93, eh93, hf⟩ := z_bs hf
  refine z_aast X hI eh93 rfl rfl d_SF_init_110 (fun H locs hI => ?_)
  refine lv_iinc (v := 10) (lv' := [(1, .int 10), (0, .ref v0)]) hx hb d_SF_init_111 hl (k := 0) rfl (by decide) (by decide) rfl (fun ls hl => ?_)
  refine lv_goto (tgt := 90) hx hb d_SF_init_114 (by decide) ?_
  refine lv_iload_n hx hb d_SF_init_90 rfl (lv_at hl 0 rfl) ?_
  refine lv_bipush (v := 12) hx hb d_SF_init_91 (by decide) ?_
  refine lv_icmp_ge (tgt := 117) hx hb d_SF_init_93 (by decide) (fun c9 => absurd c9 (by decide)) (fun _ => ?_)
  refine lv_aload_n hx hb d_SF_init_96 rfl (lv_at hl 1 rfl) ?_
  obtain ⟨x94, ex94, hf⟩ := z_bs hf
  refine z_getF X hI (k := 1) (ci := 11) (gR_s ex94) i_SF rfl (by decide) wf_SF_18 d_SF_init_97 ?_
  refine lv_iload_n hx hb d_SF_init_100 rfl (lv_at hl 0 rfl) ?_
  obtain ⟨u95, eu95, hf⟩ := z_bs hf
  refine z_size (n := n + 547) hI (by omega) (Or.inr (zD_s eu95)) (fun hn => ?_)
  obtain ⟨h96, eh96, hf⟩ := z_bs hf
  refine z_new (n := (n + 547)) (ci := 10) (fs := [.null, .int 0]) (ty0 := t_Row) X hI hn i_Row t_Row_ok rfl wk_SF_7 wn_Row wz_Row (by decide +kernel) (by decide) d_SF_init_101 (fun H hI hn => ?_)
  rw [Option.some.inj eh96] at hI
  refine W.widen (k := 548) (n := 7562) (by decide) (by decide) ?_
  refine lv_dup hx hb d_SF_init_104 rfl ?_
  refine lv_bipush (v := 24) hx hb d_SF_init_105 (by decide) ?_
  obtain ⟨u97, eu97, hf⟩ := z_bs hf
  refine z_size (n := n + 548) hI (by omega) (Or.inr (zD_s eu97)) (fun hn => ?_)
  obtain ⟨h98, eh98, hf⟩ := z_bs hf
  refine zn_callI (n := (n + 548)) (mc := 1) (ms := (24 : Int32).toNatClampNeg) (As := [.int 24]) (rest := [.ref (n + 547), .int 10, .ref x94]) (h' := h98) X hF hI hn (s_Row_init eh98) wm_SF_11 yn_Row_init rfl hl.1 rfl (Nat.le_of_ble_eq_true rfl) (by decide) (by decide) d_SF_init_107 (fun H locs hI hn => ?_)
  refine W.widen (k := 549) (n := 7586) (by decide) (by decide) ?_
  obtain ⟨h99, eh99, hf⟩ := z_bs hf
  refine z_aast X hI eh99 rfl rfl d_SF_init_110 (fun H locs hI => ?_)
  refine lv_iinc (v := 11) (lv' := [(1, .int 11), (0, .ref v0)]) hx hb d_SF_init_111 hl (k := 0) rfl (by decide) (by decide) rfl (fun ls hl => ?_)
  refine lv_goto (tgt := 90) hx hb d_SF_init_114 (by decide) ?_
  refine lv_iload_n hx hb d_SF_init_90 rfl (lv_at hl 0 rfl) ?_
  refine lv_bipush (v := 12) hx hb d_SF_init_91 (by decide) ?_
  refine lv_icmp_ge (tgt := 117) hx hb d_SF_init_93 (by decide) (fun c9 => absurd c9 (by decide)) (fun _ => ?_)
  refine lv_aload_n hx hb d_SF_init_96 rfl (lv_at hl 1 rfl) ?_
  obtain ⟨x100, ex100, hf⟩ := z_bs hf
  refine z_getF X hI (k := 1) (ci := 11) (gR_s ex100) i_SF rfl (by decide) wf_SF_18 d_SF_init_97 ?_
  refine lv_iload_n hx hb d_SF_init_100 rfl (lv_at hl 0 rfl) ?_
  obtain ⟨u101, eu101, hf⟩ := z_bs hf
  refine z_size (n := n + 549) hI (by omega) (Or.inr (zD_s eu101)) (fun hn => ?_)
  obtain ⟨h102, eh102, hf⟩ := z_bs hf
  refine z_new (n := (n + 549)) (ci := 10) (fs := [.null, .int 0]) (ty0 := t_Row) X hI hn i_Row t_Row_ok rfl wk_SF_7 wn_Row wz_Row (by decide +kernel) (by decide) d_SF_init_101 (fun H hI hn => ?_)
  rw [Option.some.inj eh102] at hI
  refine W.widen (k := 550) (n := 7588) (by decide) (by decide) ?_
  refine lv_dup hx hb d_SF_init_104 rfl ?_
  refine lv_bipush (v := 24) hx hb d_SF_init_105 (by decide) ?_
  obtain ⟨u103, eu103, hf⟩ := z_bs hf
  refine z_size (n := n + 550) hI (by omega) (Or.inr (zD_s eu103)) (fun hn => ?_)
  obtain ⟨h104, eh104, hf⟩ := z_bs hf
  refine zn_callI (n := (n + 550)) (mc := 1) (ms := (24 : Int32).toNatClampNeg) (As := [.int 24]) (rest := [.ref (n + 549), .int 11, .ref x100]) (h' := h104) X hF hI hn (s_Row_init eh104) wm_SF_11 yn_Row_init rfl hl.1 rfl (Nat.le_of_ble_eq_true rfl) (by decide) (by decide) d_SF_init_107 (fun H locs hI hn => ?_)
  refine W.widen (k := 551) (n := 7612) (by decide) (by decide) ?_
  obtain ⟨h105, eh105, hf⟩ := z_bs hf
  refine z_aast X hI eh105 rfl rfl d_SF_init_110 (fun H locs hI => ?_)
  refine lv_iinc (v := 12) (lv' := [(1, .int 12), (0, .ref v0)]) hx hb d_SF_init_111 hl (k := 0) rfl (by decide) (by decide) rfl (fun ls hl => ?_)
  refine lv_goto (tgt := 90) hx hb d_SF_init_114 (by decide) ?_
  refine lv_iload_n hx hb d_SF_init_90 rfl (lv_at hl 0 rfl) ?_
  refine lv_bipush (v := 12) hx hb d_SF_init_91 (by decide) ?_
  refine lv_icmp_ge (tgt := 117) hx hb d_SF_init_93 (by decide) (fun _ => ?_) (fun c9 => absurd (by decide) c9)
  obtain ⟨u106, eu106, hf⟩ := z_bs hf
  refine z_size (n := n + 551) hI (by omega) (Or.inr (zD_s eu106)) (fun hn => ?_)
  cases hf
  exact zn_vret X hI hn d_SF_init_117
