set_option maxRecDepth 20000 in
def f_Mod_init (N : Nat) (v0 : Nat) (h : z_H) (n : Nat) : Option z_H :=
  z_b (some (z_up h n (.inl (0, (240, .inl fun _ => 0))))) fun h1 =>
  z_b (sF h1 v0 12 0 (.ref n)) fun h2 =>
  z_b (zD h2 (n + 0)) fun u3 =>
  z_b (some (z_up h2 (n + 1) (.inl (0, (12, .inl fun _ => 0))))) fun h4 =>
  z_b (sF h4 v0 12 1 (.ref (n + 1))) fun h5 =>
  z_b (zD h5 (n + 1)) fun u6 =>
  z_b (some (z_up h5 (n + 2) (.inl (0, (288, .inl fun _ => 0))))) fun h7 =>
  z_b (sF h7 v0 12 2 (.ref (n + 2))) fun h8 =>
  z_b (sF h8 v0 12 5 (.int (-2))) fun h9 =>
  z_b (zD h9 (n + 2)) fun u10 =>
  z_b (some (z_up h9 (n + 3) (.inl (0, (80, .inl fun _ => 0))))) fun h11 =>
  z_b (sF h11 v0 12 9 (.ref (n + 3))) fun h12 =>
  z_b (zD h12 (n + 3)) fun u13 =>
  z_b (some (z_up h12 (n + 4) (.inl (0, (80, .inl fun _ => 0))))) fun h14 =>
  z_b (sF h14 v0 12 10 (.ref (n + 4))) fun h15 =>
  z_b (zD h15 (n + 4)) fun u16 =>
  z_b (some (z_up h15 (n + 5) (.inl (0, (80, .inl fun _ => 0))))) fun h17 =>
  z_b (sF h17 v0 12 11 (.ref (n + 5))) fun h18 =>
  z_b (zD h18 (n + 5)) fun u19 =>
  z_b (some (z_up h18 (n + 6) (.inl (0, (80, .inl fun _ => 0))))) fun h20 =>
  z_b (sF h20 v0 12 12 (.ref (n + 6))) fun h21 =>
  z_b (zD h21 (n + 6)) fun u22 =>
  z_b (some (z_up h21 (n + 7) (.inl (0, (80, .inl fun _ => 0))))) fun h23 =>
  z_b (sF h23 v0 12 13 (.ref (n + 7))) fun h24 =>
  z_b (zD h24 (n + 7)) fun u25 =>
  z_b (some (z_up h24 (n + 8) (.inl (0, (80, .inl fun _ => 0))))) fun h26 =>
  z_b (sF h26 v0 12 14 (.ref (n + 8))) fun h27 =>
  z_b (zD h27 (n + 8)) fun u28 =>
  z_b (some (z_up h27 (n + 9) (.inl (0, (80, .inl fun _ => 0))))) fun h29 =>
  z_b (sF h29 v0 12 15 (.ref (n + 9))) fun h30 =>
  z_b (zD h30 (n + 9)) fun u31 =>
  z_b (some (z_up h30 (n + 10) (.inl (0, (80, .inl fun _ => 0))))) fun h32 =>
  z_b (sF h32 v0 12 16 (.ref (n + 10))) fun h33 =>
  z_b (zD h33 (n + 10)) fun u34 =>
  z_b (some (z_up h33 (n + 11) (.inl (0, (80, .inl fun _ => 0))))) fun h35 =>
  z_b (sF h35 v0 12 17 (.ref (n + 11))) fun h36 =>
  z_b (zD h36 (n + 11)) fun u37 =>
  z_b (some (z_up h36 (n + 12) (.inl (0, (80, .inl fun _ => 0))))) fun h38 =>
  z_b (sF h38 v0 12 18 (.ref (n + 12))) fun h39 =>
  z_b (zD h39 (n + 12)) fun u40 =>
  z_b (some (z_up h39 (n + 13) (.inl (0, (80, .inl fun _ => 0))))) fun h41 =>
  z_b (sF h41 v0 12 19 (.ref (n + 13))) fun h42 =>
  z_b (zD h42 (n + 13)) fun u43 =>
  z_b (some (z_up h42 (n + 14) (.inl (0, (80, .inl fun _ => 0))))) fun h44 =>
  z_b (sF h44 v0 12 20 (.ref (n + 14))) fun h45 =>
  z_b (zD h45 (n + 14)) fun u46 =>
  z_b (some (z_up h45 (n + 15) (.inl (3, (80, .inl fun _ => 0))))) fun h47 =>
  z_b (sF h47 v0 12 21 (.ref (n + 15))) fun h48 =>
  z_b (zD h48 (n + 15)) fun u49 =>
  z_b (some (z_up h48 (n + 16) (.inl (3, (80, .inl fun _ => 0))))) fun h50 =>
  z_b (sF h50 v0 12 22 (.ref (n + 16))) fun h51 =>
  z_b (zD h51 (n + 16)) fun u52 =>
  z_b (some (z_up h51 (n + 17) (.inl (3, (80, .inl fun _ => 0))))) fun h53 =>
  z_b (sF h53 v0 12 23 (.ref (n + 17))) fun h54 =>
  z_b (zD h54 (n + 17)) fun u55 =>
  z_b (some (z_up h54 (n + 18) (.inl (0, (2, .inl fun _ => 0))))) fun h56 =>
  z_b (sF h56 v0 12 24 (.ref (n + 18))) fun h57 =>
  z_b (zD h57 (n + 18)) fun u58 =>
  z_b (some (z_up h57 (n + 19) (.inl (0, (2, .inl fun _ => 0))))) fun h59 =>
  z_b (sF h59 v0 12 25 (.ref (n + 19))) fun h60 =>
  z_b (zD h60 (n + 19)) fun u61 =>
  z_b (some (z_up h60 (n + 20) (.inl (0, (2, .inl fun _ => 0))))) fun h62 =>
  z_b (sF h62 v0 12 26 (.ref (n + 20))) fun h63 =>
  z_b (zD h63 (n + 20)) fun u64 =>
  z_b (some (z_up h63 (n + 21) (.inl (0, (2, .inl fun _ => 0))))) fun h65 =>
  z_b (sF h65 v0 12 27 (.ref (n + 21))) fun h66 =>
  z_b (zD h66 (n + 21)) fun u67 =>
  z_b (some (z_up h66 (n + 22) (.inl (0, (260, .inl fun _ => 0))))) fun h68 =>
  z_b (sF h68 v0 12 28 (.ref (n + 22))) fun h69 =>
  z_b (zD h69 (n + 22)) fun u70 =>
  z_b (some (z_up h69 (n + 23) (.inl (0, (260, .inl fun _ => 0))))) fun h71 =>
  z_b (sF h71 v0 12 29 (.ref (n + 23))) fun h72 =>
  z_b (zD h72 (n + 23)) fun u73 =>
  z_b (some (z_up h72 (n + 24) (.inl (0, (260, .inl fun _ => 0))))) fun h74 =>
  z_b (sF h74 v0 12 30 (.ref (n + 24))) fun h75 =>
  z_b (zD h75 (n + 24)) fun u76 =>
  z_b (some (z_up h75 (n + 25) (.inl (0, (520, .inl fun _ => 0))))) fun h77 =>
  z_b (sF h77 v0 12 31 (.ref (n + 25))) fun h78 =>
  z_b (zD h78 (n + 25)) fun u79 =>
  z_b (some (z_up h78 (n + 26) (.inl (0, (520, .inl fun _ => 0))))) fun h80 =>
  z_b (sF h80 v0 12 32 (.ref (n + 26))) fun h81 =>
  z_b (zD h81 (n + 26)) fun u82 =>
  z_b (some (z_up h81 (n + 27) (.inl (0, (600, .inl fun _ => 0))))) fun h83 =>
  z_b (sF h83 v0 12 33 (.ref (n + 27))) fun h84 =>
  z_b (zD h84 (n + 27)) fun u85 =>
  z_b (some (z_up h84 (n + 28) (.inl (3, (520, .inl fun _ => 0))))) fun h86 =>
  z_b (sF h86 v0 12 34 (.ref (n + 28))) fun h87 =>
  z_b (zD h87 (n + 28)) fun u88 =>
  z_b (some (z_up h87 (n + 29) (.inl (3, (260, .inl fun _ => 0))))) fun h89 =>
  z_b (sF h89 v0 12 35 (.ref (n + 29))) fun h90 =>
  z_b (zD h90 (n + 29)) fun u91 =>
  z_b (some (z_up h90 (n + 30) (.inl (3, (260, .inl fun _ => 0))))) fun h92 =>
  z_b (sF h92 v0 12 36 (.ref (n + 30))) fun h93 =>
  z_b (zD h93 (n + 30)) fun u94 =>
  z_b (some (z_up h93 (n + 31) (.inl (2, (520, .inr (.inl fun _ => 0)))))) fun h95 =>
  z_b (sF h95 v0 12 37 (.ref (n + 31))) fun h96 =>
  z_b (zD h96 (n + 31)) fun u97 =>
  z_b (some (z_up h96 (n + 32) (.inl (2, (520, .inr (.inl fun _ => 0)))))) fun h98 =>
  z_b (sF h98 v0 12 38 (.ref (n + 32))) fun h99 =>
  z_b (zD h99 (n + 32)) fun u100 =>
  z_b (some (z_up h99 (n + 33) (.inl (0, (26, .inl fun _ => 0))))) fun h101 =>
  z_b (sF h101 v0 12 39 (.ref (n + 33))) fun h102 =>
  z_b (zD h102 (n + 33)) fun u103 =>
  z_b (some (z_up h102 (n + 34) (.inl (0, (5, .inl fun _ => 0))))) fun h104 =>
  z_b (sF h104 v0 12 40 (.ref (n + 34))) fun h105 =>
  z_b (zD h105 (n + 34)) fun u106 =>
  z_b (some (z_up h105 (n + 35) (.inl (0, (64, .inl fun _ => 0))))) fun h107 =>
  z_b (sF h107 v0 12 51 (.ref (n + 35))) fun h108 =>
  z_b (zD h108 (n + 35)) fun u109 =>
  z_b (some (z_up h108 (n + 36) (.inl (0, (4, .inl fun _ => 0))))) fun h110 =>
  z_b (sF h110 v0 12 52 (.ref (n + 36))) fun h111 =>
  z_b (zD h111 (n + 36)) fun u112 =>
  z_b (some (z_up h111 (n + 37) (.inl (0, (4, .inl fun _ => 0))))) fun h113 =>
  z_b (sF h113 v0 12 53 (.ref (n + 37))) fun h114 =>
  z_b (zD h114 (n + 37)) fun u115 =>
  z_b (some (z_up h114 (n + 38) (.inl (0, (64, .inl fun _ => 0))))) fun h116 =>
  z_b (sF h116 v0 12 58 (.ref (n + 38))) fun h117 =>
  z_b (zD h117 (n + 38)) fun u118 =>
  z_b (some (z_up h117 (n + 39) (.inl (0, (64, .inl fun _ => 0))))) fun h119 =>
  z_b (sF h119 v0 12 59 (.ref (n + 39))) fun h120 =>
  z_b (zD h120 (n + 39)) fun u121 =>
  z_b (some (z_up h120 (n + 40) (.inl (0, (400, .inl fun _ => 0))))) fun h122 =>
  z_b (sF h122 v0 12 60 (.ref (n + 40))) fun h123 =>
  z_b (zD h123 (n + 40)) fun u124 =>
  z_b (some (z_up h123 (n + 41) (.inl (0, (200, .inl fun _ => 0))))) fun h125 =>
  z_b (sF h125 v0 12 61 (.ref (n + 41))) fun h126 =>
  z_b (zD h126 (n + 41)) fun u127 =>
  z_b (some (z_up h126 (n + 42) (.inl (0, (600, .inl fun _ => 0))))) fun h128 =>
  z_b (sF h128 v0 12 62 (.ref (n + 42))) fun h129 =>
  z_b (zD h129 (n + 42)) fun u130 =>
  z_b (some (z_up h129 (n + 43) (.inl (0, (40, .inl fun _ => 0))))) fun h131 =>
  z_b (sF h131 v0 12 63 (.ref (n + 43))) fun h132 =>
  z_b (zD h132 (n + 43)) fun u133 =>
  z_b (some (z_up h132 (n + 44) (.inl (3, (40, .inl fun _ => 0))))) fun h134 =>
  z_b (sF h134 v0 12 64 (.ref (n + 44))) fun h135 =>
  z_b (zD h135 (n + 44)) fun u136 =>
  some h135
set_option maxRecDepth 20000 in
set_option maxHeartbeats 8000000 in
theorem s_Mod_init {l : Launch} {D : va_G} {dA : Nat → ClassId} {B N n : Nat} {v0 : Nat} {h h' : z_H} (hf : f_Mod_init N v0 h n = some h') : zn_Met l y_Mod_init prog_14_method_1_code 1 1 20 45 (7759) D dA B [.ref v0] h n h' := by
  refine zn_of (by decide) (Nat.le_of_ble_eq_true rfl) (fun p e s m below meth c ls X hname hF hn0 hI hl => ?_)
  have hx := z_hx X
  have hb := z_hb X
  have hl : lv_has ls 1 [(0, .ref v0)] := hl
  unfold f_Mod_init at hf
  obtain ⟨locs, hlo⟩ : ∃ z : List Loc, z = [] := ⟨_, rfl⟩
  rw [← hlo] at hI ⊢
  refine lv_aload_n hx hb d_Mod_init_0 rfl (lv_at hl 0 rfl) ?_
  refine W.objInit hx hb X.1.2.2.2.1 (z_w X wo_Mod_1) (z_w X wo_i) (z_w X wo_c) rfl (hl.1.trans X.1.2.2.1.symm) rfl d_Mod_init_1 (Nat.le_of_ble_eq_true rfl) (Nat.le_of_ble_eq_true rfl) ?_
  refine W.eq (g2 := F0 m 4 ls []) rfl ?_
  refine lv_aload_n hx hb d_Mod_init_4 rfl (lv_at hl 0 rfl) ?_
  refine lv_sipush (v := 240) hx hb d_Mod_init_5 (by decide) ?_
  refine z_size (n := n) hI (by omega) (Or.inl hn0.symm) (fun hn => ?_)
  obtain ⟨h1, eh1, hf⟩ := z_bs hf
  refine z_newa (n := n) (t := 0) (N := 240) (a0 := (240, .inl fun _ => 0)) (ty := .int) X hI hn rfl rfl (fun C h9 => by cases h9) wa_0 (fun _ => rfl) (by decide) (by decide) (by decide) (by decide) d_Mod_init_8 (fun H hI hn => ?_)
  rw [Option.some.inj eh1] at hI
  refine W.widen (k := 1) (n := 240) (by decide) (by decide) ?_
  obtain ⟨h2, eh2, hf⟩ := z_bs hf
  refine zn_putF X hname hI (k := 0) (ci := 12) (ty0 := t_Mod) eh2 i_Mod t_Mod_ok n_Mod rfl (by decide) wf_Mod_7 rfl rfl rfl rfl d_Mod_init_10 (fun H locs hI => ?_)
  refine lv_aload_n hx hb d_Mod_init_13 rfl (lv_at hl 0 rfl) ?_
  refine lv_bipush (v := 12) hx hb d_Mod_init_14 (by decide) ?_
  obtain ⟨u3, eu3, hf⟩ := z_bs hf
  refine z_size (n := n + 1) hI (by omega) (Or.inr (zD_s eu3)) (fun hn => ?_)
  obtain ⟨h4, eh4, hf⟩ := z_bs hf
  refine z_newa (n := (n + 1)) (t := 0) (N := 12) (a0 := (12, .inl fun _ => 0)) (ty := .int) X hI hn rfl rfl (fun C h9 => by cases h9) wa_0 (fun _ => rfl) (by decide) (by decide) (by decide) (by decide) d_Mod_init_16 (fun H hI hn => ?_)
  rw [Option.some.inj eh4] at hI
  refine W.widen (k := 2) (n := 252) (by decide) (by decide) ?_
  obtain ⟨h5, eh5, hf⟩ := z_bs hf
  refine zn_putF X hname hI (k := 1) (ci := 12) (ty0 := t_Mod) eh5 i_Mod t_Mod_ok n_Mod rfl (by decide) wf_Mod_13 rfl rfl rfl rfl d_Mod_init_18 (fun H locs hI => ?_)
  refine lv_aload_n hx hb d_Mod_init_21 rfl (lv_at hl 0 rfl) ?_
  refine lv_sipush (v := 288) hx hb d_Mod_init_22 (by decide) ?_
  obtain ⟨u6, eu6, hf⟩ := z_bs hf
  refine z_size (n := n + 2) hI (by omega) (Or.inr (zD_s eu6)) (fun hn => ?_)
  obtain ⟨h7, eh7, hf⟩ := z_bs hf
  refine z_newa (n := (n + 2)) (t := 0) (N := 288) (a0 := (288, .inl fun _ => 0)) (ty := .int) X hI hn rfl rfl (fun C h9 => by cases h9) wa_0 (fun _ => rfl) (by decide) (by decide) (by decide) (by decide) d_Mod_init_25 (fun H hI hn => ?_)
  rw [Option.some.inj eh7] at hI
  refine W.widen (k := 3) (n := 540) (by decide) (by decide) ?_
  obtain ⟨h8, eh8, hf⟩ := z_bs hf
  refine zn_putF X hname hI (k := 2) (ci := 12) (ty0 := t_Mod) eh8 i_Mod t_Mod_ok n_Mod rfl (by decide) wf_Mod_16 rfl rfl rfl rfl d_Mod_init_27 (fun H locs hI => ?_)
  refine lv_aload_n hx hb d_Mod_init_30 rfl (lv_at hl 0 rfl) ?_
  refine lv_bipush (v := (-2)) hx hb d_Mod_init_31 (by decide) ?_
  obtain ⟨h9, eh9, hf⟩ := z_bs hf
  refine z_putF X hI (k := 5) (ci := 12) (ty0 := t_Mod) eh9 i_Mod t_Mod_ok n_Mod rfl (by decide) wf_Mod_19 rfl rfl rfl d_Mod_init_33 (fun H locs hI => ?_)
  refine lv_aload_n hx hb d_Mod_init_36 rfl (lv_at hl 0 rfl) ?_
  refine lv_bipush (v := 80) hx hb d_Mod_init_37 (by decide) ?_
  obtain ⟨u10, eu10, hf⟩ := z_bs hf
  refine z_size (n := n + 3) hI (by omega) (Or.inr (zD_s eu10)) (fun hn => ?_)
  obtain ⟨h11, eh11, hf⟩ := z_bs hf
  refine z_newa (n := (n + 3)) (t := 0) (N := 80) (a0 := (80, .inl fun _ => 0)) (ty := .int) X hI hn rfl rfl (fun C h9 => by cases h9) wa_0 (fun _ => rfl) (by decide) (by decide) (by decide) (by decide) d_Mod_init_39 (fun H hI hn => ?_)
  rw [Option.some.inj eh11] at hI
  refine W.widen (k := 4) (n := 620) (by decide) (by decide) ?_
  obtain ⟨h12, eh12, hf⟩ := z_bs hf
  refine zn_putF X hname hI (k := 9) (ci := 12) (ty0 := t_Mod) eh12 i_Mod t_Mod_ok n_Mod rfl (by decide) wf_Mod_23 rfl rfl rfl rfl d_Mod_init_41 (fun H locs hI => ?_)
  refine lv_aload_n hx hb d_Mod_init_44 rfl (lv_at hl 0 rfl) ?_
  refine lv_bipush (v := 80) hx hb d_Mod_init_45 (by decide) ?_
  obtain ⟨u13, eu13, hf⟩ := z_bs hf
  refine z_size (n := n + 4) hI (by omega) (Or.inr (zD_s eu13)) (fun hn => ?_)
  obtain ⟨h14, eh14, hf⟩ := z_bs hf
  refine z_newa (n := (n + 4)) (t := 0) (N := 80) (a0 := (80, .inl fun _ => 0)) (ty := .int) X hI hn rfl rfl (fun C h9 => by cases h9) wa_0 (fun _ => rfl) (by decide) (by decide) (by decide) (by decide) d_Mod_init_47 (fun H hI hn => ?_)
  rw [Option.some.inj eh14] at hI
  refine W.widen (k := 5) (n := 700) (by decide) (by decide) ?_
  obtain ⟨h15, eh15, hf⟩ := z_bs hf
  refine zn_putF X hname hI (k := 10) (ci := 12) (ty0 := t_Mod) eh15 i_Mod t_Mod_ok n_Mod rfl (by decide) wf_Mod_26 rfl rfl rfl rfl d_Mod_init_49 (fun H locs hI => ?_)
  refine lv_aload_n hx hb d_Mod_init_52 rfl (lv_at hl 0 rfl) ?_
  refine lv_bipush (v := 80) hx hb d_Mod_init_53 (by decide) ?_
  obtain ⟨u16, eu16, hf⟩ := z_bs hf
  refine z_size (n := n + 5) hI (by omega) (Or.inr (zD_s eu16)) (fun hn => ?_)
  obtain ⟨h17, eh17, hf⟩ := z_bs hf
  refine z_newa (n := (n + 5)) (t := 0) (N := 80) (a0 := (80, .inl fun _ => 0)) (ty := .int) X hI hn rfl rfl (fun C h9 => by cases h9) wa_0 (fun _ => rfl) (by decide) (by decide) (by decide) (by decide) d_Mod_init_55 (fun H hI hn => ?_)
  rw [Option.some.inj eh17] at hI
  refine W.widen (k := 6) (n := 780) (by decide) (by decide) ?_
  obtain ⟨h18, eh18, hf⟩ := z_bs hf
  refine zn_putF X hname hI (k := 11) (ci := 12) (ty0 := t_Mod) eh18 i_Mod t_Mod_ok n_Mod rfl (by decide) wf_Mod_29 rfl rfl rfl rfl d_Mod_init_57 (fun H locs hI => ?_)
  refine lv_aload_n hx hb d_Mod_init_60 rfl (lv_at hl 0 rfl) ?_
  refine lv_bipush (v := 80) hx hb d_Mod_init_61 (by decide) ?_
  obtain ⟨u19, eu19, hf⟩ := z_bs hf
  refine z_size (n := n + 6) hI (by omega) (Or.inr (zD_s eu19)) (fun hn => ?_)
  obtain ⟨h20, eh20, hf⟩ := z_bs hf
  refine z_newa (n := (n + 6)) (t := 0) (N := 80) (a0 := (80, .inl fun _ => 0)) (ty := .int) X hI hn rfl rfl (fun C h9 => by cases h9) wa_0 (fun _ => rfl) (by decide) (by decide) (by decide) (by decide) d_Mod_init_63 (fun H hI hn => ?_)
  rw [Option.some.inj eh20] at hI
  refine W.widen (k := 7) (n := 860) (by decide) (by decide) ?_
  obtain ⟨h21, eh21, hf⟩ := z_bs hf
  refine zn_putF X hname hI (k := 12) (ci := 12) (ty0 := t_Mod) eh21 i_Mod t_Mod_ok n_Mod rfl (by decide) wf_Mod_32 rfl rfl rfl rfl d_Mod_init_65 (fun H locs hI => ?_)
  refine lv_aload_n hx hb d_Mod_init_68 rfl (lv_at hl 0 rfl) ?_
  refine lv_bipush (v := 80) hx hb d_Mod_init_69 (by decide) ?_
  obtain ⟨u22, eu22, hf⟩ := z_bs hf
  refine z_size (n := n + 7) hI (by omega) (Or.inr (zD_s eu22)) (fun hn => ?_)
  obtain ⟨h23, eh23, hf⟩ := z_bs hf
  refine z_newa (n := (n + 7)) (t := 0) (N := 80) (a0 := (80, .inl fun _ => 0)) (ty := .int) X hI hn rfl rfl (fun C h9 => by cases h9) wa_0 (fun _ => rfl) (by decide) (by decide) (by decide) (by decide) d_Mod_init_71 (fun H hI hn => ?_)
  rw [Option.some.inj eh23] at hI
  refine W.widen (k := 8) (n := 940) (by decide) (by decide) ?_
  obtain ⟨h24, eh24, hf⟩ := z_bs hf
  refine zn_putF X hname hI (k := 13) (ci := 12) (ty0 := t_Mod) eh24 i_Mod t_Mod_ok n_Mod rfl (by decide) wf_Mod_35 rfl rfl rfl rfl d_Mod_init_73 (fun H locs hI => ?_)
  refine lv_aload_n hx hb d_Mod_init_76 rfl (lv_at hl 0 rfl) ?_
  refine lv_bipush (v := 80) hx hb d_Mod_init_77 (by decide) ?_
  obtain ⟨u25, eu25, hf⟩ := z_bs hf
  refine z_size (n := n + 8) hI (by omega) (Or.inr (zD_s eu25)) (fun hn => ?_)
  obtain ⟨h26, eh26, hf⟩ := z_bs hf
  refine z_newa (n := (n + 8)) (t := 0) (N := 80) (a0 := (80, .inl fun _ => 0)) (ty := .int) X hI hn rfl rfl (fun C h9 => by cases h9) wa_0 (fun _ => rfl) (by decide) (by decide) (by decide) (by decide) d_Mod_init_79 (fun H hI hn => ?_)
  rw [Option.some.inj eh26] at hI
  refine W.widen (k := 9) (n := 1020) (by decide) (by decide) ?_
  obtain ⟨h27, eh27, hf⟩ := z_bs hf
  refine zn_putF X hname hI (k := 14) (ci := 12) (ty0 := t_Mod) eh27 i_Mod t_Mod_ok n_Mod rfl (by decide) wf_Mod_38 rfl rfl rfl rfl d_Mod_init_81 (fun H locs hI => ?_)
  refine lv_aload_n hx hb d_Mod_init_84 rfl (lv_at hl 0 rfl) ?_
  refine lv_bipush (v := 80) hx hb d_Mod_init_85 (by decide) ?_
  obtain ⟨u28, eu28, hf⟩ := z_bs hf
  refine z_size (n := n + 9) hI (by omega) (Or.inr (zD_s eu28)) (fun hn => ?_)
  obtain ⟨h29, eh29, hf⟩ := z_bs hf
  refine z_newa (n := (n + 9)) (t := 0) (N := 80) (a0 := (80, .inl fun _ => 0)) (ty := .int) X hI hn rfl rfl (fun C h9 => by cases h9) wa_0 (fun _ => rfl) (by decide) (by decide) (by decide) (by decide) d_Mod_init_87 (fun H hI hn => ?_)
  rw [Option.some.inj eh29] at hI
  refine W.widen (k := 10) (n := 1100) (by decide) (by decide) ?_
  obtain ⟨h30, eh30, hf⟩ := z_bs hf
  refine zn_putF X hname hI (k := 15) (ci := 12) (ty0 := t_Mod) eh30 i_Mod t_Mod_ok n_Mod rfl (by decide) wf_Mod_41 rfl rfl rfl rfl d_Mod_init_89 (fun H locs hI => ?_)
  refine lv_aload_n hx hb d_Mod_init_92 rfl (lv_at hl 0 rfl) ?_
  refine lv_bipush (v := 80) hx hb d_Mod_init_93 (by decide) ?_
  obtain ⟨u31, eu31, hf⟩ := z_bs hf
  refine z_size (n := n + 10) hI (by omega) (Or.inr (zD_s eu31)) (fun hn => ?_)
  obtain ⟨h32, eh32, hf⟩ := z_bs hf
  refine z_newa (n := (n + 10)) (t := 0) (N := 80) (a0 := (80, .inl fun _ => 0)) (ty := .int) X hI hn rfl rfl (fun C h9 => by cases h9) wa_0 (fun _ => rfl) (by decide) (by decide) (by decide) (by decide) d_Mod_init_95 (fun H hI hn => ?_)
  rw [Option.some.inj eh32] at hI
  refine W.widen (k := 11) (n := 1180) (by decide) (by decide) ?_
  obtain ⟨h33, eh33, hf⟩ := z_bs hf
  refine zn_putF X hname hI (k := 16) (ci := 12) (ty0 := t_Mod) eh33 i_Mod t_Mod_ok n_Mod rfl (by decide) wf_Mod_44 rfl rfl rfl rfl d_Mod_init_97 (fun H locs hI => ?_)
  refine lv_aload_n hx hb d_Mod_init_100 rfl (lv_at hl 0 rfl) ?_
  refine lv_bipush (v := 80) hx hb d_Mod_init_101 (by decide) ?_
  obtain ⟨u34, eu34, hf⟩ := z_bs hf
  refine z_size (n := n + 11) hI (by omega) (Or.inr (zD_s eu34)) (fun hn => ?_)
  obtain ⟨h35, eh35, hf⟩ := z_bs hf
  refine z_newa (n := (n + 11)) (t := 0) (N := 80) (a0 := (80, .inl fun _ => 0)) (ty := .int) X hI hn rfl rfl (fun C h9 => by cases h9) wa_0 (fun _ => rfl) (by decide) (by decide) (by decide) (by decide) d_Mod_init_103 (fun H hI hn => ?_)
  rw [Option.some.inj eh35] at hI
  refine W.widen (k := 12) (n := 1260) (by decide) (by decide) ?_
  obtain ⟨h36, eh36, hf⟩ := z_bs hf
  refine zn_putF X hname hI (k := 17) (ci := 12) (ty0 := t_Mod) eh36 i_Mod t_Mod_ok n_Mod rfl (by decide) wf_Mod_47 rfl rfl rfl rfl d_Mod_init_105 (fun H locs hI => ?_)
  refine lv_aload_n hx hb d_Mod_init_108 rfl (lv_at hl 0 rfl) ?_
  refine lv_bipush (v := 80) hx hb d_Mod_init_109 (by decide) ?_
  obtain ⟨u37, eu37, hf⟩ := z_bs hf
  refine z_size (n := n + 12) hI (by omega) (Or.inr (zD_s eu37)) (fun hn => ?_)
  obtain ⟨h38, eh38, hf⟩ := z_bs hf
  refine z_newa (n := (n + 12)) (t := 0) (N := 80) (a0 := (80, .inl fun _ => 0)) (ty := .int) X hI hn rfl rfl (fun C h9 => by cases h9) wa_0 (fun _ => rfl) (by decide) (by decide) (by decide) (by decide) d_Mod_init_111 (fun H hI hn => ?_)
  rw [Option.some.inj eh38] at hI
  refine W.widen (k := 13) (n := 1340) (by decide) (by decide) ?_
  obtain ⟨h39, eh39, hf⟩ := z_bs hf
  refine zn_putF X hname hI (k := 18) (ci := 12) (ty0 := t_Mod) eh39 i_Mod t_Mod_ok n_Mod rfl (by decide) wf_Mod_50 rfl rfl rfl rfl d_Mod_init_113 (fun H locs hI => ?_)
  refine lv_aload_n hx hb d_Mod_init_116 rfl (lv_at hl 0 rfl) ?_
  refine lv_bipush (v := 80) hx hb d_Mod_init_117 (by decide) ?_
  obtain ⟨u40, eu40, hf⟩ := z_bs hf
  refine z_size (n := n + 13) hI (by omega) (Or.inr (zD_s eu40)) (fun hn => ?_)
  obtain ⟨h41, eh41, hf⟩ := z_bs hf
  refine z_newa (n := (n + 13)) (t := 0) (N := 80) (a0 := (80, .inl fun _ => 0)) (ty := .int) X hI hn rfl rfl (fun C h9 => by cases h9) wa_0 (fun _ => rfl) (by decide) (by decide) (by decide) (by decide) d_Mod_init_119 (fun H hI hn => ?_)
  rw [Option.some.inj eh41] at hI
  refine W.widen (k := 14) (n := 1420) (by decide) (by decide) ?_
  obtain ⟨h42, eh42, hf⟩ := z_bs hf
  refine zn_putF X hname hI (k := 19) (ci := 12) (ty0 := t_Mod) eh42 i_Mod t_Mod_ok n_Mod rfl (by decide) wf_Mod_53 rfl rfl rfl rfl d_Mod_init_121 (fun H locs hI => ?_)
  refine lv_aload_n hx hb d_Mod_init_124 rfl (lv_at hl 0 rfl) ?_
  refine lv_bipush (v := 80) hx hb d_Mod_init_125 (by decide) ?_
  obtain ⟨u43, eu43, hf⟩ := z_bs hf
  refine z_size (n := n + 14) hI (by omega) (Or.inr (zD_s eu43)) (fun hn => ?_)
  obtain ⟨h44, eh44, hf⟩ := z_bs hf
  refine z_newa (n := (n + 14)) (t := 0) (N := 80) (a0 := (80, .inl fun _ => 0)) (ty := .int) X hI hn rfl rfl (fun C h9 => by cases h9) wa_0 (fun _ => rfl) (by decide) (by decide) (by decide) (by decide) d_Mod_init_127 (fun H hI hn => ?_)
  rw [Option.some.inj eh44] at hI
  refine W.widen (k := 15) (n := 1500) (by decide) (by decide) ?_
  obtain ⟨h45, eh45, hf⟩ := z_bs hf
  refine zn_putF X hname hI (k := 20) (ci := 12) (ty0 := t_Mod) eh45 i_Mod t_Mod_ok n_Mod rfl (by decide) wf_Mod_56 rfl rfl rfl rfl d_Mod_init_129 (fun H locs hI => ?_)
  refine lv_aload_n hx hb d_Mod_init_132 rfl (lv_at hl 0 rfl) ?_
  refine lv_bipush (v := 80) hx hb d_Mod_init_133 (by decide) ?_
  obtain ⟨u46, eu46, hf⟩ := z_bs hf
  refine z_size (n := n + 15) hI (by omega) (Or.inr (zD_s eu46)) (fun hn => ?_)
  obtain ⟨h47, eh47, hf⟩ := z_bs hf
  refine z_newa (n := (n + 15)) (t := 3) (N := 80) (a0 := (80, .inl fun _ => 0)) (ty := .boolean) X hI hn rfl rfl (fun C h9 => by cases h9) wa_3 (fun _ => rfl) (by decide) (by decide) (by decide) (by decide) d_Mod_init_135 (fun H hI hn => ?_)
  rw [Option.some.inj eh47] at hI
  refine W.widen (k := 16) (n := 1580) (by decide) (by decide) ?_
  obtain ⟨h48, eh48, hf⟩ := z_bs hf
  refine zn_putF X hname hI (k := 21) (ci := 12) (ty0 := t_Mod) eh48 i_Mod t_Mod_ok n_Mod rfl (by decide) wf_Mod_59 rfl rfl rfl rfl d_Mod_init_137 (fun H locs hI => ?_)
  refine lv_aload_n hx hb d_Mod_init_140 rfl (lv_at hl 0 rfl) ?_
  refine lv_bipush (v := 80) hx hb d_Mod_init_141 (by decide) ?_
  obtain ⟨u49, eu49, hf⟩ := z_bs hf
  refine z_size (n := n + 16) hI (by omega) (Or.inr (zD_s eu49)) (fun hn => ?_)
  obtain ⟨h50, eh50, hf⟩ := z_bs hf
  refine z_newa (n := (n + 16)) (t := 3) (N := 80) (a0 := (80, .inl fun _ => 0)) (ty := .boolean) X hI hn rfl rfl (fun C h9 => by cases h9) wa_3 (fun _ => rfl) (by decide) (by decide) (by decide) (by decide) d_Mod_init_143 (fun H hI hn => ?_)
  rw [Option.some.inj eh50] at hI
  refine W.widen (k := 17) (n := 1660) (by decide) (by decide) ?_
  obtain ⟨h51, eh51, hf⟩ := z_bs hf
  refine zn_putF X hname hI (k := 22) (ci := 12) (ty0 := t_Mod) eh51 i_Mod t_Mod_ok n_Mod rfl (by decide) wf_Mod_63 rfl rfl rfl rfl d_Mod_init_145 (fun H locs hI => ?_)
  refine lv_aload_n hx hb d_Mod_init_148 rfl (lv_at hl 0 rfl) ?_
  refine lv_bipush (v := 80) hx hb d_Mod_init_149 (by decide) ?_
  obtain ⟨u52, eu52, hf⟩ := z_bs hf
  refine z_size (n := n + 17) hI (by omega) (Or.inr (zD_s eu52)) (fun hn => ?_)
  obtain ⟨h53, eh53, hf⟩ := z_bs hf
  refine z_newa (n := (n + 17)) (t := 3) (N := 80) (a0 := (80, .inl fun _ => 0)) (ty := .boolean) X hI hn rfl rfl (fun C h9 => by cases h9) wa_3 (fun _ => rfl) (by decide) (by decide) (by decide) (by decide) d_Mod_init_151 (fun H hI hn => ?_)
  rw [Option.some.inj eh53] at hI
  refine W.widen (k := 18) (n := 1740) (by decide) (by decide) ?_
  obtain ⟨h54, eh54, hf⟩ := z_bs hf
  refine zn_putF X hname hI (k := 23) (ci := 12) (ty0 := t_Mod) eh54 i_Mod t_Mod_ok n_Mod rfl (by decide) wf_Mod_66 rfl rfl rfl rfl d_Mod_init_153 (fun H locs hI => ?_)
  refine lv_aload_n hx hb d_Mod_init_156 rfl (lv_at hl 0 rfl) ?_
  refine lv_iconst (v := 2) hx hb d_Mod_init_157 (by decide) ?_
  obtain ⟨u55, eu55, hf⟩ := z_bs hf
  refine z_size (n := n + 18) hI (by omega) (Or.inr (zD_s eu55)) (fun hn => ?_)
  obtain ⟨h56, eh56, hf⟩ := z_bs hf
  refine z_newa (n := (n + 18)) (t := 0) (N := 2) (a0 := (2, .inl fun _ => 0)) (ty := .int) X hI hn rfl rfl (fun C h9 => by cases h9) wa_0 (fun _ => rfl) (by decide) (by decide) (by decide) (by decide) d_Mod_init_158 (fun H hI hn => ?_)
  rw [Option.some.inj eh56] at hI
  refine W.widen (k := 19) (n := 1742) (by decide) (by decide) ?_
  obtain ⟨h57, eh57, hf⟩ := z_bs hf
  refine zn_putF X hname hI (k := 24) (ci := 12) (ty0 := t_Mod) eh57 i_Mod t_Mod_ok n_Mod rfl (by decide) wf_Mod_69 rfl rfl rfl rfl d_Mod_init_160 (fun H locs hI => ?_)
  refine lv_aload_n hx hb d_Mod_init_163 rfl (lv_at hl 0 rfl) ?_
  refine lv_iconst (v := 2) hx hb d_Mod_init_164 (by decide) ?_
  obtain ⟨u58, eu58, hf⟩ := z_bs hf
  refine z_size (n := n + 19) hI (by omega) (Or.inr (zD_s eu58)) (fun hn => ?_)
  obtain ⟨h59, eh59, hf⟩ := z_bs hf
  refine z_newa (n := (n + 19)) (t := 0) (N := 2) (a0 := (2, .inl fun _ => 0)) (ty := .int) X hI hn rfl rfl (fun C h9 => by cases h9) wa_0 (fun _ => rfl) (by decide) (by decide) (by decide) (by decide) d_Mod_init_165 (fun H hI hn => ?_)
  rw [Option.some.inj eh59] at hI
  refine W.widen (k := 20) (n := 1744) (by decide) (by decide) ?_
  obtain ⟨h60, eh60, hf⟩ := z_bs hf
  refine zn_putF X hname hI (k := 25) (ci := 12) (ty0 := t_Mod) eh60 i_Mod t_Mod_ok n_Mod rfl (by decide) wf_Mod_72 rfl rfl rfl rfl d_Mod_init_167 (fun H locs hI => ?_)
  refine lv_aload_n hx hb d_Mod_init_170 rfl (lv_at hl 0 rfl) ?_
  refine lv_iconst (v := 2) hx hb d_Mod_init_171 (by decide) ?_
  obtain ⟨u61, eu61, hf⟩ := z_bs hf
  refine z_size (n := n + 20) hI (by omega) (Or.inr (zD_s eu61)) (fun hn => ?_)
  obtain ⟨h62, eh62, hf⟩ := z_bs hf
  refine z_newa (n := (n + 20)) (t := 0) (N := 2) (a0 := (2, .inl fun _ => 0)) (ty := .int) X hI hn rfl rfl (fun C h9 => by cases h9) wa_0 (fun _ => rfl) (by decide) (by decide) (by decide) (by decide) d_Mod_init_172 (fun H hI hn => ?_)
  rw [Option.some.inj eh62] at hI
  refine W.widen (k := 21) (n := 1746) (by decide) (by decide) ?_
  obtain ⟨h63, eh63, hf⟩ := z_bs hf
  refine zn_putF X hname hI (k := 26) (ci := 12) (ty0 := t_Mod) eh63 i_Mod t_Mod_ok n_Mod rfl (by decide) wf_Mod_75 rfl rfl rfl rfl d_Mod_init_174 (fun H locs hI => ?_)
  refine lv_aload_n hx hb d_Mod_init_177 rfl (lv_at hl 0 rfl) ?_
  refine lv_iconst (v := 2) hx hb d_Mod_init_178 (by decide) ?_
  obtain ⟨u64, eu64, hf⟩ := z_bs hf
  refine z_size (n := n + 21) hI (by omega) (Or.inr (zD_s eu64)) (fun hn => ?_)
  obtain ⟨h65, eh65, hf⟩ := z_bs hf
  refine z_newa (n := (n + 21)) (t := 0) (N := 2) (a0 := (2, .inl fun _ => 0)) (ty := .int) X hI hn rfl rfl (fun C h9 => by cases h9) wa_0 (fun _ => rfl) (by decide) (by decide) (by decide) (by decide) d_Mod_init_179 (fun H hI hn => ?_)
  rw [Option.some.inj eh65] at hI
  refine W.widen (k := 22) (n := 1748) (by decide) (by decide) ?_
  obtain ⟨h66, eh66, hf⟩ := z_bs hf
  refine zn_putF X hname hI (k := 27) (ci := 12) (ty0 := t_Mod) eh66 i_Mod t_Mod_ok n_Mod rfl (by decide) wf_Mod_78 rfl rfl rfl rfl d_Mod_init_181 (fun H locs hI => ?_)
  refine lv_aload_n hx hb d_Mod_init_184 rfl (lv_at hl 0 rfl) ?_
  refine lv_sipush (v := 260) hx hb d_Mod_init_185 (by decide) ?_
  obtain ⟨u67, eu67, hf⟩ := z_bs hf
  refine z_size (n := n + 22) hI (by omega) (Or.inr (zD_s eu67)) (fun hn => ?_)
  obtain ⟨h68, eh68, hf⟩ := z_bs hf
  refine z_newa (n := (n + 22)) (t := 0) (N := 260) (a0 := (260, .inl fun _ => 0)) (ty := .int) X hI hn rfl rfl (fun C h9 => by cases h9) wa_0 (fun _ => rfl) (by decide) (by decide) (by decide) (by decide) d_Mod_init_188 (fun H hI hn => ?_)
  rw [Option.some.inj eh68] at hI
  refine W.widen (k := 23) (n := 2008) (by decide) (by decide) ?_
  obtain ⟨h69, eh69, hf⟩ := z_bs hf
  refine zn_putF X hname hI (k := 28) (ci := 12) (ty0 := t_Mod) eh69 i_Mod t_Mod_ok n_Mod rfl (by decide) wf_Mod_81 rfl rfl rfl rfl d_Mod_init_190 (fun H locs hI => ?_)
  refine lv_aload_n hx hb d_Mod_init_193 rfl (lv_at hl 0 rfl) ?_
  refine lv_sipush (v := 260) hx hb d_Mod_init_194 (by decide) ?_
  obtain ⟨u70, eu70, hf⟩ := z_bs hf
  refine z_size (n := n + 23) hI (by omega) (Or.inr (zD_s eu70)) (fun hn => ?_)
  obtain ⟨h71, eh71, hf⟩ := z_bs hf
  refine z_newa (n := (n + 23)) (t := 0) (N := 260) (a0 := (260, .inl fun _ => 0)) (ty := .int) X hI hn rfl rfl (fun C h9 => by cases h9) wa_0 (fun _ => rfl) (by decide) (by decide) (by decide) (by decide) d_Mod_init_197 (fun H hI hn => ?_)
  rw [Option.some.inj eh71] at hI
  refine W.widen (k := 24) (n := 2268) (by decide) (by decide) ?_
  obtain ⟨h72, eh72, hf⟩ := z_bs hf
  refine zn_putF X hname hI (k := 29) (ci := 12) (ty0 := t_Mod) eh72 i_Mod t_Mod_ok n_Mod rfl (by decide) wf_Mod_84 rfl rfl rfl rfl d_Mod_init_199 (fun H locs hI => ?_)
  refine lv_aload_n hx hb d_Mod_init_202 rfl (lv_at hl 0 rfl) ?_
  refine lv_sipush (v := 260) hx hb d_Mod_init_203 (by decide) ?_
  obtain ⟨u73, eu73, hf⟩ := z_bs hf
  refine z_size (n := n + 24) hI (by omega) (Or.inr (zD_s eu73)) (fun hn => ?_)
  obtain ⟨h74, eh74, hf⟩ := z_bs hf
  refine z_newa (n := (n + 24)) (t := 0) (N := 260) (a0 := (260, .inl fun _ => 0)) (ty := .int) X hI hn rfl rfl (fun C h9 => by cases h9) wa_0 (fun _ => rfl) (by decide) (by decide) (by decide) (by decide) d_Mod_init_206 (fun H hI hn => ?_)
  rw [Option.some.inj eh74] at hI
  refine W.widen (k := 25) (n := 2528) (by decide) (by decide) ?_
  obtain ⟨h75, eh75, hf⟩ := z_bs hf
  refine zn_putF X hname hI (k := 30) (ci := 12) (ty0 := t_Mod) eh75 i_Mod t_Mod_ok n_Mod rfl (by decide) wf_Mod_87 rfl rfl rfl rfl d_Mod_init_208 (fun H locs hI => ?_)
  refine lv_aload_n hx hb d_Mod_init_211 rfl (lv_at hl 0 rfl) ?_
  refine lv_sipush (v := 520) hx hb d_Mod_init_212 (by decide) ?_
  obtain ⟨u76, eu76, hf⟩ := z_bs hf
  refine z_size (n := n + 25) hI (by omega) (Or.inr (zD_s eu76)) (fun hn => ?_)
  obtain ⟨h77, eh77, hf⟩ := z_bs hf
  refine z_newa (n := (n + 25)) (t := 0) (N := 520) (a0 := (520, .inl fun _ => 0)) (ty := .int) X hI hn rfl rfl (fun C h9 => by cases h9) wa_0 (fun _ => rfl) (by decide) (by decide) (by decide) (by decide) d_Mod_init_215 (fun H hI hn => ?_)
  rw [Option.some.inj eh77] at hI
  refine W.widen (k := 26) (n := 3048) (by decide) (by decide) ?_
  obtain ⟨h78, eh78, hf⟩ := z_bs hf
  refine zn_putF X hname hI (k := 31) (ci := 12) (ty0 := t_Mod) eh78 i_Mod t_Mod_ok n_Mod rfl (by decide) wf_Mod_90 rfl rfl rfl rfl d_Mod_init_217 (fun H locs hI => ?_)
  refine lv_aload_n hx hb d_Mod_init_220 rfl (lv_at hl 0 rfl) ?_
  refine lv_sipush (v := 520) hx hb d_Mod_init_221 (by decide) ?_
  obtain ⟨u79, eu79, hf⟩ := z_bs hf
  refine z_size (n := n + 26) hI (by omega) (Or.inr (zD_s eu79)) (fun hn => ?_)
  obtain ⟨h80, eh80, hf⟩ := z_bs hf
  refine z_newa (n := (n + 26)) (t := 0) (N := 520) (a0 := (520, .inl fun _ => 0)) (ty := .int) X hI hn rfl rfl (fun C h9 => by cases h9) wa_0 (fun _ => rfl) (by decide) (by decide) (by decide) (by decide) d_Mod_init_224 (fun H hI hn => ?_)
  rw [Option.some.inj eh80] at hI
  refine W.widen (k := 27) (n := 3568) (by decide) (by decide) ?_
  obtain ⟨h81, eh81, hf⟩ := z_bs hf
  refine zn_putF X hname hI (k := 32) (ci := 12) (ty0 := t_Mod) eh81 i_Mod t_Mod_ok n_Mod rfl (by decide) wf_Mod_93 rfl rfl rfl rfl d_Mod_init_226 (fun H locs hI => ?_)
  refine lv_aload_n hx hb d_Mod_init_229 rfl (lv_at hl 0 rfl) ?_
  refine lv_sipush (v := 600) hx hb d_Mod_init_230 (by decide) ?_
  obtain ⟨u82, eu82, hf⟩ := z_bs hf
  refine z_size (n := n + 27) hI (by omega) (Or.inr (zD_s eu82)) (fun hn => ?_)
  obtain ⟨h83, eh83, hf⟩ := z_bs hf
  refine z_newa (n := (n + 27)) (t := 0) (N := 600) (a0 := (600, .inl fun _ => 0)) (ty := .int) X hI hn rfl rfl (fun C h9 => by cases h9) wa_0 (fun _ => rfl) (by decide) (by decide) (by decide) (by decide) d_Mod_init_233 (fun H hI hn => ?_)
  rw [Option.some.inj eh83] at hI
  refine W.widen (k := 28) (n := 4168) (by decide) (by decide) ?_
  obtain ⟨h84, eh84, hf⟩ := z_bs hf
  refine zn_putF X hname hI (k := 33) (ci := 12) (ty0 := t_Mod) eh84 i_Mod t_Mod_ok n_Mod rfl (by decide) wf_Mod_96 rfl rfl rfl rfl d_Mod_init_235 (fun H locs hI => ?_)
  refine lv_aload_n hx hb d_Mod_init_238 rfl (lv_at hl 0 rfl) ?_
  refine lv_sipush (v := 520) hx hb d_Mod_init_239 (by decide) ?_
  obtain ⟨u85, eu85, hf⟩ := z_bs hf
  refine z_size (n := n + 28) hI (by omega) (Or.inr (zD_s eu85)) (fun hn => ?_)
  obtain ⟨h86, eh86, hf⟩ := z_bs hf
  refine z_newa (n := (n + 28)) (t := 3) (N := 520) (a0 := (520, .inl fun _ => 0)) (ty := .boolean) X hI hn rfl rfl (fun C h9 => by cases h9) wa_3 (fun _ => rfl) (by decide) (by decide) (by decide) (by decide) d_Mod_init_242 (fun H hI hn => ?_)
  rw [Option.some.inj eh86] at hI
  refine W.widen (k := 29) (n := 4688) (by decide) (by decide) ?_
  obtain ⟨h87, eh87, hf⟩ := z_bs hf
  refine zn_putF X hname hI (k := 34) (ci := 12) (ty0 := t_Mod) eh87 i_Mod t_Mod_ok n_Mod rfl (by decide) wf_Mod_99 rfl rfl rfl rfl d_Mod_init_244 (fun H locs hI => ?_)
  refine lv_aload_n hx hb d_Mod_init_247 rfl (lv_at hl 0 rfl) ?_
  refine lv_sipush (v := 260) hx hb d_Mod_init_248 (by decide) ?_
  obtain ⟨u88, eu88, hf⟩ := z_bs hf
  refine z_size (n := n + 29) hI (by omega) (Or.inr (zD_s eu88)) (fun hn => ?_)
  obtain ⟨h89, eh89, hf⟩ := z_bs hf
  refine z_newa (n := (n + 29)) (t := 3) (N := 260) (a0 := (260, .inl fun _ => 0)) (ty := .boolean) X hI hn rfl rfl (fun C h9 => by cases h9) wa_3 (fun _ => rfl) (by decide) (by decide) (by decide) (by decide) d_Mod_init_251 (fun H hI hn => ?_)
  rw [Option.some.inj eh89] at hI
  refine W.widen (k := 30) (n := 4948) (by decide) (by decide) ?_
  obtain ⟨h90, eh90, hf⟩ := z_bs hf
  refine zn_putF X hname hI (k := 35) (ci := 12) (ty0 := t_Mod) eh90 i_Mod t_Mod_ok n_Mod rfl (by decide) wf_Mod_102 rfl rfl rfl rfl d_Mod_init_253 (fun H locs hI => ?_)
  refine lv_aload_n hx hb d_Mod_init_256 rfl (lv_at hl 0 rfl) ?_
  refine lv_sipush (v := 260) hx hb d_Mod_init_257 (by decide) ?_
  obtain ⟨u91, eu91, hf⟩ := z_bs hf
  refine z_size (n := n + 30) hI (by omega) (Or.inr (zD_s eu91)) (fun hn => ?_)
  obtain ⟨h92, eh92, hf⟩ := z_bs hf
  refine z_newa (n := (n + 30)) (t := 3) (N := 260) (a0 := (260, .inl fun _ => 0)) (ty := .boolean) X hI hn rfl rfl (fun C h9 => by cases h9) wa_3 (fun _ => rfl) (by decide) (by decide) (by decide) (by decide) d_Mod_init_260 (fun H hI hn => ?_)
  rw [Option.some.inj eh92] at hI
  refine W.widen (k := 31) (n := 5208) (by decide) (by decide) ?_
  obtain ⟨h93, eh93, hf⟩ := z_bs hf
  refine zn_putF X hname hI (k := 36) (ci := 12) (ty0 := t_Mod) eh93 i_Mod t_Mod_ok n_Mod rfl (by decide) wf_Mod_105 rfl rfl rfl rfl d_Mod_init_262 (fun H locs hI => ?_)
  refine lv_aload_n hx hb d_Mod_init_265 rfl (lv_at hl 0 rfl) ?_
  refine lv_sipush (v := 520) hx hb d_Mod_init_266 (by decide) ?_
  obtain ⟨u94, eu94, hf⟩ := z_bs hf
  refine z_size (n := n + 31) hI (by omega) (Or.inr (zD_s eu94)) (fun hn => ?_)
  obtain ⟨h95, eh95, hf⟩ := z_bs hf
  refine z_newa (n := (n + 31)) (t := 2) (N := 520) (a0 := (520, .inr (.inl fun _ => 0))) (ty := .long) X hI hn rfl rfl (fun C h9 => by cases h9) wa_2 (fun _ => rfl) (by decide) (by decide) (by decide) (by decide) d_Mod_init_269 (fun H hI hn => ?_)
  rw [Option.some.inj eh95] at hI
  refine W.widen (k := 32) (n := 5728) (by decide) (by decide) ?_
  obtain ⟨h96, eh96, hf⟩ := z_bs hf
  refine zn_putF X hname hI (k := 37) (ci := 12) (ty0 := t_Mod) eh96 i_Mod t_Mod_ok n_Mod rfl (by decide) wf_Mod_108 rfl rfl rfl rfl d_Mod_init_271 (fun H locs hI => ?_)
  refine lv_aload_n hx hb d_Mod_init_274 rfl (lv_at hl 0 rfl) ?_
  refine lv_sipush (v := 520) hx hb d_Mod_init_275 (by decide) ?_
  obtain ⟨u97, eu97, hf⟩ := z_bs hf
  refine z_size (n := n + 32) hI (by omega) (Or.inr (zD_s eu97)) (fun hn => ?_)
  obtain ⟨h98, eh98, hf⟩ := z_bs hf
  refine z_newa (n := (n + 32)) (t := 2) (N := 520) (a0 := (520, .inr (.inl fun _ => 0))) (ty := .long) X hI hn rfl rfl (fun C h9 => by cases h9) wa_2 (fun _ => rfl) (by decide) (by decide) (by decide) (by decide) d_Mod_init_278 (fun H hI hn => ?_)
  rw [Option.some.inj eh98] at hI
  refine W.widen (k := 33) (n := 6248) (by decide) (by decide) ?_
  obtain ⟨h99, eh99, hf⟩ := z_bs hf
  refine zn_putF X hname hI (k := 38) (ci := 12) (ty0 := t_Mod) eh99 i_Mod t_Mod_ok n_Mod rfl (by decide) wf_Mod_112 rfl rfl rfl rfl d_Mod_init_280 (fun H locs hI => ?_)
  refine lv_aload_n hx hb d_Mod_init_283 rfl (lv_at hl 0 rfl) ?_
  refine lv_bipush (v := 26) hx hb d_Mod_init_284 (by decide) ?_
  obtain ⟨u100, eu100, hf⟩ := z_bs hf
  refine z_size (n := n + 33) hI (by omega) (Or.inr (zD_s eu100)) (fun hn => ?_)
  obtain ⟨h101, eh101, hf⟩ := z_bs hf
  refine z_newa (n := (n + 33)) (t := 0) (N := 26) (a0 := (26, .inl fun _ => 0)) (ty := .int) X hI hn rfl rfl (fun C h9 => by cases h9) wa_0 (fun _ => rfl) (by decide) (by decide) (by decide) (by decide) d_Mod_init_286 (fun H hI hn => ?_)
  rw [Option.some.inj eh101] at hI
  refine W.widen (k := 34) (n := 6274) (by decide) (by decide) ?_
  obtain ⟨h102, eh102, hf⟩ := z_bs hf
  refine zn_putF X hname hI (k := 39) (ci := 12) (ty0 := t_Mod) eh102 i_Mod t_Mod_ok n_Mod rfl (by decide) wf_Mod_115 rfl rfl rfl rfl d_Mod_init_288 (fun H locs hI => ?_)
  refine lv_aload_n hx hb d_Mod_init_291 rfl (lv_at hl 0 rfl) ?_
  refine lv_iconst (v := 5) hx hb d_Mod_init_292 (by decide) ?_
  obtain ⟨u103, eu103, hf⟩ := z_bs hf
  refine z_size (n := n + 34) hI (by omega) (Or.inr (zD_s eu103)) (fun hn => ?_)
  obtain ⟨h104, eh104, hf⟩ := z_bs hf
  refine z_newa (n := (n + 34)) (t := 0) (N := 5) (a0 := (5, .inl fun _ => 0)) (ty := .int) X hI hn rfl rfl (fun C h9 => by cases h9) wa_0 (fun _ => rfl) (by decide) (by decide) (by decide) (by decide) d_Mod_init_293 (fun H hI hn => ?_)
  rw [Option.some.inj eh104] at hI
  refine W.widen (k := 35) (n := 6279) (by decide) (by decide) ?_
  obtain ⟨h105, eh105, hf⟩ := z_bs hf
  refine zn_putF X hname hI (k := 40) (ci := 12) (ty0 := t_Mod) eh105 i_Mod t_Mod_ok n_Mod rfl (by decide) wf_Mod_118 rfl rfl rfl rfl d_Mod_init_295 (fun H locs hI => ?_)
  refine lv_aload_n hx hb d_Mod_init_298 rfl (lv_at hl 0 rfl) ?_
  refine lv_bipush (v := 64) hx hb d_Mod_init_299 (by decide) ?_
  obtain ⟨u106, eu106, hf⟩ := z_bs hf
  refine z_size (n := n + 35) hI (by omega) (Or.inr (zD_s eu106)) (fun hn => ?_)
  obtain ⟨h107, eh107, hf⟩ := z_bs hf
  refine z_newa (n := (n + 35)) (t := 0) (N := 64) (a0 := (64, .inl fun _ => 0)) (ty := .int) X hI hn rfl rfl (fun C h9 => by cases h9) wa_0 (fun _ => rfl) (by decide) (by decide) (by decide) (by decide) d_Mod_init_301 (fun H hI hn => ?_)
  rw [Option.some.inj eh107] at hI
  refine W.widen (k := 36) (n := 6343) (by decide) (by decide) ?_
  obtain ⟨h108, eh108, hf⟩ := z_bs hf
  refine zn_putF X hname hI (k := 51) (ci := 12) (ty0 := t_Mod) eh108 i_Mod t_Mod_ok n_Mod rfl (by decide) wf_Mod_121 rfl rfl rfl rfl d_Mod_init_303 (fun H locs hI => ?_)
  refine lv_aload_n hx hb d_Mod_init_306 rfl (lv_at hl 0 rfl) ?_
  refine lv_iconst (v := 4) hx hb d_Mod_init_307 (by decide) ?_
  obtain ⟨u109, eu109, hf⟩ := z_bs hf
  refine z_size (n := n + 36) hI (by omega) (Or.inr (zD_s eu109)) (fun hn => ?_)
  obtain ⟨h110, eh110, hf⟩ := z_bs hf
  refine z_newa (n := (n + 36)) (t := 0) (N := 4) (a0 := (4, .inl fun _ => 0)) (ty := .int) X hI hn rfl rfl (fun C h9 => by cases h9) wa_0 (fun _ => rfl) (by decide) (by decide) (by decide) (by decide) d_Mod_init_308 (fun H hI hn => ?_)
  rw [Option.some.inj eh110] at hI
  refine W.widen (k := 37) (n := 6347) (by decide) (by decide) ?_
  obtain ⟨h111, eh111, hf⟩ := z_bs hf
  refine zn_putF X hname hI (k := 52) (ci := 12) (ty0 := t_Mod) eh111 i_Mod t_Mod_ok n_Mod rfl (by decide) wf_Mod_124 rfl rfl rfl rfl d_Mod_init_310 (fun H locs hI => ?_)
  refine lv_aload_n hx hb d_Mod_init_313 rfl (lv_at hl 0 rfl) ?_
  refine lv_iconst (v := 4) hx hb d_Mod_init_314 (by decide) ?_
  obtain ⟨u112, eu112, hf⟩ := z_bs hf
  refine z_size (n := n + 37) hI (by omega) (Or.inr (zD_s eu112)) (fun hn => ?_)
  obtain ⟨h113, eh113, hf⟩ := z_bs hf
  refine z_newa (n := (n + 37)) (t := 0) (N := 4) (a0 := (4, .inl fun _ => 0)) (ty := .int) X hI hn rfl rfl (fun C h9 => by cases h9) wa_0 (fun _ => rfl) (by decide) (by decide) (by decide) (by decide) d_Mod_init_315 (fun H hI hn => ?_)
  rw [Option.some.inj eh113] at hI
  refine W.widen (k := 38) (n := 6351) (by decide) (by decide) ?_
  obtain ⟨h114, eh114, hf⟩ := z_bs hf
  refine zn_putF X hname hI (k := 53) (ci := 12) (ty0 := t_Mod) eh114 i_Mod t_Mod_ok n_Mod rfl (by decide) wf_Mod_127 rfl rfl rfl rfl d_Mod_init_317 (fun H locs hI => ?_)
  refine lv_aload_n hx hb d_Mod_init_320 rfl (lv_at hl 0 rfl) ?_
  refine lv_bipush (v := 64) hx hb d_Mod_init_321 (by decide) ?_
  obtain ⟨u115, eu115, hf⟩ := z_bs hf
  refine z_size (n := n + 38) hI (by omega) (Or.inr (zD_s eu115)) (fun hn => ?_)
  obtain ⟨h116, eh116, hf⟩ := z_bs hf
  refine z_newa (n := (n + 38)) (t := 0) (N := 64) (a0 := (64, .inl fun _ => 0)) (ty := .int) X hI hn rfl rfl (fun C h9 => by cases h9) wa_0 (fun _ => rfl) (by decide) (by decide) (by decide) (by decide) d_Mod_init_323 (fun H hI hn => ?_)
  rw [Option.some.inj eh116] at hI
  refine W.widen (k := 39) (n := 6415) (by decide) (by decide) ?_
  obtain ⟨h117, eh117, hf⟩ := z_bs hf
  refine zn_putF X hname hI (k := 58) (ci := 12) (ty0 := t_Mod) eh117 i_Mod t_Mod_ok n_Mod rfl (by decide) wf_Mod_130 rfl rfl rfl rfl d_Mod_init_325 (fun H locs hI => ?_)
  refine lv_aload_n hx hb d_Mod_init_328 rfl (lv_at hl 0 rfl) ?_
  refine lv_bipush (v := 64) hx hb d_Mod_init_329 (by decide) ?_
  obtain ⟨u118, eu118, hf⟩ := z_bs hf
  refine z_size (n := n + 39) hI (by omega) (Or.inr (zD_s eu118)) (fun hn => ?_)
  obtain ⟨h119, eh119, hf⟩ := z_bs hf
  refine z_newa (n := (n + 39)) (t := 0) (N := 64) (a0 := (64, .inl fun _ => 0)) (ty := .int) X hI hn rfl rfl (fun C h9 => by cases h9) wa_0 (fun _ => rfl) (by decide) (by decide) (by decide) (by decide) d_Mod_init_331 (fun H hI hn => ?_)
  rw [Option.some.inj eh119] at hI
  refine W.widen (k := 40) (n := 6479) (by decide) (by decide) ?_
  obtain ⟨h120, eh120, hf⟩ := z_bs hf
  refine zn_putF X hname hI (k := 59) (ci := 12) (ty0 := t_Mod) eh120 i_Mod t_Mod_ok n_Mod rfl (by decide) wf_Mod_133 rfl rfl rfl rfl d_Mod_init_333 (fun H locs hI => ?_)
  refine lv_aload_n hx hb d_Mod_init_336 rfl (lv_at hl 0 rfl) ?_
  refine lv_sipush (v := 400) hx hb d_Mod_init_337 (by decide) ?_
  obtain ⟨u121, eu121, hf⟩ := z_bs hf
  refine z_size (n := n + 40) hI (by omega) (Or.inr (zD_s eu121)) (fun hn => ?_)
  obtain ⟨h122, eh122, hf⟩ := z_bs hf
  refine z_newa (n := (n + 40)) (t := 0) (N := 400) (a0 := (400, .inl fun _ => 0)) (ty := .int) X hI hn rfl rfl (fun C h9 => by cases h9) wa_0 (fun _ => rfl) (by decide) (by decide) (by decide) (by decide) d_Mod_init_340 (fun H hI hn => ?_)
  rw [Option.some.inj eh122] at hI
  refine W.widen (k := 41) (n := 6879) (by decide) (by decide) ?_
  obtain ⟨h123, eh123, hf⟩ := z_bs hf
  refine zn_putF X hname hI (k := 60) (ci := 12) (ty0 := t_Mod) eh123 i_Mod t_Mod_ok n_Mod rfl (by decide) wf_Mod_136 rfl rfl rfl rfl d_Mod_init_342 (fun H locs hI => ?_)
  refine lv_aload_n hx hb d_Mod_init_345 rfl (lv_at hl 0 rfl) ?_
  refine lv_sipush (v := 200) hx hb d_Mod_init_346 (by decide) ?_
  obtain ⟨u124, eu124, hf⟩ := z_bs hf
  refine z_size (n := n + 41) hI (by omega) (Or.inr (zD_s eu124)) (fun hn => ?_)
  obtain ⟨h125, eh125, hf⟩ := z_bs hf
  refine z_newa (n := (n + 41)) (t := 0) (N := 200) (a0 := (200, .inl fun _ => 0)) (ty := .int) X hI hn rfl rfl (fun C h9 => by cases h9) wa_0 (fun _ => rfl) (by decide) (by decide) (by decide) (by decide) d_Mod_init_349 (fun H hI hn => ?_)
  rw [Option.some.inj eh125] at hI
  refine W.widen (k := 42) (n := 7079) (by decide) (by decide) ?_
  obtain ⟨h126, eh126, hf⟩ := z_bs hf
  refine zn_putF X hname hI (k := 61) (ci := 12) (ty0 := t_Mod) eh126 i_Mod t_Mod_ok n_Mod rfl (by decide) wf_Mod_139 rfl rfl rfl rfl d_Mod_init_351 (fun H locs hI => ?_)
  refine lv_aload_n hx hb d_Mod_init_354 rfl (lv_at hl 0 rfl) ?_
  refine lv_sipush (v := 600) hx hb d_Mod_init_355 (by decide) ?_
  obtain ⟨u127, eu127, hf⟩ := z_bs hf
  refine z_size (n := n + 42) hI (by omega) (Or.inr (zD_s eu127)) (fun hn => ?_)
  obtain ⟨h128, eh128, hf⟩ := z_bs hf
  refine z_newa (n := (n + 42)) (t := 0) (N := 600) (a0 := (600, .inl fun _ => 0)) (ty := .int) X hI hn rfl rfl (fun C h9 => by cases h9) wa_0 (fun _ => rfl) (by decide) (by decide) (by decide) (by decide) d_Mod_init_358 (fun H hI hn => ?_)
  rw [Option.some.inj eh128] at hI
  refine W.widen (k := 43) (n := 7679) (by decide) (by decide) ?_
  obtain ⟨h129, eh129, hf⟩ := z_bs hf
  refine zn_putF X hname hI (k := 62) (ci := 12) (ty0 := t_Mod) eh129 i_Mod t_Mod_ok n_Mod rfl (by decide) wf_Mod_142 rfl rfl rfl rfl d_Mod_init_360 (fun H locs hI => ?_)
  refine lv_aload_n hx hb d_Mod_init_363 rfl (lv_at hl 0 rfl) ?_
  refine lv_bipush (v := 40) hx hb d_Mod_init_364 (by decide) ?_
  obtain ⟨u130, eu130, hf⟩ := z_bs hf
  refine z_size (n := n + 43) hI (by omega) (Or.inr (zD_s eu130)) (fun hn => ?_)
  obtain ⟨h131, eh131, hf⟩ := z_bs hf
  refine z_newa (n := (n + 43)) (t := 0) (N := 40) (a0 := (40, .inl fun _ => 0)) (ty := .int) X hI hn rfl rfl (fun C h9 => by cases h9) wa_0 (fun _ => rfl) (by decide) (by decide) (by decide) (by decide) d_Mod_init_366 (fun H hI hn => ?_)
  rw [Option.some.inj eh131] at hI
  refine W.widen (k := 44) (n := 7719) (by decide) (by decide) ?_
  obtain ⟨h132, eh132, hf⟩ := z_bs hf
  refine zn_putF X hname hI (k := 63) (ci := 12) (ty0 := t_Mod) eh132 i_Mod t_Mod_ok n_Mod rfl (by decide) wf_Mod_145 rfl rfl rfl rfl d_Mod_init_368 (fun H locs hI => ?_)
  refine lv_aload_n hx hb d_Mod_init_371 rfl (lv_at hl 0 rfl) ?_
  refine lv_bipush (v := 40) hx hb d_Mod_init_372 (by decide) ?_
  obtain ⟨u133, eu133, hf⟩ := z_bs hf
  refine z_size (n := n + 44) hI (by omega) (Or.inr (zD_s eu133)) (fun hn => ?_)
  obtain ⟨h134, eh134, hf⟩ := z_bs hf
  refine z_newa (n := (n + 44)) (t := 3) (N := 40) (a0 := (40, .inl fun _ => 0)) (ty := .boolean) X hI hn rfl rfl (fun C h9 => by cases h9) wa_3 (fun _ => rfl) (by decide) (by decide) (by decide) (by decide) d_Mod_init_374 (fun H hI hn => ?_)
  rw [Option.some.inj eh134] at hI
  refine W.widen (k := 45) (n := 7759) (by decide) (by decide) ?_
  obtain ⟨h135, eh135, hf⟩ := z_bs hf
  refine zn_putF X hname hI (k := 64) (ci := 12) (ty0 := t_Mod) eh135 i_Mod t_Mod_ok n_Mod rfl (by decide) wf_Mod_148 rfl rfl rfl rfl d_Mod_init_376 (fun H locs hI => ?_)
  obtain ⟨u136, eu136, hf⟩ := z_bs hf
  refine z_size (n := n + 45) hI (by omega) (Or.inr (zD_s eu136)) (fun hn => ?_)
  cases hf
  exact zn_vret X hI hn d_Mod_init_379
